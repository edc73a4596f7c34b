
/-! what is asked, answered alike: worth, judge, does, waits, enough, loses, part, right -/
theorem CQ.e14 {g : GS} {W : Nat → Int32} {gl : List TxL} {q : Option CD} (h : CQ g W gl q) : gF g 20 14 = W 6 := h.1.2.2.2.2.2.2.2.2.2.1
theorem CQ.m6 {g : GS} {W : Nat → Int32} {gl : List TxL} {q : Option CD} (h : CQ g W gl q) : 0 ≤ (W 6).toInt ∧ (W 6).toInt ≤ 90 := h.2.1.2.2.2.2.2.2.2.1
theorem v_goal {g : GS} {W : Nat → Int32} {gl : List TxL} {q : Option CD} (h : CQ g W gl q) : gwV g (gF g 20 14) q = mGc W (W 6) gl := by
  rw [h.e14]; exact gwV_z h.1 h.2.1 h.m6 h.2.2.2
theorem OpS.lt {g : GS} {W : Nat → Int32} {gl : List TxL} {m : Int32} {T : Nat} (h : OpS g W (mGc W m gl) m T) (hW : WB W) (hT : T ≤ 60) {t s : Nat} (ht : t ≤ T) (hs : s < 32) : ltI g (nI s) (nI t) = zI (mLT W (mGc W m gl) t s).toInt ∧ (ltI g (nI s) (nI t)).toInt64 = mLT W (mGc W m gl) t s := by
  have b := mLT_zz hW m gl t s hs
  have e : ltI g (nI s) (nI t) = zI (mLT W (mGc W m gl) t s).toInt := by
    unfold ltI
    have : mxI 0 (nI t) = nI t := by
      have := mxI_sub (a := t) (b := 0) (by omega) (by omega)
      rwa [show nI t - nI 0 = nI t from Int32.sub_zero _, Nat.sub_zero] at this
    rw [this, i32m, rAt_in (by omega) (by omega), h.2.1 t s ht hs, b.1]
  exact ⟨e, by rw [e, zI_64 (by omega) (by omega), zL_of]⟩
theorem v_worth {g : GS} {W : Nat → Int32} {gl : List TxL} {q : Option CD} (h : CQ g W gl q) {t s : Nat} (ht : t ≤ 60) (hs : s < 32) : (ltI (opAll g (gF g 20 14) t q) (nI s) (nI t)).toInt64 = mLT W (mGc W (W 6) gl) t s := by
  rw [h.e14]
  exact ((opB h h.m6 ht).1.lt h.2.1 ht (Nat.le_refl t) hs).2
theorem v_judge {g : GS} {W : Nat → Int32} {gl : List TxL} {rl : Nat → List TxL} {q q2 : Option CD} (h : CQ g W gl q) {jd : Int32} (hj : JdQ q2 rl jd) (b : Int32) {k z j s : Nat} (hk : k < mN W) (hz : z < 8) (hJ : j ≤ mG W) (hs : s < 32) :
    (woI (stG g jd b (nI k) (nI z) q q2 (mT W) (mG W)) (nI j) (nI s)).toInt64 = jw (mJP W gl rl (W 6) k z (wTo W k) jd b (mG W)) j s ∧ deI (stG g jd b (nI k) (nI z) q q2 (mT W) (mG W)) (nI j) (nI s) = ja (mJP W gl rl (W 6) k z (wTo W k) jd b (mG W)) j s := by
  have hL := (st_z h hj b hk hz).2
  have hb := mJP_b h.2.1 hk hz (h.2.1.to hk) h.2.1.G gl rl (W 6) jd b
  exact ⟨hL.wo64 hb hJ hs, hL.de h.2.1.G hJ hs⟩
theorem JdQ_3 {rl : Nat → List TxL} : JdQ none rl 3 := Or.inl ⟨rfl, 3, by omega, rfl⟩
theorem JdQ_2 {rl : Nat → List TxL} : JdQ none rl 2 := Or.inl ⟨rfl, 2, by omega, rfl⟩
theorem wtB {g : GS} {W : Nat → Int32} {gl : List TxL} {q : Option CD} (h : CQ g W gl q) (rl : Nat → List TxL) : BO (wtG g q (mT W)) W gl rl (W 6) (mT W) (mG W) 3 0 none := by
  unfold wtG
  rw [h.e14]
  exact seB h h.m6 h.2.1.T JdQ_3 0
theorem v_waits {g : GS} {W : Nat → Int32} {gl : List TxL} {q : Option CD} (h : CQ g W gl q) (rl : Nat → List TxL) {k z s : Nat} (hk : k < mN W) (hz : z < 8) (hs : s < 32) :
    (woI (bbG (wtG g q (mT W)) (nI k) (nI z) (mG W)) 0 (nI s)).toInt64 - (woI (bbG (bbG (wtG g q (mT W)) (nI k) (nI z) (mG W)) (nI k) (nI z) 0) 0 (nI s)).toInt64 = jw (mJP W gl rl (W 6) k z (wTo W k) 3 0 (mG W)) 0 s - jw (mJP W gl rl (W 6) k z (wTo W k) 3 0 0) 0 s := by
  obtain ⟨b1, l1⟩ := (wtB h rl).bb h.2.1 (Nat.le_refl _) h.2.1.G hk hz
  obtain ⟨b2, l2⟩ := b1.bb h.2.1 (Nat.le_refl _) (n := 0) (by omega) hk hz
  have e1 := l1.wo64 (mJP_b h.2.1 hk hz (h.2.1.to hk) h.2.1.G gl rl (W 6) 3 0) (j := 0) (Nat.zero_le _) hs
  have e2 := l2.wo64 (mJP_b h.2.1 hk hz (h.2.1.to hk) (by omega) gl rl (W 6) 3 0) (j := 0) (Nat.zero_le _) hs
  rw [show (0 : Int32) = nI 0 from rfl, e1, e2]; rfl
theorem enR_z {W : Nat → Int32} {gl : List TxL} {rl : Nat → List TxL} (hW : WB W) {k z s : Nat} (hk : k < mN W) (hz : z < 8) (hs : s < 32) {most : Int32} (hm : most = zI (jw (mJP W gl rl (W 6) k z (wTo W k) 3 0 10) 0 s).toInt) : ∀ (d n : Nat) {g : GS} {G : Nat}, n + d = 10 → BO g W gl rl (W 6) (mT W) G 3 0 none → (enR (nI k) (nI z) (nI s) most d n g).1 = nI (enF (fun n => jw (mJP W gl rl (W 6) k z (wTo W k) 3 0 n) 0 s) d n)
  | 0, n, g, G, hn, h => by
    have e : n = 10 := by omega
    subst e; rfl
  | d + 1, n, g, G, hn, h => by
    obtain ⟨b1, l1⟩ := h.bb hW (Nat.le_refl _) (n := n) (by omega) hk hz
    have ih := enR_z hW hk hz hs hm d (n + 1) (by omega) b1
    have hb := mJP_b hW hk hz (hW.to hk) (G := n) (by omega) gl rl (W 6) 3 0
    have hb10 := mJP_b hW hk hz (hW.to hk) (G := 10) (by omega) gl rl (W 6) 3 0
    have c1 := jw_b hb 0 s hs
    have c2 := jw_b hb10 0 s hs
    have ew := l1.wo (by show n ≤ 10; omega) (j := 0) (Nat.zero_le _) hs
    unfold enR enF
    rw [show woI (bbG g (nI k) (nI z) n) 0 (nI s) = zI (jw (mJP W gl rl (W 6) k z (wTo W k) 3 0 n) 0 s).toInt from ew, hm]
    by_cases c : (jw (mJP W gl rl (W 6) k z (wTo W k) 3 0 n) 0 s).toInt = (jw (mJP W gl rl (W 6) k z (wTo W k) 3 0 10) 0 s).toInt
    · rw [if_pos ((zI_eq (by omega) (by omega) (by omega) (by omega)).mpr c), if_pos (cmp_eq.mpr c)]
    · rw [if_neg (fun x => c ((zI_eq (by omega) (by omega) (by omega) (by omega)).mp x)), if_neg (fun x => c (cmp_eq.mp x)), ← hm]; exact ih
theorem v_enough {g : GS} {W : Nat → Int32} {gl : List TxL} {q : Option CD} (h : CQ g W gl q) (rl : Nat → List TxL) {k z s : Nat} (hk : k < mN W) (hz : z < 8) (hs : s < 32) :
    (enA g (nI k) (nI z) (nI s) q (mT W)).1 = nI (enF (fun n => jw (mJP W gl rl (W 6) k z (wTo W k) 3 0 n) 0 s) 10 0) := by
  obtain ⟨b1, l1⟩ := (wtB h rl).bb h.2.1 (Nat.le_refl _) (n := 10) (by omega) hk hz
  have ew := l1.wo (by show 10 ≤ 10; omega) (j := 0) (Nat.zero_le _) hs
  exact enR_z h.2.1 hk hz hs ew 10 0 (by omega) b1
theorem zS_sub {f h : Nat → Int} : ∀ n, zS (fun i => f i - h i) n = zS f n - zS h n
  | 0 => rfl
  | n + 1 => by unfold zS; rw [zS_sub n]; omega
theorem wt_z {g : GS} {P : JP} (h : LyS g P) (hb : ZB P) {f n : Nat} (hn : f + n ≤ 32) : wtI g f n = zI (zS (fun i => (jw P 0 (f + i)).toInt) n) ∧ (wtI g f n).toInt64 = zL (zS (fun i => (jw P 0 (f + i)).toInt) n) ∧ -400000 ≤ zS (fun i => (jw P 0 (f + i)).toInt) n ∧ zS (fun i => (jw P 0 (f + i)).toInt) n ≤ 3000000 := by
  have e : wtI g f n = zI (zS (fun i => (jw P 0 (f + i)).toInt) n) := sI_z n (fun i hi => h.wo hb.2.2.2.2.2.2 (j := 0) (Nat.zero_le _) (by omega))
  have u := zS_bd (f := fun i => (jw P 0 (f + i)).toInt) (c := 80000) n (fun i hi => (jw_b hb 0 (f + i) (by omega)).2)
  have l := zS_bd (f := fun i => 0 - (jw P 0 (f + i)).toInt) (c := 9999) n (fun i hi => by have := (jw_b hb 0 (f + i) (by omega)).1; omega)
  have l2 : zS (fun i => 0 - (jw P 0 (f + i)).toInt) n = 0 - zS (fun i => (jw P 0 (f + i)).toInt) n := by
    have := zS_sub (f := fun _ => 0) (h := fun i => (jw P 0 (f + i)).toInt) n
    have z0 : ∀ m, zS (fun _ => 0) m = 0 := fun m => by
      induction m with
      | zero => rfl
      | succ m ih => unfold zS; rw [ih]; rfl
    rw [z0] at this; exact this
  rw [l2] at l
  have b1 : -400000 ≤ zS (fun i => (jw P 0 (f + i)).toInt) n := by omega
  have b2 : zS (fun i => (jw P 0 (f + i)).toInt) n ≤ 3000000 := by omega
  exact ⟨e, by rw [e, zI_64 (by omega) (by omega)], b1, b2⟩
theorem wLs_z {P3 P : JP} (h3 : ZB P3) (h : ZB P) : wLs P3 P (-1) = zL (zS (fun s => (jw P3 0 s).toInt) 32 - zS (fun s => (jw P 0 s).toInt) 32) := by
  unfold wLs
  rw [show (0 : Int64) = zL 0 from rfl, acL_z (h := fun s => (jw P3 0 s).toInt - (jw P 0 s).toInt) 32 (fun i _ => by
    unfold lsI; rw [if_pos rfl, zL_sub, zL_of, zL_of]), zS_sub]
  congr 1; omega
theorem wLs_1 {P3 P : JP} {t : Nat} (ht : t < 32) : wLs P3 P (nI t) = jw P3 0 t - jw P 0 t := by
  unfold wLs
  have key : ∀ n, n ≤ 32 → acL 0 (fun s => lsI (nI t) s (jw P3 0 s - jw P 0 s)) n = if t < n then jw P3 0 t - jw P 0 t else 0 := by
    intro n
    induction n with
    | zero => intro _; rfl
    | succ n ih =>
      intro hn
      show acL 0 _ n + lsI (nI t) n (jw P3 0 n - jw P 0 n) = _
      rw [ih (by omega)]
      unfold lsI
      rw [if_neg (nI_neg1 (by omega))]
      by_cases d : n = t
      · subst d
        rw [if_neg (Nat.lt_irrefl _), if_neg (fun x => x rfl), if_pos (by omega), Int64.zero_add]
      · rw [if_pos (nI_nq (by omega) (by omega) (fun x => d x.symm)), Int64.add_zero]
        by_cases c : t < n
        · rw [if_pos c, if_pos (by omega)]
        · rw [if_neg c, if_neg (by omega)]
  rw [key 32 (Nat.le_refl _), if_pos ht]
theorem CQ.kf {g g' : GS} {W : Nat → Int32} {gl : List TxL} {q : Option CD} (h : CQ g W gl q) (hk : KF g g') (hz : Z0 g') : CQ g' W gl q := ⟨h.1.kf hk, h.2.1, hz, h.2.2.2⟩
theorem v_loses {g : GS} {W : Nat → Int32} {gl : List TxL} {rl : Nat → List TxL} {q q2 : Option CD} (h : CQ g W gl q) {jd : Int32} (hj : JdQ q2 rl jd) (b : Int32) {k z : Nat} (hk : k < mN W) (hz : z < 8) {st : Int32} (hst : st = -1 ∨ ∃ t, t < 32 ∧ st = nI t) :
    (wtI (stG g 3 0 (nI k) (nI z) q none (mT W) (mG W)) (loF st) (loN st)).toInt64 - (wtI (stG (stG g 3 0 (nI k) (nI z) q none (mT W) (mG W)) jd b (nI k) (nI z) q q2 (mT W) (mG W)) (loF st) (loN st)).toInt64 = wLs (mJP W gl rl (W 6) k z (wTo W k) 3 0 (mG W)) (mJP W gl rl (W 6) k z (wTo W k) jd b (mG W)) st := by
  obtain ⟨b1, l1⟩ := st_z h (rl := rl) JdQ_3 0 hk hz
  have h2 := h.kf (kf_st Fr.rf 3 0 (nI k) (nI z) q none (mT W) (mG W)) b1.2.2.2.2
  obtain ⟨b2, l2⟩ := st_z h2 (rl := rl) hj b hk hz
  have hb1 := mJP_b h.2.1 hk hz (h.2.1.to hk) h.2.1.G gl rl (W 6) 3 0
  have hb2 := mJP_b h.2.1 hk hz (h.2.1.to hk) h.2.1.G gl rl (W 6) jd b
  rcases hst with rfl | ⟨t, ht, rfl⟩
  · have w1 := wt_z l1 hb1 (f := 0) (n := 32) (by omega)
    have w2 := wt_z l2 hb2 (f := 0) (n := 32) (by omega)
    rw [wLs_z hb1 hb2]
    show (wtI _ 0 32).toInt64 - (wtI _ 0 32).toInt64 = _
    rw [w1.2.1, w2.2.1, ← zL_sub, zS_congr (h := fun s => (jw (mJP W gl rl (W 6) k z (wTo W k) 3 0 (mG W)) 0 s).toInt) 32 (fun i _ => by rw [Nat.zero_add]), zS_congr (f := fun i => (jw (mJP W gl rl (W 6) k z (wTo W k) jd b (mG W)) 0 (0 + i)).toInt) (h := fun s => (jw (mJP W gl rl (W 6) k z (wTo W k) jd b (mG W)) 0 s).toInt) 32 (fun i _ => by rw [Nat.zero_add])]
  · have n1 : ¬ nI t = -1 := nI_neg1 (by omega)
    have e1 : loF (nI t) = t := by unfold loF; rw [if_neg n1, nI_clamp (by omega)]
    have e2 : loN (nI t) = 1 := by unfold loN; rw [if_neg n1]
    rw [e1, e2, wLs_1 ht]
    have a1 := l1.wo64 hb1 (j := 0) (Nat.zero_le _) ht
    have a2 := l2.wo64 hb2 (j := 0) (Nat.zero_le _) ht
    have s1 : ∀ G : GS, wtI G t 1 = woI G (nI 0) (nI t) := fun G => by
      show (0 : Int32) + woI G 0 (nI (t + 0)) = _
      rw [Int32.zero_add]; rfl
    rw [s1, s1, a1, a2]
/-! part and right: what the bench keeps -/
theorem wrI_53 (s : Nat) (u : GS × Int32) : ∀ n, gA (itN (wrStep s) n u).1 53 = gA u.1 53
  | 0 => rfl
  | n + 1 => by
    rw [itN_s]
    refine Eq.trans ?_ (wrI_53 s u n)
    unfold wrStep
    split
    · rfl
    · rfl
theorem wrS1_53 (s : Nat) (u : GS × Int32) : gA (wrS1 s u).1 53 = gA u.1 53 := rfl
theorem wrS0_53 (s : Nat) (u : GS × Int32) : gA (wrS0 s u).1 53 = gA u.1 53 := rfl
theorem wrS_53 (s : Nat) (u : GS × Int32) : gA (wrS s u).1 53 = gA u.1 53 := by
  unfold wrS
  rw [wrS1_53, wrI_53, wrS0_53]
theorem wr_53 (x : GS) : ∀ n, gA (itN wrS n (x, 0)).1 53 = gA x 53
  | 0 => rfl
  | n + 1 => by rw [itN_s, wrS_53, wr_53 x n]
theorem orI_s (f : Nat → Int32) (n : Nat) : orI f (n + 1) = orI f n ||| f n := rfl
theorem rgV_y {x y : Int64} {s : Nat} (h : x.toInt = y.toInt) : rgV x y s = 1 <<< (nI s &&& 31) := if_neg (fun z => z (cmp_eq.mpr h))
theorem rgV_n {x y : Int64} {s : Nat} (h : ¬ x.toInt = y.toInt) : rgV x y s = 0 := if_pos (fun z => h (cmp_eq.mp z))
theorem op_53 (g : GS) (m : Int32) (T : Nat) (q : Option CD) : gA (opAll g m T q) 53 = gA g 53 := by
  have e1 : ∀ n (x : GS), gA (itN opT n x) 53 = gA x 53 := fun n x => itN_inv (f := opT) (fun y => gA y 53 = gA x 53) (fun t y hy => by
    show gA (itN (opS (t + 1)) 32 y) 53 = _
    exact itN_inv (f := opS (t + 1)) (fun u => gA u 53 = gA x 53) (fun _ u hu => hu) 32 hy) n rfl
  have e2 : ∀ x : GS, gA (wrAll x) 53 = gA x 53 := fun x => by
    obtain ⟨n, hn⟩ : ∃ n, n = 32 := ⟨32, rfl⟩
    rw [wrAll_e x n hn]
    have k : ∀ m, gA (itN wrS m (x, 0)).1 53 = gA x 53 := fun m => wr_53 x m
    exact k n
  show gA (itN opT T (wrAll (op2 (op1 g m q)))) 53 = _
  rw [e1, e2]; cases q <;> rfl
theorem ly_53 (g : GS) (so z card : Int32) (q : Option CD) (G : Nat) : gA (lyAll g so z card q G) 53 = gA g 53 := by
  have e : ∀ j (x : GS), gA (lyD q j x) 53 = gA x 53 := by
    intro j
    induction j with
    | zero => intro x; exact itN_inv (f := lyF q 0) (fun y => gA y 53 = gA x 53) (fun n y hy => ((dc_fr y _ _ q).2.1 53 rfl).trans hy) 32 rfl
    | succ j ih => intro x; exact (ih _).trans (itN_inv (f := lyF q (j + 1)) (fun y => gA y 53 = gA x 53) (fun n y hy => ((dc_fr y _ _ q).2.1 53 rfl).trans hy) 32 rfl)
  exact e G _
theorem st_53 (g : GS) (j b so z : Int32) (q q2 : Option CD) (T G : Nat) : gA (stG g j b so z q q2 T G) 53 = gA g 53 := by
  unfold stG
  rw [ly_53]
  exact op_53 g _ T q
theorem rCopy_in {f h : Nat → Int32} {j : Nat} (hj : j < 352) : rCopy 352 352 f h j = f j := if_pos ⟨hj, hj⟩
theorem Z0.sa {g : GS} (h : Z0 g) (f : Nat → Int32) : Z0 (sA g 53 f) := h
theorem v_right {g : GS} {W : Nat → Int32} {gl : List TxL} {rl : Nat → List TxL} {q q2 : Option CD} (h : CQ g W gl q) {jd : Int32} (hj : JdQ q2 rl jd) (b : Int32) {k z : Nat} (hk : k < mN W) (hz : z < 8) :
    itN (skF (riG g jd b (nI k) (nI z) q q2 (mT W) (mG W))) 32 0 = orI (fun s => rgV (jw (mJP W gl rl (W 6) k z (wTo W k) 3 0 (mG W)) 0 s) (jw (mJP W gl rl (W 6) k z (wTo W k) jd b (mG W)) 0 s) s) 32 := by
  obtain ⟨b1, l1⟩ := st_z h (rl := rl) hj b hk hz
  have h1 := h.kf (kf_st Fr.rf jd b (nI k) (nI z) q q2 (mT W) (mG W)) b1.2.2.2.2
  have h2 : CQ (riK (stG g jd b (nI k) (nI z) q q2 (mT W) (mG W))) W gl q := h1.kf (Fr.rf.sA rfl) (h1.2.2.1.sa _)
  obtain ⟨b2, l2⟩ := st_z h2 (rl := rl) JdQ_3 0 hk hz
  have hb1 := mJP_b h.2.1 hk hz (h.2.1.to hk) h.2.1.G gl rl (W 6) jd b
  have hb2 := mJP_b h.2.1 hk hz (h.2.1.to hk) h.2.1.G gl rl (W 6) 3 0
  have e53 : gA (riG g jd b (nI k) (nI z) q q2 (mT W) (mG W)) 53 = rCopy 352 352 (gA (stG g jd b (nI k) (nI z) q q2 (mT W) (mG W)) 51) (gA (stG g jd b (nI k) (nI z) q q2 (mT W) (mG W)) 53) := st_53 _ _ _ _ _ _ _ _ _
  have key : ∀ n, n ≤ 32 → itN (skF (riG g jd b (nI k) (nI z) q q2 (mT W) (mG W))) n 0 = orI (fun s => rgV (jw (mJP W gl rl (W 6) k z (wTo W k) 3 0 (mG W)) 0 s) (jw (mJP W gl rl (W 6) k z (wTo W k) jd b (mG W)) 0 s) s) n := by
    intro n
    induction n with
    | zero => intro _; rfl
    | succ n ih =>
      intro hn
      rw [itN_s, ih (by omega), orI_s]
      generalize orI (fun s => rgV (jw (mJP W gl rl (W 6) k z (wTo W k) 3 0 (mG W)) 0 s) (jw (mJP W gl rl (W 6) k z (wTo W k) jd b (mG W)) 0 s) s) n = X
      have c1 := jw_b hb1 0 n (by omega)
      have c2 := jw_b hb2 0 n (by omega)
      have a1 := l2.wo h.2.1.G (j := 0) (Nat.zero_le _) (show n < 32 by omega)
      have a2 := (l1 0 n (Nat.zero_le _) (by omega)).1
      unfold skF
      rw [e53, rAt_in (by omega) (by omega), rCopy_in (by omega)]
      rw [show 32 * 0 + n = n by omega] at a2
      rw [show woI (riG g jd b (nI k) (nI z) q q2 (mT W) (mG W)) 0 (nI n) = _ from a1, a2]
      by_cases c : (jw (mJP W gl rl (W 6) k z (wTo W k) 3 0 (mG W)) 0 n).toInt = (jw (mJP W gl rl (W 6) k z (wTo W k) jd b (mG W)) 0 n).toInt
      · rw [if_neg (fun x => x ((zI_eq (by omega) (by omega) (by omega) (by omega)).mpr c)), rgV_y c]
      · rw [if_pos (fun x => c ((zI_eq (by omega) (by omega) (by omega) (by omega)).mp x)), rgV_n c, Int32.or_zero]
  exact key 32 (Nat.le_refl _)
theorem nI_i1 (n : Nat) : nI n + Int32.ofInt 1 = nI (n + 1) := nI_s n
theorem v_part {g : GS} {W : Nat → Int32} {gl : List TxL} {rl : Nat → List TxL} {q q2 q3 : Option CD} (h : CQ g W gl q) {jd j2 : Int32} (hj : JdQ q2 rl jd) (hj2 : JdQ q3 rl j2) (b : Int32) {k z : Nat} (hk : k < mN W) (hz : z < 8) (fi : Bool) :
    (bif fi then foS (paG g jd j2 b (nI k) (nI z) q q2 q3 (mT W) (mG W)) ((mG W + 1) * 32) 0 else itN (odF (paG g jd j2 b (nI k) (nI z) q q2 q3 (mT W) (mG W))) ((mG W + 1) * 32) 0) = ptS (fun i => ja (mJP W gl rl (W 6) k z (wTo W k) jd b (mG W)) (i / 32) (i % 32)) (fun i => ja (mJP W gl rl (W 6) k z (wTo W k) j2 b (mG W)) (i / 32) (i % 32)) fi (32 * (mG W + 1)) 0 0 := by
  obtain ⟨b1, l1⟩ := st_z h (rl := rl) hj b hk hz
  have h1 := h.kf (kf_st Fr.rf jd b (nI k) (nI z) q q2 (mT W) (mG W)) b1.2.2.2.2
  have h2 : CQ (paK (stG g jd b (nI k) (nI z) q q2 (mT W) (mG W))) W gl q := h1.kf (Fr.rf.sA rfl) (h1.2.2.1.sa _)
  obtain ⟨b2, l2⟩ := st_z h2 (rl := rl) hj2 b hk hz
  have hG := h.2.1.G
  have e53 : gA (paG g jd j2 b (nI k) (nI z) q q2 q3 (mT W) (mG W)) 53 = rCopy 352 352 (gA (stG g jd b (nI k) (nI z) q q2 (mT W) (mG W)) 52) (gA (stG g jd b (nI k) (nI z) q q2 (mT W) (mG W)) 53) := st_53 _ _ _ _ _ _ _ _ _
  have r1 : ∀ p, p < 32 * (mG W + 1) → rAt 352 (gA (paG g jd j2 b (nI k) (nI z) q q2 q3 (mT W) (mG W)) 53) (nI p) = ja (mJP W gl rl (W 6) k z (wTo W k) jd b (mG W)) (p / 32) (p % 32) := by
    intro p hp
    rw [e53, rAt_in (by omega) (by omega), rCopy_in (by omega)]
    have := (l1 (p / 32) (p % 32) (by show p / 32 ≤ mG W; omega) (by omega)).2
    rwa [show 32 * (p / 32) + p % 32 = p by omega] at this
  have r2 : ∀ p, p < 32 * (mG W + 1) → rAt 352 (gA (paG g jd j2 b (nI k) (nI z) q q2 q3 (mT W) (mG W)) 52) (nI p) = ja (mJP W gl rl (W 6) k z (wTo W k) j2 b (mG W)) (p / 32) (p % 32) := by
    intro p hp
    rw [rAt_in (by omega) (by omega)]
    have := (l2 (p / 32) (p % 32) (by show p / 32 ≤ mG W; omega) (by omega)).2
    rwa [show 32 * (p / 32) + p % 32 = p by omega] at this
  rw [show (mG W + 1) * 32 = 32 * (mG W + 1) by omega]
  generalize paG g jd j2 b (nI k) (nI z) q q2 q3 (mT W) (mG W) = G2 at r1 r2
  generalize ha1 : (fun i => ja (mJP W gl rl (W 6) k z (wTo W k) jd b (mG W)) (i / 32) (i % 32)) = A1
  generalize ha2 : (fun i => ja (mJP W gl rl (W 6) k z (wTo W k) j2 b (mG W)) (i / 32) (i % 32)) = A2
  have r1' : ∀ p, p < 32 * (mG W + 1) → rAt 352 (gA G2 53) (nI p) = A1 p := fun p hp => by rw [r1 p hp, ← ha1]
  have r2' : ∀ p, p < 32 * (mG W + 1) → rAt 352 (gA G2 52) (nI p) = A2 p := fun p hp => by rw [r2 p hp, ← ha2]
  cases fi with
  | true =>
    show foS G2 (32 * (mG W + 1)) 0 = _
    have key : ∀ d p n, p + d = 32 * (mG W + 1) → foS G2 d p = ptS A1 A2 true d p n := by
      intro d
      induction d with
      | zero => intro p n _; rfl
      | succ d ih =>
        intro p n hp
        unfold foS ptS
        rw [r1' p (by omega), r2' p (by omega), ih (p + 1) n (by omega)]
        by_cases c : A1 p = A2 p
        · rw [if_pos c.symm, if_pos c]
        · rw [if_neg (fun x => c x.symm), if_neg c]; rfl
    exact key _ 0 0 (by omega)
  | false =>
    show itN (odF G2) (32 * (mG W + 1)) 0 = _
    have cnt : ∀ d p n, ptS A1 A2 false (d + 1) p n = if A1 (p + d) = A2 (p + d) then ptS A1 A2 false d p n else ptS A1 A2 false d p n + Int32.ofInt 1 := by
      intro d
      induction d with
      | zero =>
        intro p n
        show (if A1 p = A2 p then nI n else nI (n + 1)) = if A1 (p + 0) = A2 (p + 0) then nI n else nI n + Int32.ofInt 1
        rw [nI_i1]; rfl
      | succ d ih =>
        intro p n
        have e := fun n => ih (p + 1) n
        rw [show p + 1 + d = p + (d + 1) by omega] at e
        show (if A1 p = A2 p then ptS A1 A2 false (d + 1) (p + 1) n else ptS A1 A2 false (d + 1) (p + 1) (n + 1)) = if A1 (p + (d + 1)) = A2 (p + (d + 1)) then (if A1 p = A2 p then ptS A1 A2 false d (p + 1) n else ptS A1 A2 false d (p + 1) (n + 1)) else (if A1 p = A2 p then ptS A1 A2 false d (p + 1) n else ptS A1 A2 false d (p + 1) (n + 1)) + Int32.ofInt 1
        rw [e n, e (n + 1)]
        by_cases c : A1 p = A2 p
        · rw [if_pos c, if_pos c]
        · rw [if_neg c, if_neg c]
    have key : ∀ d, d ≤ 32 * (mG W + 1) → itN (odF G2) d 0 = ptS A1 A2 false d 0 0 := by
      intro d
      induction d with
      | zero => intro _; rfl
      | succ d ih =>
        intro hd
        rw [itN_s, ih (by omega), cnt d 0 0, Nat.zero_add]
        unfold odF
        rw [r1' d (by omega), r2' d (by omega)]
        by_cases c : A1 d = A2 d
        · rw [if_pos c.symm, if_pos c]
        · rw [if_neg (fun x => c x.symm), if_neg c]
    exact key _ (Nat.le_refl _)
