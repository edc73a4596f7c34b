/-! what the queries leave: the Book, the texts and the tape stand -/
theorem kf_cdr {g0 g : GS} (h : KF g0 g) : KF g0 (cdrG g) := h.sF rfl
theorem kf_enR {g0 : GS} (so z st most : Int32) : ∀ (k n : Nat) {g : GS}, KF g0 g → KF g0 (enR so z st most k n g).2
  | 0, _, g, h => h
  | k + 1, n, g, h => by
    unfold enR
    by_cases c : woI (bbG g so z n) 0 st = most
    · rw [if_pos c]; exact bb_kf h so z n
    · rw [if_neg c]; exact kf_enR so z st most k (n + 1) (bb_kf h so z n)
theorem kf_wt {g0 g : GS} (h : KF g0 g) (q : Option CD) (T : Nat) : KF g0 (wtG g q T) := ((kf_open h _ _ _).sF rfl).sF rfl
theorem kf_enA {g0 g : GS} (h : KF g0 g) (so z st : Int32) (q : Option CD) (T : Nat) : KF g0 (enA g so z st q T).2 := kf_enR so z st _ 10 0 (bb_kf (kf_wt h q T) so z 10)
theorem kf_baT {g0 g : GS} (h : KF g0 g) (so z : Int32) (G b : Nat) : KF g0 (baT so z G b g) := kf_ly ((h.sF rfl).sF rfl) _ _ _ _ _
theorem kf_baR {g0 : GS} (so z : Int32) (G : Nat) : ∀ (k b : Nat) (best most : Int32) {g : GS}, KF g0 g → KF g0 (baR so z G k b best most g).2
  | 0, _, _, _, g, h => h
  | k + 1, b, best, most, g, h => by
    have h1 := kf_baT h so z G b
    unfold baR
    by_cases c : best = -1
    · rw [if_pos c]; exact kf_baR so z G k _ _ _ h1
    · rw [if_neg c]
      by_cases c2 : wtI (baT so z G b g) 0 32 ≤ most
      · rw [if_pos c2]; exact kf_baR so z G k _ _ _ h1
      · rw [if_neg c2]; exact kf_baR so z G k _ _ _ h1
theorem kf_baA {g0 g : GS} (h : KF g0 g) (so z : Int32) (q : Option CD) (T G : Nat) : KF g0 (baA g so z q T G).2 := kf_baR so z G 32 0 _ _ (kf_open h _ _ _)
theorem kf_lcR {g0 : GS} (q2 : Option CD) (G : Nat) (so sts more : Int32) : ∀ (k : Nat) (lo hi : Int32) {g : GS}, KF g0 g → KF g0 (lcR q2 G so sts more k lo hi g).2
  | 0, _, _, g, h => h
  | k + 1, lo, hi, g, h => by
    have h1 := kf_py h q2 G so ((lo + hi) / 2 + more) sts
    unfold lcR
    by_cases c : hi ≤ lo
    · rw [if_pos c]; exact h
    · rw [if_neg c]
      by_cases c2 : (pyAll q2 G so ((lo + hi) / 2 + more) sts g).1 = 0
      · rw [if_pos c2]; exact kf_lcR q2 G so sts more k _ _ h1
      · rw [if_neg c2]; exact kf_lcR q2 G so sts more k _ _ h1
theorem kf_lcA {g0 g : GS} (h : KF g0 g) (q2 : Option CD) (G : Nat) (so sts : Int32) : KF g0 (lcA q2 G so sts g).2 := by
  have h1 := kf_py h q2 G so (9999 + lcM g so) sts
  unfold lcA
  by_cases c : (pyAll q2 G so (9999 + lcM g so) sts g).1 = 0
  · rw [if_pos c]; exact kf_lcR q2 G so sts _ 14 _ _ h1
  · rw [if_neg c]; exact h1
theorem kf_msZ {g0 : GS} (q2 : Option CD) (G so : Nat) (card : Int32) (st : Bool) : ∀ (k z : Nat) (a : Int64) {g : GS}, KF g0 g → KF g0 (msZ q2 G so card st k z a g).2
  | 0, _, _, g, h => h
  | k + 1, z, a, g, h => by
    unfold msZ
    by_cases c : arR g (nI so) z 4 0 = true
    · rw [if_pos c]; exact kf_msZ q2 G so card st k _ _ (kf_ly h _ _ _ _ _)
    · rw [if_neg c]; exact kf_msZ q2 G so card st k _ _ h
theorem kf_msS {g0 : GS} (q2 : Option CD) (G : Nat) (st : Bool) : ∀ (k so : Nat) (a : Int64) {g : GS}, KF g0 g → KF g0 (msS q2 G st k so a g).2
  | 0, _, _, g, h => h
  | k + 1, so, a, g, h => by
    unfold msS
    exact kf_msS q2 G st k _ _ (kf_msZ q2 G so _ st 8 0 a h)
theorem kf_mtR {g0 : GS} (q q2 : Option CD) (T G n : Nat) : ∀ (k i : Nat) (a : Int64) {g : GS}, KF g0 g → KF g0 (mtR q q2 T G n k i a g).2
  | 0, _, _, g, h => h
  | k + 1, i, a, g, h => by
    unfold mtR
    exact kf_mtR q q2 T G n k _ _ (kf_msS q2 G false n 0 0 (kf_open h _ _ _))
theorem kf_mtA {g0 g : GS} (h : KF g0 g) (j b : Int32) (st : Bool) (q q2 : Option CD) (T G n : Nat) : KF g0 (mtA g j b st q q2 T G n).2 := by
  have h1 : KF g0 (mtS g j b) := (h.sF rfl).sF rfl
  unfold mtA
  cases st
  · exact kf_mtR q q2 T G n 9 0 0 h1
  · exact kf_msS q2 G true n 0 0 (kf_open h1 _ _ _)
theorem kf_mnZ {g0 : GS} (q2 : Option CD) (G T so : Nat) : ∀ (k z : Nat) (a : Int64) {g : GS}, KF g0 g → KF g0 (mnZ q2 G T so k z a g).2
  | 0, _, _, g, h => h
  | k + 1, z, a, g, h => by
    unfold mnZ
    exact kf_mnZ q2 G T so k _ _ (mo_kf h)
theorem kf_mnS {g0 : GS} (q2 : Option CD) (G T : Nat) : ∀ (k so : Nat) (a : Int64) {g : GS}, KF g0 g → KF g0 (mnS q2 G T k so a g).2
  | 0, _, _, g, h => h
  | k + 1, so, a, g, h => by
    unfold mnS
    exact kf_mnS q2 G T k _ _ (kf_mnZ q2 G T so 8 0 a h)
theorem kf_meA {g0 g : GS} (h : KF g0 g) (j b what : Int32) (q q2 : Option CD) (T G n : Nat) : KF g0 (meA g j b what q q2 T G n).2 := kf_mnS q2 G T n 0 0 (kf_ak (kf_se h j b q T) what T)
theorem kf_plS {g0 : GS} (so zo : Int32) (G z f : Nat) {p : P3} (h : KF g0 p.2.2) : KF g0 (plS so zo G z f p).2.2 := by
  have h1 : KF g0 (plT so zo G z f p.2.2) := kf_ly (((h.sF rfl).sF rfl).sF rfl) _ _ _ _ _
  unfold plS
  by_cases c : p.1 = -1
  · rw [if_pos c]; exact h1
  · rw [if_neg c]
    by_cases c2 : wtI (plT so zo G z f p.2.2) 0 32 ≤ p.2.1
    · rw [if_pos c2]; exact h1
    · rw [if_neg c2]; exact h1
theorem kf_plF {g0 : GS} (so zo : Int32) (G z : Nat) : ∀ (k f : Nat) {p : P3}, KF g0 p.2.2 → KF g0 (plF so zo G z k f p).2.2
  | 0, _, p, h => h
  | k + 1, f, p, h => by
    unfold plF
    exact kf_plF so zo G z k _ (kf_plS so zo G z f h)
theorem kf_plZ {g0 : GS} (so zo : Int32) (G : Nat) : ∀ (k z : Nat) {p : P3}, KF g0 p.2.2 → KF g0 (plZ so zo G k z p).2.2
  | 0, _, p, h => h
  | k + 1, z, p, h => by
    unfold plZ
    exact kf_plZ so zo G k _ (kf_plF so zo G z 5 0 h)
theorem kf_pnA {g0 g : GS} (h : KF g0 g) (so zo : Int32) (q : Option CD) (T G : Nat) : KF g0 (pnA g so zo q T G).2.2 := by
  have h0 : KF g0 ((-1, 0, opAll g (gF g 20 14) T q) : P3).2.2 := kf_open h _ _ _
  have r := kf_plZ so zo G 9 0 h0
  unfold pnA
  exact r
theorem kf_snR {g0 : GS} (q2 : Option CD) (G T : Nat) (all what : Int32) : ∀ (k : Nat) (told : Int32) {g : GS}, KF g0 g → KF g0 (snR q2 G T all what k told g).2
  | 0, _, g, h => h
  | k + 1, told, g, h => by
    unfold snR
    exact kf_snR q2 G T all what k _ (sn_kf h q2 G T all)
theorem kf_snA {g0 g : GS} (h : KF g0 g) (j b m seed what : Int32) (q q2 : Option CD) (T G n : Nat) : KF g0 (snA g j b m seed what q q2 T G n).2 := kf_snR q2 G T _ what _ _ ((kf_se h j b q T).sF rfl)
theorem kf_pd {g0 g : GS} (h : KF g0 g) (j b so z st seed : Int32) (q q2 : Option CD) (T G : Nat) : KF g0 (pdG g j b so z st seed q q2 T G) := kf_pl _ _ _ _ (((kf_st h j b so z q q2 T G).sF rfl).sF rfl)
theorem kf_en {g0 g : GS} (h : KF g0 g) (j b so z what : Int32) (q q2 : Option CD) (T G : Nat) : KF g0 (enG g j b so z what q q2 T G) := kf_sh _ (kf_ak (kf_st h j b so z q q2 T G) what T)
theorem kf_pa {g0 g : GS} (h : KF g0 g) (j i b so z : Int32) (q q2 q3 : Option CD) (T G : Nat) : KF g0 (paG g j i b so z q q2 q3 T G) := kf_st ((kf_st h j b so z q q2 T G).sA rfl) _ _ _ _ _ _ _ _
theorem kf_ri {g0 g : GS} (h : KF g0 g) (j b so z : Int32) (q q2 : Option CD) (T G : Nat) : KF g0 (riG g j b so z q q2 T G) := kf_st ((kf_st h j b so z q q2 T G).sA rfl) _ _ _ _ _ _ _ _
theorem kf_re {g0 g : GS} (h : KF g0 g) (b so : Int32) (q : Option CD) (T G n : Nat) (cds : Nat → CD) : KF g0 (reG g b so q T G n cds) := kf_wg (kf_open h _ _ _) cds G n b so
theorem kf_tw {g0 g : GS} (h : KF g0 g) (so z so2 z2 : Int32) (w : Bool) (q : Option CD) (T G : Nat) : KF g0 (twW g so z so2 z2 w q T G) := by
  unfold twW
  by_cases c : twA g so z = twA g so2 z2
  · rw [if_pos c]; exact h
  · rw [if_neg c]
    by_cases c2 : twA g so2 z2 ≤ twA g so z
    · rw [if_pos c2]
      cases w
      · exact h
      · exact kf_st h _ _ _ _ _ _ _ _
    · rw [if_neg c2]; exact h
/-! the first rows -/
theorem z_worth {g : GS} {W : Nat → Int32} {gl : List TxL} {q : Option CD} (h : CQ g W gl q) {t : Nat} (ht : t ≤ 60) : Z0 (opAll g (gF g 20 14) t q) := (opB h h.mn ht).2.2.2
theorem z_goal {g : GS} {W : Nat → Int32} {gl : List TxL} {q : Option CD} (h : CQ g W gl q) (m : Int32) : Z0 (gwG g m q) := by
  have e : gA (gwG g m q) 50 = gA g 50 ∧ gA (gwG g m q) 59 = gA g 59 := by cases q <;> exact ⟨rfl, rfl⟩
  intro s hs
  rw [e.1, e.2]
  exact h.2.2.1 s hs
theorem z_st {g : GS} {W : Nat → Int32} {gl : List TxL} {rl : Nat → List TxL} {q q2 : Option CD} (h : CQ g W gl q) {jd : Int32} (hj : JdQ q2 rl jd) (b : Int32) {k z : Nat} (hk : k < mN W) (hz : z < 8) : Z0 (stG g jd b (nI k) (nI z) q q2 (mT W) (mG W)) := (st_z h (rl := rl) hj b hk hz).1.2.2.2.2
theorem z_st2 {g : GS} {W : Nat → Int32} {gl : List TxL} {rl : Nat → List TxL} {q q2 q3 : Option CD} (h : CQ g W gl q) {j1 j2 : Int32} (hj : JdQ q2 rl j1) (hj2 : JdQ q3 rl j2) (b1 b2 : Int32) {k z : Nat} (hk : k < mN W) (hz : z < 8) : Z0 (stG (stG g j1 b1 (nI k) (nI z) q q2 (mT W) (mG W)) j2 b2 (nI k) (nI z) q q3 (mT W) (mG W)) :=
  z_st (h.kf (kf_st Fr.rf _ _ _ _ _ _ _ _) (z_st h hj b1 hk hz)) hj2 b2 hk hz
theorem z_pa {g : GS} {W : Nat → Int32} {gl : List TxL} {rl : Nat → List TxL} {q q2 q3 : Option CD} (h : CQ g W gl q) {j1 j2 : Int32} (hj : JdQ q2 rl j1) (hj2 : JdQ q3 rl j2) (b : Int32) {k z : Nat} (hk : k < mN W) (hz : z < 8) : Z0 (paG g j1 j2 b (nI k) (nI z) q q2 q3 (mT W) (mG W)) :=
  z_st (h.kf (Fr.sA (kf_st Fr.rf _ _ _ _ _ _ _ _) rfl) ((z_st h hj b hk hz).sa _)) hj2 b hk hz
theorem z_ri {g : GS} {W : Nat → Int32} {gl : List TxL} {rl : Nat → List TxL} {q q2 : Option CD} (h : CQ g W gl q) {jd : Int32} (hj : JdQ q2 rl jd) (b : Int32) {k z : Nat} (hk : k < mN W) (hz : z < 8) : Z0 (riG g jd b (nI k) (nI z) q q2 (mT W) (mG W)) :=
  z_st (rl := rl) (h.kf (Fr.sA (kf_st Fr.rf _ _ _ _ _ _ _ _) rfl) ((z_st h hj b hk hz).sa _)) JdQ_3 0 hk hz
theorem z_waits {g : GS} {W : Nat → Int32} {gl : List TxL} {q : Option CD} (h : CQ g W gl q) {k z : Nat} (hk : k < mN W) (hz : z < 8) : Z0 (bbG (bbG (wtG g q (mT W)) (nI k) (nI z) (mG W)) (nI k) (nI z) 0) :=
  (((wtB h (fun _ => [])).bb h.2.1 (Nat.le_refl _) h.2.1.G hk hz).1.bb h.2.1 (Nat.le_refl _) (n := 0) (by omega) hk hz).1.2.2.2.2
theorem z_enR {W : Nat → Int32} {gl : List TxL} {rl : Nat → List TxL} (hW : WB W) {k z : Nat} (hk : k < mN W) (hz : z < 8) (st most : Int32) : ∀ (d n : Nat) {g : GS} {G : Nat}, n + d = 10 → BO g W gl rl (W 6) (mT W) G 3 0 none → Z0 (enR (nI k) (nI z) st most d n g).2
  | 0, n, g, G, hn, h => h.2.2.2.2
  | d + 1, n, g, G, hn, h => by
    obtain ⟨b1, l1⟩ := h.bb hW (Nat.le_refl _) (n := n) (by omega) hk hz
    unfold enR
    by_cases c : woI (bbG g (nI k) (nI z) n) 0 st = most
    · rw [if_pos c]; exact b1.2.2.2.2
    · rw [if_neg c]; exact z_enR hW hk hz st most d (n + 1) (by omega) b1
theorem z_enough {g : GS} {W : Nat → Int32} {gl : List TxL} {q : Option CD} (h : CQ g W gl q) {k z : Nat} (hk : k < mN W) (hz : z < 8) (st : Int32) : Z0 (enA g (nI k) (nI z) st q (mT W)).2 :=
  z_enR h.2.1 hk hz st _ 10 0 (by omega) ((wtB h (fun _ => [])).bb h.2.1 (Nat.le_refl _) (n := 10) (by omega) hk hz).1
theorem z_baR {W : Nat → Int32} {gl : List TxL} (hW : WB W) {k z : Nat} (hk : k < mN W) (hz : z < 8) : ∀ (d b : Nat) (best most : Int32) {g : GS}, OB g W gl (W 6) (mT W) (mG W) → Z0 (baR (nI k) (nI z) (mG W) d b best most g).2
  | 0, _, _, _, g, h => h.2.2.2
  | d + 1, b, best, most, g, h => by
    have h1 := (baT_z (rl := fun _ => []) h hW (Nat.le_refl _) hk hz b).1
    unfold baR
    by_cases c : best = -1
    · rw [if_pos c]; exact z_baR hW hk hz d _ _ _ h1
    · rw [if_neg c]
      by_cases c2 : wtI (baT (nI k) (nI z) (mG W) b g) 0 32 ≤ most
      · rw [if_pos c2]; exact z_baR hW hk hz d _ _ _ h1
      · rw [if_neg c2]; exact z_baR hW hk hz d _ _ _ h1
theorem z_bar {g : GS} {W : Nat → Int32} {gl : List TxL} {q : Option CD} (h : CQ g W gl q) {k z : Nat} (hk : k < mN W) (hz : z < 8) : Z0 (baA g (nI k) (nI z) q (mT W) (mG W)).2 := by
  unfold baA
  rw [h.e14]
  exact z_baR h.2.1 hk hz 32 0 _ _ (h.ob h.m6 h.2.1.T)
theorem z_plain {g : GS} {W : Nat → Int32} {gl : List TxL} {q : Option CD} (h : CQ g W gl q) {k z : Nat} (hk : k < mN W) (hz : z < 8) : Z0 (pnA g (nI k) (nI z) q (mT W) (mG W)).2.2 := by
  have h0 : PnI W gl (fun _ => []) k z (mT W) (5 * 0) ((-1, 0, opAll g (W 6) (mT W) q) : P3) := ⟨h.ob h.m6 h.2.1.T, fun _ => rfl, fun i hi => by omega⟩
  obtain ⟨r, -⟩ := plZ_z h.2.1 (Nat.le_refl _) hk hz 9 0 (by omega) h0
  unfold pnA
  rw [h.e14]
  exact r.2.2.2
theorem z_pays {g : GS} {W : Nat → Int32} {gl : List TxL} {rl : Nat → List TxL} {q q2 : Option CD} (h : CQ g W gl q) {jd : Int32} (hj : JdQ q2 rl jd) (b : Int32) {k : Nat} (hk : k < mN W) : Z0 (pyAll q2 (mG W) (nI k) (bk_cn (seG g jd b q (mT W)) 20 (nI k)) (-1) (seG g jd b q (mT W))).2 := by
  have hB := seG_B h hj b
  exact (pyAll_z hB h.2.1 (Nat.le_refl _) h.2.1.T hk (h.2.1.to hk) (bk_cn_z hB.2.1 h.2.1 hk) (-1)).2.2.2.2.2
theorem z_lcR {W : Nat → Int32} {gl : List TxL} {rl : Nat → List TxL} {jd b : Int32} {q : Option CD} (hW : WB W) {k : Nat} (hk : k < mN W) (sts more : Int32) (hmo : ∀ told : Int32, told + more = wCd W k told) :
    ∀ (d lo hi : Nat) {g : GS}, BO g W gl rl (W 6) (mT W) (mG W) jd b q → lo ≤ 10000 → hi ≤ 9999 → Z0 (lcR q (mG W) (nI k) sts more d (nI lo) (nI hi) g).2
  | 0, lo, hi, g, h, h1, h2 => h.2.2.2.2
  | d + 1, lo, hi, g, h, h1, h2 => by
    unfold lcR
    by_cases c : nI hi ≤ nI lo
    · rw [if_pos c]; exact h.2.2.2.2
    · rw [if_neg c]
      have em : (nI lo + nI hi) / 2 = nI ((lo + hi) / 2) := nId (a := lo + hi) (b := 2) (by omega) (by omega) (nIa rfl rfl) (nIc 2)
      have lt : lo < hi := by
        rcases Nat.lt_or_ge lo hi with x | x
        · exact x
        · exact absurd (nI_le_n (b := lo) x (by omega)) c
      have ht : 0 ≤ (nI ((lo + hi) / 2)).toInt ∧ (nI ((lo + hi) / 2)).toInt ≤ 9999 := by rw [nI_toInt (by omega)]; omega
      obtain ⟨p1, p2⟩ := pyAll_z h hW (Nat.le_refl _) hW.T hk ht (hmo (nI ((lo + hi) / 2))) sts
      rw [em]
      by_cases e : (pyAll q (mG W) (nI k) (nI ((lo + hi) / 2) + more) sts g).1 = 0
      · rw [if_pos e]; exact z_lcR hW hk sts more hmo d lo ((lo + hi) / 2) p2 h1 (by omega)
      · rw [if_neg e, show nI ((lo + hi) / 2) + 1 = nI ((lo + hi) / 2 + 1) from nI_s _]
        exact z_lcR hW hk sts more hmo d ((lo + hi) / 2 + 1) hi p2 (by omega) h2
theorem z_least {g : GS} {W : Nat → Int32} {gl : List TxL} {rl : Nat → List TxL} {q q2 : Option CD} (h : CQ g W gl q) {jd : Int32} (hj : JdQ q2 rl jd) (b : Int32) {k : Nat} (hk : k < mN W) (sts : Int32) : Z0 (lcA q2 (mG W) (nI k) sts (seG g jd b q (mT W))).2 := by
  have hW := h.2.1
  have hB := seG_B h hj b
  have hmo := lcM_z hB.2.1 hW hk
  have ht : 0 ≤ (nI 9999).toInt ∧ (nI 9999).toInt ≤ 9999 := by rw [nI_toInt (by omega)]; omega
  have e9 : (9999 : Int32) + lcM (seG g jd b q (mT W)) (nI k) = wCd W k (nI 9999) := hmo (nI 9999)
  obtain ⟨p1, p2⟩ := pyAll_z hB hW (Nat.le_refl _) hW.T hk ht e9 sts
  unfold lcA
  by_cases c : (pyAll q2 (mG W) (nI k) (9999 + lcM (seG g jd b q (mT W)) (nI k)) sts (seG g jd b q (mT W))).1 = 0
  · rw [if_pos c]
    exact z_lcR hW hk sts _ hmo 14 0 9999 p2 (by omega) (by omega)
  · rw [if_neg c]
    exact p2.2.2.2.2
