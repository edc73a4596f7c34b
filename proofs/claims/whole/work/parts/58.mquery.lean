
/-! the Model: its state as text; asking a judge -/
def mT (W : Nat → Int32) : Nat := (W 5).toNatClampNeg
def mG (W : Nat → Int32) : Nat := (W 4).toNatClampNeg
def mR (W : Nat → Int32) : Nat := (W 1).toNatClampNeg
def mN (W : Nat → Int32) : Nat := (W 2).toNatClampNeg
def MOK (W : Nat → Int32) (gl : List TxL) (rl : Nat → List TxL) : Prop :=
  (mG W ≤ 10 ∧ W 4 = nI (mG W)) ∧ (1 ≤ mT W ∧ mT W ≤ 60 ∧ W 5 = nI (mT W)) ∧ (mR W ≤ 4 ∧ W 1 = nI (mR W) ∧ ∀ r, r < mR W → MTx W r (rl r)) ∧ (mN W ≤ 6 ∧ W 2 = nI (mN W)) ∧ (¬ W 3 = 0 → MTx W 4 gl) ∧ GOK gl
def jdOK (W : Nat → Int32) (jd : Int32) : Prop := jd < 100 → ¬ jd < 5 → ∃ r, r < mR W ∧ jd - 5 = nI r
def wRs (W : Nat → Int32) (k : Nat) : Int32 := sI (fun q => W (1106 + 34 * k + (2 + q))) 32
def wCd (W : Nat → Int32) (k : Nat) (told : Int32) : Int32 := told + (if W 9 ≤ 0 then 0 else wRs W k / W 9)
def wSw (W : Nat → Int32) (k z : Nat) (told : Int32) : Int32 := W (10 + z) + wCd W k told
def wAf (W : Nat → Int32) (k : Nat) (told : Int32) : Int32 := wCd W k told * (100 - W (1106 + 34 * k + 1)) / 100
def wLa (W : Nat → Int32) (k : Nat) : Int32 := if ¬ W (1106 + 34 * k + 1) = 100 then 0 else 1
def wTo (W : Nat → Int32) (k : Nat) : Int32 := W (1106 + 34 * k + 0)
def LSt (W : Nat → Int32) (gl : List TxL) (m : Int32) (g : GS) : Prop :=
  gA g 64 = W ∧ gF g 63 20 = mGc W m gl ∧ gF g 63 21 = m ∧ ∀ t s, t ≤ 60 → s < 32 → gB g 72 (32 * t + s) = mLT W (mGc W m gl) t s
def FSt (W : Nat → Int32) (k z : Nat) (told : Int32) (g : GS) : Prop :=
  gF g 63 22 = wSw W k z told ∧ gF g 63 23 = wAf W k told ∧ gF g 63 24 = nI z ∧ gF g 63 25 = wLa W k
def mSy (W : Nat → Int32) (rl : Nat → List TxL) (m : Int32) (k z : Nat) (jd : Int32) (j s : Nat) : Int32 := txDo (mFc m (W 7) s j (W (10 + z)) (wLa W k)) (rl (jd - 5).toNatClampNeg)
def mJP (W : Nat → Int32) (gl : List TxL) (rl : Nat → List TxL) (m : Int32) (k z : Nat) (told jd b : Int32) (G : Nat) : JP :=
  (W, mGc W m gl, wAf W k told, wSw W k z told, mLT W (mGc W m gl), mT W, jd, b, G, mSy W rl m k z jd)
def fA (c k : Nat) : Bool := Nat.beq c 63 && (Nat.ble 20 k && Nat.ble k 25)
def fQ (c k : Nat) : Bool := Nat.beq c 63 && (Nat.beq k 0 || ((Nat.ble 20 k && Nat.ble k 25) || Nat.beq k 31))
def aQ (c : Nat) : Bool := Nat.ble 70 c && Nat.ble c 81
theorem fQ_A (c k : Nat) (h : fQ c k = false) : fA c k = false := by
  unfold fQ at h; unfold fA; revert h
  cases Nat.beq c 63 <;> cases Nat.beq k 0 <;> cases Nat.beq k 31 <;> simp
theorem fA_LO (c k : Nat) (h : fA c k = false) : fLO c k = false := by
  cases e : fLO c k with
  | false => rfl
  | true =>
    unfold fLO at e
    rw [Bool.and_eq_true, Bool.or_eq_true, Nat.beq_eq, Nat.beq_eq, Nat.beq_eq] at e
    obtain ⟨rfl, rfl | rfl⟩ := e <;> exact absurd h (by decide)
theorem fA_0 (c k : Nat) (h : fA c k = false) : f0 c k = false := rfl
theorem aQ_J (c : Nat) (h : aQ c = false) : aJ c = false := by
  cases e : aJ c with
  | false => rfl
  | true =>
    unfold aJ at e
    rw [Bool.or_eq_true, Bool.or_eq_true, Bool.or_eq_true, Nat.beq_eq, Nat.beq_eq, Nat.beq_eq, Nat.beq_eq] at e
    rcases e with ((rfl | rfl) | rfl) | rfl <;> exact absurd h (by decide)
theorem aQ_LO (c : Nat) (h : aQ c = false) : aLO c = false := by
  cases e : aLO c with
  | false => rfl
  | true =>
    unfold aLO at e
    rw [Bool.or_eq_true, Bool.or_eq_true, Nat.beq_eq, Nat.beq_eq, Nat.beq_eq] at e
    rcases e with (rfl | rfl) | rfl <;> exact absurd h (by decide)
theorem LSt.fr {W : Nat → Int32} {gl : List TxL} {m : Int32} {g g' : GS} (h : LSt W gl m g) (h64 : gA g' 64 = gA g 64) (h20 : gF g' 63 20 = gF g 63 20) (h21 : gF g' 63 21 = gF g 63 21) (h72 : gB g' 72 = gB g 72) : LSt W gl m g' :=
  ⟨h64.trans h.1, h20.trans h.2.1, h21.trans h.2.2.1, fun t s a b => by rw [h72]; exact h.2.2.2 t s a b⟩
theorem LSt.J {W : Nat → Int32} {gl : List TxL} {m : Int32} {g g' : GS} (h : LSt W gl m g) (hf : Fr f0 aJ g g') : LSt W gl m g' := h.fr (hf.2.1 64 rfl) (hf.1 63 20 rfl) (hf.1 63 21 rfl) (hf.2.2.1 72 rfl)
theorem FSt.J {W : Nat → Int32} {k z : Nat} {told : Int32} {g g' : GS} (h : FSt W k z told g) (hf : Fr f0 aJ g g') : FSt W k z told g' :=
  ⟨(hf.1 63 22 rfl).trans h.1, (hf.1 63 23 rfl).trans h.2.1, (hf.1 63 24 rfl).trans h.2.2.1, (hf.1 63 25 rfl).trans h.2.2.2⟩
theorem LSt.Fo {W : Nat → Int32} {gl : List TxL} {m : Int32} {g : GS} {k z : Nat} {told : Int32} (h : LSt W gl m g) : LSt W gl m (mFo g k z told) := h.fr rfl rfl rfl rfl
theorem FSt.Fo {W : Nat → Int32} {g : GS} {k z : Nat} {told : Int32} (hW : gA g 64 = W) : FSt W k z told (mFo g k z told) := by
  subst hW; exact ⟨rfl, rfl, rfl, rfl⟩
theorem Fr.mFo {g0 g : GS} {k z : Nat} {told : Int32} (h : Fr fA aQ g0 g) : Fr fA aQ g0 (mFo g k z told) := Fr.sF (Fr.sF (Fr.sF (Fr.sF h rfl) rfl) rfl) rfl
theorem Fr.J {g0 g g' : GS} (h : Fr fA aQ g0 g) (hf : Fr f0 aJ g g') : Fr fA aQ g0 g' := h.tr (hf.mono fA_0 aQ_J)
theorem Fr.LO {g0 g g' : GS} (h : Fr fA aQ g0 g) (hf : Fr fLO aLO g g') : Fr fA aQ g0 g' := h.tr (hf.mono fA_LO aQ_LO)
theorem LOK.ls {g g2 : GS} {W : Nat → Int32} {m : Int32} {gl : List TxL} (hW : gA g 64 = W) (h : LOK g W m gl g2) : LSt W gl m g2 := ⟨(h.1.2.1 64 rfl).trans hW, h.2⟩
theorem nI_ltn {a b : Nat} (h : a < b) (hb : b < 2 ^ 31) : nI a < nI b := nI_lt h hb
theorem mJP_ok {W : Nat → Int32} {gl : List TxL} {rl : Nat → List TxL} {m : Int32} {k z : Nat} {told jd b : Int32} {G : Nat} {g : GS} (hM : MOK W gl rl) (hL : LSt W gl m g) (hF : FSt W k z told g) (hj : jdOK W jd) (hG : G ≤ 10) (hz : z < 8) : JOK (mJP W gl rl m k z told jd b G) g := by
  refine ⟨hL.1, hL.2.1, hF.2.1, hF.1, hL.2.2.2, hM.2.1.2.2, hM.2.1.2.1, hG, z, hz, hF.2.2.1, fun h1 h2 => ?_⟩
  obtain ⟨r, hr, he⟩ := hj h1 h2
  have hr4 : mR W ≤ 4 := hM.2.2.1.1
  refine ⟨r, rl r, by omega, he, hM.2.2.1.2.2 r hr, fun j s => ?_⟩
  rw [hL.2.2.1, hF.2.2.2]
  show txDo _ (rl (jd - 5).toNatClampNeg) = _
  rw [he, nI_clamp (by omega)]; rfl
/-- what stands when a judge has been asked -/
def AS (W : Nat → Int32) (gl : List TxL) (rl : Nat → List TxL) (m : Int32) (k z : Nat) (told jd b : Int32) (G : Nat) (g : GS) : Prop :=
  LSt W gl m g ∧ FSt W k z told g ∧ JI (mJP W gl rl m k z told jd b G) G 32 g
def jw (P : JP) (j s : Nat) : Int64 := jWo P (jG P - j) s
def ja (P : JP) (j s : Nat) : Int32 := jAc P (jG P - j) s
theorem AS.w {W : Nat → Int32} {gl : List TxL} {rl : Nat → List TxL} {m : Int32} {k z : Nat} {told jd b : Int32} {G : Nat} {g : GS} (h : AS W gl rl m k z told jd b G g) {j s : Nat} (hj : j ≤ G) (hs : s < 32) : gB g 73 (32 * j + s) = jw (mJP W gl rl m k z told jd b G) j s := by
  have h1 := (h.2.2 (G - j) s (show G - j ≤ G by omega) hs (by omega)).1
  have h2 : jG (mJP W gl rl m k z told jd b G) = G := rfl
  rw [h2, show G - (G - j) = j by omega] at h1
  exact h1
theorem AS.a {W : Nat → Int32} {gl : List TxL} {rl : Nat → List TxL} {m : Int32} {k z : Nat} {told jd b : Int32} {G : Nat} {g : GS} (h : AS W gl rl m k z told jd b G g) {j s : Nat} (hj : j ≤ G) (hs : s < 32) : gA g 74 (32 * j + s) = ja (mJP W gl rl m k z told jd b G) j s := by
  have h1 := (h.2.2 (G - j) s (show G - j ≤ G by omega) hs (by omega)).2
  have h2 : jG (mJP W gl rl m k z told jd b G) = G := rfl
  rw [h2, show G - (G - j) = j by omega] at h1
  exact h1

set_option maxRecDepth 100000 in
set_option maxHeartbeats 4000000 in
theorem ct_m_asks (g : GS) (W : Nat → Int32) (gl : List TxL) (rl : Nat → List TxL) (hW : gA g 64 = W) (hM : MOK W gl rl) (jd b : Int32) (k z : Nat) (hk : k < 6) (hz : z < 8) (hjd : jdOK W jd) : Ct mX12_asks (rm 5 0 0) [.ref 63, .int jd, .int b, .int (nI (k)), .int (nI (z))] (Wd g) (RXv (fun g2 => Fr fA aQ g g2 ∧ AS W gl rl (W 6) k z (wTo W k) jd b (mG W) g2)) := by
  have hM2 := hM
  obtain ⟨⟨hG10, hG⟩, ⟨hT1, hT60, hT⟩, ⟨hR4, hR, hrl⟩, ⟨hN6, hN⟩, hgl, hgk⟩ := hM2
  refine Ct.of (by decide +kernel) (Nat.le_of_ble_eq_true rfl) ?_
  show J _ _ _ _ 0 [some (.ref 63), some (.int jd), some (.int b), some (.int (nI (k))), some (.int (nI (z)))] [] _ 0 0
  refine J_aload_n (nx := 1) dX12_asks_0 rfl rfl ?_
  refine J_aload_n (nx := 2) dX12_asks_1 rfl rfl ?_
  refine Jg_63_1 (nx := 5) dX12_asks_2 rfl fl_X12_13 ?_
  refine J_bipush (nx := 7) (i := 6) (v := 6) (by decide) dX12_asks_5 rfl ?_
  refine Ja_64 (nx := 8) dX12_asks_7 rfl (vpE (n := 6) (nIc 6) (by omega) (by decide)) ?_
  rw [clE (n := 6) (nIc 6) (by omega)]
  rw [show gA g 64 6 = W 6 from congrFun hW 6]
  refine JvV1 (R' := rm (4) 0 0) (nx := 11) dX12_asks_8 rfl ml_X12_letsOn lk_X12_296 iv_X12_letsOn rfl rfl ⟨(Nat.le_of_ble_eq_true rfl), (Nat.le_of_ble_eq_true rfl)⟩ (Nat.le_of_ble_eq_true rfl) ⟨rfl, rfl⟩ (ct_m_letsOn g W (W 6) gl hW hgl hgk) (fun g_8 p_8 => ?_)
  have hL := LOK.ls hW p_8
  refine J_aload_n (nx := 12) dX12_asks_11 rfl rfl ?_
  refine J_iload_n (nx := 13) dX12_asks_12 rfl rfl ?_
  refine J_iload (nx := 15) dX12_asks_13 rfl rfl ?_
  refine J_aload_n (nx := 16) dX12_asks_15 rfl rfl ?_
  refine J_iload_n (nx := 17) dX12_asks_16 rfl rfl ?_
  refine JcV1 (R' := rm (1) 0 0) (nx := 20) dX12_asks_17 rfl ml_X12_toldCard lk_X12_320 iv_X12_toldCard rfl rfl ⟨(Nat.le_of_ble_eq_true rfl), (Nat.le_of_ble_eq_true rfl)⟩ (Nat.le_of_ble_eq_true rfl) ⟨rfl, rfl⟩ (ct_m_toldCard _ (k) (by omega)) ?_
  rw [show mSo g_8 k 0 = wTo W k from congrFun hL.1 _]
  refine JcV3 (R' := rm (3) 0 0) (nx := 23) dX12_asks_20 rfl ml_X12_fouls lk_X12_323 iv_X12_fouls rfl rfl ⟨(Nat.le_of_ble_eq_true rfl), (Nat.le_of_ble_eq_true rfl)⟩ (Nat.le_of_ble_eq_true rfl) ⟨rfl, rfl⟩ (ct_m_fouls g_8 k z hk hz (wTo W k)) ?_
  refine J.gen (fun g_20 hg_20 => ?_)
  refine J_aload_n (nx := 24) dX12_asks_23 rfl rfl ?_
  refine J_iload_n (nx := 25) dX12_asks_24 rfl rfl ?_
  refine J_iload_n (nx := 26) dX12_asks_25 rfl rfl ?_
  refine J_aload_n (nx := 27) dX12_asks_26 rfl rfl ?_
  refine Jg_63_1 (nx := 30) dX12_asks_27 rfl fl_X12_13 ?_
  refine J_iconst (nx := 31) (i := 4) (v := 4) (by decide) dX12_asks_30 rfl ?_
  refine Ja_64 (nx := 32) dX12_asks_31 rfl (vpE (n := 4) (nIc 4) (by omega) (by decide)) ?_
  rw [clE (n := 4) (nIc 4) (by omega)]
  have hL2 : LSt W gl (W 6) g_20 := by rw [hg_20]; exact hL.Fo
  have hF2 : FSt W k z (wTo W k) g_20 := by rw [hg_20]; exact FSt.Fo hL.1
  have hfr2 : Fr fA aQ g g_20 := by rw [hg_20]; exact Fr.mFo (Fr.rf.LO p_8.1)
  rw [show gA g_20 64 4 = nI (mG W) from (congrFun hL2.1 4).trans hG]
  refine JvV3 (R' := rm (4) 0 0) (nx := 35) dX12_asks_32 rfl ml_X12_judges lk_X12_338 iv_X12_judges rfl rfl ⟨(Nat.le_of_ble_eq_true rfl), (Nat.le_of_ble_eq_true rfl)⟩ (Nat.le_of_ble_eq_true rfl) ⟨rfl, rfl⟩ (ct_m_judges g_20 (mJP W gl rl (W 6) k z (wTo W k) jd b (mG W)) (mJP_ok hM hL2 hF2 hjd hG10 hz)) (fun g_32 p_32 => ?_)
  exact Jrv dX12_asks_35 rfl (Nat.zero_le _) (Nat.zero_le _) (RXv.of ⟨hfr2.J p_32.1, hL2.J p_32.1, hF2.J p_32.1, p_32.2⟩)

set_option maxRecDepth 100000 in
set_option maxHeartbeats 4000000 in
theorem ct_m_bestBy (g : GS) (W : Nat → Int32) (gl : List TxL) (rl : Nat → List TxL) (hW : gA g 64 = W) (hM : MOK W gl rl) (k z s G : Nat) (hk : k < 6) (hz : z < 8) (hs : s < 32) (hGG : G ≤ 10) : Ct mX12_bestBy (rm 5 0 0) [.ref 63, .int (nI (k)), .int (nI (z)), .int (nI (s)), .int (nI (G))] (Wd g) (RXl (fun x g2 => x = jw (mJP W gl rl (W 6) k z (wTo W k) 3 0 G) 0 s ∧ Fr fA aQ g g2)) := by
  have hM2 := hM
  obtain ⟨⟨hG10, hG⟩, ⟨hT1, hT60, hT⟩, ⟨hR4, hR, hrl⟩, ⟨hN6, hN⟩, hgl, hgk⟩ := hM2
  refine Ct.of (by decide +kernel) (Nat.le_of_ble_eq_true rfl) ?_
  show J _ _ _ _ 0 [some (.ref 63), some (.int (nI (k))), some (.int (nI (z))), some (.int (nI (s))), some (.int (nI (G)))] [] _ 0 0
  refine J_aload_n (nx := 1) dX12_bestBy_0 rfl rfl ?_
  refine J_aload_n (nx := 2) dX12_bestBy_1 rfl rfl ?_
  refine Jg_63_1 (nx := 5) dX12_bestBy_2 rfl fl_X12_13 ?_
  refine J_bipush (nx := 7) (i := 6) (v := 6) (by decide) dX12_bestBy_5 rfl ?_
  refine Ja_64 (nx := 8) dX12_bestBy_7 rfl (vpE (n := 6) (nIc 6) (by omega) (by decide)) ?_
  rw [clE (n := 6) (nIc 6) (by omega)]
  rw [show gA g 64 6 = W 6 from congrFun hW 6]
  refine JvV1 (R' := rm (4) 0 0) (nx := 11) dX12_bestBy_8 rfl ml_X12_letsOn lk_X12_296 iv_X12_letsOn rfl rfl ⟨(Nat.le_of_ble_eq_true rfl), (Nat.le_of_ble_eq_true rfl)⟩ (Nat.le_of_ble_eq_true rfl) ⟨rfl, rfl⟩ (ct_m_letsOn g W (W 6) gl hW hgl hgk) (fun g_8 p_8 => ?_)
  have hL := LOK.ls hW p_8
  refine J_aload_n (nx := 12) dX12_bestBy_11 rfl rfl ?_
  refine J_iload_n (nx := 13) dX12_bestBy_12 rfl rfl ?_
  refine J_iload_n (nx := 14) dX12_bestBy_13 rfl rfl ?_
  refine J_aload_n (nx := 15) dX12_bestBy_14 rfl rfl ?_
  refine J_iload_n (nx := 16) dX12_bestBy_15 rfl rfl ?_
  refine JcV1 (R' := rm (1) 0 0) (nx := 19) dX12_bestBy_16 rfl ml_X12_toldCard lk_X12_320 iv_X12_toldCard rfl rfl ⟨(Nat.le_of_ble_eq_true rfl), (Nat.le_of_ble_eq_true rfl)⟩ (Nat.le_of_ble_eq_true rfl) ⟨rfl, rfl⟩ (ct_m_toldCard _ (k) (by omega)) ?_
  rw [show mSo g_8 k 0 = wTo W k from congrFun hL.1 _]
  refine JcV3 (R' := rm (3) 0 0) (nx := 22) dX12_bestBy_19 rfl ml_X12_fouls lk_X12_323 iv_X12_fouls rfl rfl ⟨(Nat.le_of_ble_eq_true rfl), (Nat.le_of_ble_eq_true rfl)⟩ (Nat.le_of_ble_eq_true rfl) ⟨rfl, rfl⟩ (ct_m_fouls g_8 k z hk hz (wTo W k)) ?_
  refine J.gen (fun g_19 hg_19 => ?_)
  have hL2 : LSt W gl (W 6) g_19 := by rw [hg_19]; exact hL.Fo
  have hF2 : FSt W k z (wTo W k) g_19 := by rw [hg_19]; exact FSt.Fo hL.1
  have hfr2 : Fr fA aQ g g_19 := by rw [hg_19]; exact Fr.mFo (Fr.rf.LO p_8.1)
  refine J_aload_n (nx := 23) dX12_bestBy_22 rfl rfl ?_
  refine J_iconst (nx := 24) (i := 3) (v := 3) (by decide) dX12_bestBy_23 rfl ?_
  refine J_iconst (nx := 25) (i := 0) (v := 0) (by decide) dX12_bestBy_24 rfl ?_
  refine J_iload (nx := 27) dX12_bestBy_25 rfl rfl ?_
  refine JvV3 (R' := rm (4) 0 0) (nx := 30) dX12_bestBy_27 rfl ml_X12_judges lk_X12_338 iv_X12_judges rfl rfl ⟨(Nat.le_of_ble_eq_true rfl), (Nat.le_of_ble_eq_true rfl)⟩ (Nat.le_of_ble_eq_true rfl) ⟨rfl, rfl⟩ (ct_m_judges g_19 (mJP W gl rl (W 6) k z (wTo W k) 3 0 G) (mJP_ok hM hL2 hF2 (fun _ h => absurd (by decide) h) hGG hz)) (fun g_27 p_27 => ?_)
  refine J_aload_n (nx := 31) dX12_bestBy_30 rfl rfl ?_
  refine Jg_63_26 (nx := 34) dX12_bestBy_31 rfl fl_X12_46 ?_
  refine J_iload_n (nx := 35) dX12_bestBy_34 rfl rfl ?_
  refine Ja_73 (nx := 36) dX12_bestBy_35 rfl (vpE (n := s) (Eq.refl (nI (s))) (by omega) (by decide)) ?_
  rw [clE (n := s) (Eq.refl (nI (s))) (by omega)]
  exact Jrl dX12_bestBy_36 rfl (Nat.zero_le _) (Nat.zero_le _) (RXl.of ⟨by have := (AS.w (j := 0) (s := s) (show AS W gl rl (W 6) k z (wTo W k) 3 0 G g_27 from ⟨hL2.J p_27.1, hF2.J p_27.1, p_27.2⟩) (Nat.zero_le _) hs); rw [Nat.mul_zero, Nat.zero_add] at this; exact this, hfr2.J p_27.1⟩)

def aKq (c : Nat) : Bool := aQ c && !(Nat.beq c 72)
theorem aQ_Kq (c : Nat) (h : aQ c = false) : aKq c = false := by unfold aKq; rw [h]; rfl
theorem aKq_J (c : Nat) (h : aKq c = false) : aJ c = false := by
  cases e : aJ c with
  | false => rfl
  | true =>
    unfold aJ at e
    rw [Bool.or_eq_true, Bool.or_eq_true, Bool.or_eq_true, Nat.beq_eq, Nat.beq_eq, Nat.beq_eq, Nat.beq_eq] at e
    rcases e with ((rfl | rfl) | rfl) | rfl <;> exact absurd h (by decide)
theorem LSt.K {W : Nat → Int32} {gl : List TxL} {m : Int32} {f : Nat → Nat → Bool} {g g' : GS} (h : LSt W gl m g) (hf : Fr f aKq g g') (h20 : f 63 20 = false) (h21 : f 63 21 = false) : LSt W gl m g' := h.fr (hf.2.1 64 rfl) (hf.1 63 20 h20) (hf.1 63 21 h21) (hf.2.2.1 72 rfl)
theorem FSt.K {W : Nat → Int32} {k z : Nat} {told : Int32} {g g' : GS} (h : FSt W k z told g) (hf : Fr f0 aKq g g') : FSt W k z told g' :=
  ⟨(hf.1 63 22 rfl).trans h.1, (hf.1 63 23 rfl).trans h.2.1, (hf.1 63 24 rfl).trans h.2.2.1, (hf.1 63 25 rfl).trans h.2.2.2⟩
theorem AS.of {W : Nat → Int32} {gl : List TxL} {rl : Nat → List TxL} {m : Int32} {k z : Nat} {told jd b : Int32} {G : Nat} {g g2 : GS} (hL : LSt W gl m g) (hF : FSt W k z told g) (h : Fr f0 aJ g g2 ∧ JI (mJP W gl rl m k z told jd b G) G 32 g2) : AS W gl rl m k z told jd b G g2 := ⟨hL.J h.1, hF.J h.1, h.2⟩
theorem AS.w0 {W : Nat → Int32} {gl : List TxL} {rl : Nat → List TxL} {m : Int32} {k z : Nat} {told jd b : Int32} {G : Nat} {g : GS} (h : AS W gl rl m k z told jd b G g) {s : Nat} (hs : s < 32) : gB g 73 s = jw (mJP W gl rl m k z told jd b G) 0 s := by
  have := h.w (j := 0) (Nat.zero_le _) hs
  rw [Nat.mul_zero, Nat.zero_add] at this
  exact this
theorem AS.a0 {W : Nat → Int32} {gl : List TxL} {rl : Nat → List TxL} {m : Int32} {k z : Nat} {told jd b : Int32} {G : Nat} {g : GS} (h : AS W gl rl m k z told jd b G g) {s : Nat} (hs : s < 32) : gA g 74 s = ja (mJP W gl rl m k z told jd b G) 0 s := by
  have := h.a (j := 0) (Nat.zero_le _) hs
  rw [Nat.mul_zero, Nat.zero_add] at this
  exact this
def lsI (st : Int32) (s : Nat) (x : Int64) : Int64 := if st = -1 then x else if ¬ st = nI s then 0 else x
def wLs (P3 P : JP) (st : Int32) : Int64 := acL 0 (fun s => lsI st s (jw P3 0 s - jw P 0 s)) 32

theorem J.lv {M : MI} {R : Room} {Q : Res → List ME → Prop} {n0 pc : Nat} {st : List Value} {es : List ME} {k ks : Nat} {α : Type} {x y : α} (F : α → List (Option Value)) (e : x = y) (h : J M R Q n0 pc (F y) st es k ks) : J M R Q n0 pc (F x) st es k ks := e ▸ h
def a75 (c : Nat) : Bool := Nat.beq c 75
set_option maxRecDepth 100000 in
set_option maxHeartbeats 4000000 in
theorem lp_m_ls1 (Q : Res → List ME → Prop) (g0 : GS) (jd b st : Int32) (n0 : Nat) : ∀ (k : Nat) (i : Nat) (g : GS), i + k = 32 → Fr f0 a75 g0 g → (∀ s, s < i → gB g 75 s = gB g0 73 s) → (∀ g, Fr f0 a75 g0 g → (∀ s, s < 32 → gB g 75 s = gB g0 73 s) → J mX12_losesAt (rm 5 0 0) Q n0 42 [some (.ref 63), some (.int jd), some (.int b), some (.int st), some (.int (nI 32)), none, none] [] (Wd g) 0 0) → J mX12_losesAt (rm 5 0 0) (Q) n0 15 [some (.ref 63), some (.int jd), some (.int b), some (.int st), some (.int (nI (i))), none, none] [] (Wd g) 0 0 := by
  intro k
  induction k with
  | zero =>
    intro i g hk hfr hI hK
    refine J_iload (nx := 17) dX12_losesAt_15 rfl rfl ?_
    refine J_bipush (nx := 19) (i := 32) (v := 32) (by decide) dX12_losesAt_17 rfl ?_
    refine J_icmp_ge (nx := 22) (tgt := 42) dX12_losesAt_19 rfl (by decide) (fun c_19 => ?_) (fun c_19 => ?_)
    · obtain rfl : i = 32 := by omega
      exact hK g hfr hI
    · exact absurd (show nI 32 ≤ nI i from by rw [show i = 32 by omega]; exact le_self_nI) c_19
  | succ k ih =>
    intro i g hk hfr hI hK
    refine J_iload (nx := 17) dX12_losesAt_15 rfl rfl ?_
    refine J_bipush (nx := 19) (i := 32) (v := 32) (by decide) dX12_losesAt_17 rfl ?_
    refine J_icmp_ge (nx := 22) (tgt := 42) dX12_losesAt_19 rfl (by decide) (fun c_19 => ?_) (fun c_19 => ?_)
    · exact absurd c_19 (nlt_nI (n := 32) (by omega) (by omega))
    · have hi : i < 32 := by omega
      refine J_aload_n (nx := 23) dX12_losesAt_22 rfl rfl ?_
      refine Jg_63_28 (nx := 26) dX12_losesAt_23 rfl fl_X12_52 ?_
      refine J_iload (nx := 28) dX12_losesAt_26 rfl rfl ?_
      refine J_aload_n (nx := 29) dX12_losesAt_28 rfl rfl ?_
      refine Jg_63_26 (nx := 32) dX12_losesAt_29 rfl fl_X12_46 ?_
      refine J_iload (nx := 34) dX12_losesAt_32 rfl rfl ?_
      refine Ja_73 (nx := 35) dX12_losesAt_34 rfl (vpE (n := i) (Eq.refl (nI (i))) (by omega) (by decide)) ?_
      rw [clE (n := i) (Eq.refl (nI (i))) (by omega)]
      refine Jt_75 (nx := 36) dX12_losesAt_35 rfl (vpE (n := i) (Eq.refl (nI (i))) (by omega) (by decide)) ?_
      rw [clE (n := i) (Eq.refl (nI (i))) (by omega)]
      refine J.gen (fun g_35 hg_35 => ?_)
      refine J_iinc (nx := 39) dX12_losesAt_36 rfl rfl rfl (Nat.le_of_ble_eq_true rfl) ?_
      refine J_goto (nx := 15) dX12_losesAt_39 (by decide) ?_
      rw [show (nI (i) + Int32.ofInt 1) = nI (i + 1) from (show nI (i) + Int32.ofInt 1 = nI (i + 1) from nI_add (i) 1)]
      refine ih (i + 1) g_35 (by omega) (by rw [hg_35]; exact hfr.sB rfl) (fun s hs => ?_) hK
      rw [hg_35]
      show (if s = i then gB g 73 i else gB g 75 s) = gB g0 73 s
      by_cases e : s = i
      · rw [if_pos e, e, hfr.2.2.1 73 rfl]
      · rw [if_neg e]; exact hI s (by omega)

set_option maxRecDepth 100000 in
set_option maxHeartbeats 4000000 in
theorem lp_m_ls2 (Q : Res → List ME → Prop) (g : GS) (jd b st : Int32) (n0 : Nat) : ∀ (k : Nat) (i : Nat), i + k = 32 → J mX12_losesAt (rm 5 0 0) Q n0 108 [some (.ref 63), some (.int jd), some (.int b), some (.int st), some (.long (acL 0 (fun s => lsI st s (gB g 75 s - gB g 73 s)) 32)), none, some (.int (nI 32))] [] (Wd g) 0 0 → J mX12_losesAt (rm 5 0 0) (Q) n0 60 [some (.ref 63), some (.int jd), some (.int b), some (.int st), some (.long (acL 0 (fun s => lsI st s (gB g 75 s - gB g 73 s)) i)), none, some (.int (nI (i)))] [] (Wd g) 0 0 := by
  intro k
  induction k with
  | zero =>
    intro i hk hK
    refine J_iload (nx := 62) dX12_losesAt_60 rfl rfl ?_
    refine J_bipush (nx := 64) (i := 32) (v := 32) (by decide) dX12_losesAt_62 rfl ?_
    refine J_icmp_ge (nx := 67) (tgt := 108) dX12_losesAt_64 rfl (by decide) (fun c_64 => ?_) (fun c_64 => ?_)
    · obtain rfl : i = 32 := by omega
      exact hK
    · exact absurd (show nI 32 ≤ nI i from by rw [show i = 32 by omega]; exact le_self_nI) c_64
  | succ k ih =>
    intro i hk hK
    refine J_iload (nx := 62) dX12_losesAt_60 rfl rfl ?_
    refine J_bipush (nx := 64) (i := 32) (v := 32) (by decide) dX12_losesAt_62 rfl ?_
    refine J_icmp_ge (nx := 67) (tgt := 108) dX12_losesAt_64 rfl (by decide) (fun c_64 => ?_) (fun c_64 => ?_)
    · exact absurd c_64 (nlt_nI (n := 32) (by omega) (by omega))
    · have hi : i < 32 := by omega
      refine J_lload (nx := 69) dX12_losesAt_67 rfl rfl ?_
      refine J_iload_n (nx := 70) dX12_losesAt_69 rfl rfl ?_
      refine J_iconst (nx := 71) (i := -1) (v := -1) (by decide) dX12_losesAt_70 rfl ?_
      refine J_icmp_eq (nx := 74) (tgt := 80) dX12_losesAt_71 rfl (by decide) (fun c_71 => ?_) (fun c_71 => ?_)
      · refine J_aload_n (nx := 81) dX12_losesAt_80 rfl rfl ?_
        refine Jg_63_28 (nx := 84) dX12_losesAt_81 rfl fl_X12_52 ?_
        refine J_iload (nx := 86) dX12_losesAt_84 rfl rfl ?_
        refine Ja_75 (nx := 87) dX12_losesAt_86 rfl (vpE (n := i) (Eq.refl (nI (i))) (by omega) (by decide)) ?_
        rw [clE (n := i) (Eq.refl (nI (i))) (by omega)]
        refine J_aload_n (nx := 88) dX12_losesAt_87 rfl rfl ?_
        refine Jg_63_26 (nx := 91) dX12_losesAt_88 rfl fl_X12_46 ?_
        refine J_iload (nx := 93) dX12_losesAt_91 rfl rfl ?_
        refine Ja_73 (nx := 94) dX12_losesAt_93 rfl (vpE (n := i) (Eq.refl (nI (i))) (by omega) (by decide)) ?_
        rw [clE (n := i) (Eq.refl (nI (i))) (by omega)]
        refine J_lsub (nx := 95) dX12_losesAt_94 rfl ?_
        refine J_goto (nx := 99) dX12_losesAt_95 (by decide) ?_
        refine J_ladd (nx := 100) dX12_losesAt_99 rfl ?_
        refine J_lstore (nx := 102) dX12_losesAt_100 rfl rfl (Nat.le_of_ble_eq_true rfl) ?_
        refine J_iinc (nx := 105) dX12_losesAt_102 rfl rfl rfl (Nat.le_of_ble_eq_true rfl) ?_
        refine J_goto (nx := 60) dX12_losesAt_105 (by decide) ?_
        rw [show (nI (i) + Int32.ofInt 1) = nI (i + 1) from (show nI (i) + Int32.ofInt 1 = nI (i + 1) from nI_add (i) 1)]
        refine J.lv (fun v => [some (.ref 63), some (.int jd), some (.int b), some (.int st), some (.long (v)), none, some (.int (nI (i + 1)))]) ?_ (ih (i + 1) (by omega) hK)
        exact congrArg (acL 0 (fun s => lsI st s (gB g 75 s - gB g 73 s)) i + ·) (by show _ = lsI st i (gB g 75 i - gB g 73 i); unfold lsI; (try (first | rw [if_pos (show st = -1 from c_71)] | rw [if_neg (show ¬ st = -1 from c_71)])); (try (first | rw [if_pos (show ¬ st = nI i from c_77)] | rw [if_neg (show ¬ ¬ st = nI i from fun z => z c_77)])))
      · refine J_iload_n (nx := 75) dX12_losesAt_74 rfl rfl ?_
        refine J_iload (nx := 77) dX12_losesAt_75 rfl rfl ?_
        refine J_icmp_ne (nx := 80) (tgt := 98) dX12_losesAt_77 rfl (by decide) (fun c_77 => ?_) (fun c_77 => ?_)
        · refine J_lconst (nx := 99) (i := 0) (v := 0) (by decide) dX12_losesAt_98 rfl ?_
          refine J_ladd (nx := 100) dX12_losesAt_99 rfl ?_
          refine J_lstore (nx := 102) dX12_losesAt_100 rfl rfl (Nat.le_of_ble_eq_true rfl) ?_
          refine J_iinc (nx := 105) dX12_losesAt_102 rfl rfl rfl (Nat.le_of_ble_eq_true rfl) ?_
          refine J_goto (nx := 60) dX12_losesAt_105 (by decide) ?_
          rw [show (nI (i) + Int32.ofInt 1) = nI (i + 1) from (show nI (i) + Int32.ofInt 1 = nI (i + 1) from nI_add (i) 1)]
          refine J.lv (fun v => [some (.ref 63), some (.int jd), some (.int b), some (.int st), some (.long (v)), none, some (.int (nI (i + 1)))]) ?_ (ih (i + 1) (by omega) hK)
          exact congrArg (acL 0 (fun s => lsI st s (gB g 75 s - gB g 73 s)) i + ·) (by show _ = lsI st i (gB g 75 i - gB g 73 i); unfold lsI; (try (first | rw [if_pos (show st = -1 from c_71)] | rw [if_neg (show ¬ st = -1 from c_71)])); (try (first | rw [if_pos (show ¬ st = nI i from c_77)] | rw [if_neg (show ¬ ¬ st = nI i from fun z => z c_77)])))
        · refine J_aload_n (nx := 81) dX12_losesAt_80 rfl rfl ?_
          refine Jg_63_28 (nx := 84) dX12_losesAt_81 rfl fl_X12_52 ?_
          refine J_iload (nx := 86) dX12_losesAt_84 rfl rfl ?_
          refine Ja_75 (nx := 87) dX12_losesAt_86 rfl (vpE (n := i) (Eq.refl (nI (i))) (by omega) (by decide)) ?_
          rw [clE (n := i) (Eq.refl (nI (i))) (by omega)]
          refine J_aload_n (nx := 88) dX12_losesAt_87 rfl rfl ?_
          refine Jg_63_26 (nx := 91) dX12_losesAt_88 rfl fl_X12_46 ?_
          refine J_iload (nx := 93) dX12_losesAt_91 rfl rfl ?_
          refine Ja_73 (nx := 94) dX12_losesAt_93 rfl (vpE (n := i) (Eq.refl (nI (i))) (by omega) (by decide)) ?_
          rw [clE (n := i) (Eq.refl (nI (i))) (by omega)]
          refine J_lsub (nx := 95) dX12_losesAt_94 rfl ?_
          refine J_goto (nx := 99) dX12_losesAt_95 (by decide) ?_
          refine J_ladd (nx := 100) dX12_losesAt_99 rfl ?_
          refine J_lstore (nx := 102) dX12_losesAt_100 rfl rfl (Nat.le_of_ble_eq_true rfl) ?_
          refine J_iinc (nx := 105) dX12_losesAt_102 rfl rfl rfl (Nat.le_of_ble_eq_true rfl) ?_
          refine J_goto (nx := 60) dX12_losesAt_105 (by decide) ?_
          rw [show (nI (i) + Int32.ofInt 1) = nI (i + 1) from (show nI (i) + Int32.ofInt 1 = nI (i + 1) from nI_add (i) 1)]
          refine J.lv (fun v => [some (.ref 63), some (.int jd), some (.int b), some (.int st), some (.long (v)), none, some (.int (nI (i + 1)))]) ?_ (ih (i + 1) (by omega) hK)
          exact congrArg (acL 0 (fun s => lsI st s (gB g 75 s - gB g 73 s)) i + ·) (by show _ = lsI st i (gB g 75 i - gB g 73 i); unfold lsI; (try (first | rw [if_pos (show st = -1 from c_71)] | rw [if_neg (show ¬ st = -1 from c_71)])); (try (first | rw [if_pos (show ¬ st = nI i from c_77)] | rw [if_neg (show ¬ ¬ st = nI i from fun z => z c_77)])))

theorem aKq_75 (c : Nat) (h : aKq c = false) : a75 c = false := by
  cases e : a75 c with
  | false => rfl
  | true => unfold a75 at e; rw [Nat.beq_eq] at e; subst e; exact absurd h (by decide)
set_option maxRecDepth 100000 in
set_option maxHeartbeats 4000000 in
theorem ct_m_losesAt (g : GS) (W : Nat → Int32) (gl : List TxL) (rl : Nat → List TxL) (m : Int32) (hM : MOK W gl rl) (hL : LSt W gl m g) (jd b st : Int32) (k z : Nat) (told : Int32) (hz : z < 8) (hF : FSt W k z told g) (hjd : jdOK W jd) : Ct mX12_losesAt (rm 5 0 0) [.ref 63, .int jd, .int b, .int st] (Wd g) (RXl (fun x g2 => x = wLs (mJP W gl rl m k z told 3 0 (mG W)) (mJP W gl rl m k z told jd b (mG W)) st ∧ Fr f0 aKq g g2 ∧ (∀ s, s < 32 → gB g2 75 s = jw (mJP W gl rl m k z told 3 0 (mG W)) 0 s) ∧ AS W gl rl m k z told jd b (mG W) g2)) := by
  refine Ct.of (by decide +kernel) (Nat.le_of_ble_eq_true rfl) ?_
  show J _ _ _ _ 0 [some (.ref 63), some (.int jd), some (.int b), some (.int st), none, none, none] [] _ 0 0
  have hM2 := hM
  obtain ⟨⟨hG10, hG⟩, ⟨hT1, hT60, hT⟩, ⟨hR4, hR, hrl⟩, ⟨hN6, hN⟩, hgl, hgk⟩ := hM2
  refine J_aload_n (nx := 1) dX12_losesAt_0 rfl rfl ?_
  refine J_iconst (nx := 2) (i := 3) (v := 3) (by decide) dX12_losesAt_1 rfl ?_
  refine J_iconst (nx := 3) (i := 0) (v := 0) (by decide) dX12_losesAt_2 rfl ?_
  refine J_aload_n (nx := 4) dX12_losesAt_3 rfl rfl ?_
  refine Jg_63_1 (nx := 7) dX12_losesAt_4 rfl fl_X12_13 ?_
  refine J_iconst (nx := 8) (i := 4) (v := 4) (by decide) dX12_losesAt_7 rfl ?_
  refine Ja_64 (nx := 9) dX12_losesAt_8 rfl (vpE (n := 4) (nIc 4) (by omega) (by decide)) ?_
  rw [clE (n := 4) (nIc 4) (by omega)]
  rw [show gA g 64 4 = nI (mG W) from (congrFun hL.1 4).trans hG]
  refine JvV3 (R' := rm (4) 0 0) (nx := 12) dX12_losesAt_9 rfl ml_X12_judges lk_X12_338 iv_X12_judges rfl rfl ⟨(Nat.le_of_ble_eq_true rfl), (Nat.le_of_ble_eq_true rfl)⟩ (Nat.le_of_ble_eq_true rfl) ⟨rfl, rfl⟩ (ct_m_judges g (mJP W gl rl m k z told 3 0 (mG W)) (mJP_ok hM hL hF (fun _ h => absurd (by decide) h) hG10 hz)) (fun g_9 p_9 => ?_)
  refine J_iconst (nx := 13) (i := 0) (v := 0) (by decide) dX12_losesAt_12 rfl ?_
  refine J_istore (nx := 15) dX12_losesAt_13 rfl rfl (Nat.le_of_ble_eq_true rfl) ?_
  have hA1 := AS.of hL hF p_9
  refine lp_m_ls1 _ g_9 jd b st _ 32 0 g_9 rfl Fr.rf (fun s h => absurd h (Nat.not_lt_zero _)) (fun g3 h3 hb => ?_)
  have hL3 : LSt W gl m g3 := hA1.1.fr (h3.2.1 64 rfl) (h3.1 63 20 rfl) (h3.1 63 21 rfl) (h3.2.2.1 72 rfl)
  have hF3 : FSt W k z told g3 := ⟨(h3.1 63 22 rfl).trans hA1.2.1.1, (h3.1 63 23 rfl).trans hA1.2.1.2.1, (h3.1 63 24 rfl).trans hA1.2.1.2.2.1, (h3.1 63 25 rfl).trans hA1.2.1.2.2.2⟩
  refine J_aload_n (nx := 43) dX12_losesAt_42 rfl rfl ?_
  refine J_iload_n (nx := 44) dX12_losesAt_43 rfl rfl ?_
  refine J_iload_n (nx := 45) dX12_losesAt_44 rfl rfl ?_
  refine J_aload_n (nx := 46) dX12_losesAt_45 rfl rfl ?_
  refine Jg_63_1 (nx := 49) dX12_losesAt_46 rfl fl_X12_13 ?_
  refine J_iconst (nx := 50) (i := 4) (v := 4) (by decide) dX12_losesAt_49 rfl ?_
  refine Ja_64 (nx := 51) dX12_losesAt_50 rfl (vpE (n := 4) (nIc 4) (by omega) (by decide)) ?_
  rw [clE (n := 4) (nIc 4) (by omega)]
  rw [show gA g3 64 4 = nI (mG W) from (congrFun hL3.1 4).trans hG]
  refine JvV3 (R' := rm (4) 0 0) (nx := 54) dX12_losesAt_51 rfl ml_X12_judges lk_X12_338 iv_X12_judges rfl rfl ⟨(Nat.le_of_ble_eq_true rfl), (Nat.le_of_ble_eq_true rfl)⟩ (Nat.le_of_ble_eq_true rfl) ⟨rfl, rfl⟩ (ct_m_judges g3 (mJP W gl rl m k z told jd b (mG W)) (mJP_ok hM hL3 hF3 hjd hG10 hz)) (fun g_51 p_51 => ?_)
  refine J_lconst (nx := 55) (i := 0) (v := 0) (by decide) dX12_losesAt_54 rfl ?_
  refine J_lstore (nx := 57) dX12_losesAt_55 rfl rfl (Nat.le_of_ble_eq_true rfl) ?_
  refine J_iconst (nx := 58) (i := 0) (v := 0) (by decide) dX12_losesAt_57 rfl ?_
  refine J_istore (nx := 60) dX12_losesAt_58 rfl rfl (Nat.le_of_ble_eq_true rfl) ?_
  refine lp_m_ls2 _ g_51 jd b st _ 32 0 rfl ?_
  have hA2 := AS.of hL3 hF3 p_51
  refine J_lload (nx := 110) dX12_losesAt_108 rfl rfl ?_
  exact Jrl dX12_losesAt_110 rfl (Nat.zero_le _) (Nat.zero_le _) (RXl.of ⟨acL_congr 32 (fun s hs => by rw [p_51.1.2.2.1 75 rfl, hb s hs, hA1.w0 hs, hA2.w0 hs]), ((p_9.1.mono (fun _ _ h => h) aKq_J).tr (h3.mono (fun _ _ h => h) aKq_75)).tr (p_51.1.mono (fun _ _ h => h) aKq_J), (fun s hs => by rw [p_51.1.2.2.1 75 rfl, hb s hs, hA1.w0 hs]), hA2⟩)


def orI (f : Nat → Int32) : Nat → Int32
  | 0 => 0
  | n + 1 => orI f n ||| f n
def pyV (x y : Int64) (s : Nat) : Int32 := if lg_cmp x y ≤ 0 then 0 else 1 <<< (nI s &&& 31)
def wPy (W : Nat → Int32) (gl : List TxL) (rl : Nat → List TxL) (m : Int32) (k : Nat) (told jd b : Int32) (s : Nat) : Int32 :=
  pyV (mLT W (mGc W m gl) (mT W) s) (jw (mJP W gl rl m k (s / 4) told jd b (mG W)) 0 s) s
def mtV (stp : Int32) (w : Int64) (a : Int32) : Int64 := if ¬ stp = 0 then (if ¬ a = 0 then 0 else 1) else w
def mtT (W : Nat → Int32) (gl : List TxL) (rl : Nat → List TxL) (m jd b stp : Int32) (n : Nat) : Int64 :=
  (W (1106 + 34 * (n / 32) + (2 + n % 32))).toInt64 * mtV stp (jw (mJP W gl rl m (n / 32) (n % 32 / 4) (wTo W (n / 32)) jd b (mG W)) 0 (n % 32)) (ja (mJP W gl rl m (n / 32) (n % 32 / 4) (wTo W (n / 32)) jd b (mG W)) 0 (n % 32))
theorem nI_le4 {z i : Nat} (h : i < 4) (hz : z < 8) : ¬ nI (4 * z + 4) ≤ nI (4 * z + i) := nlt_nI (n := 4 * z + 4) (by omega) (by omega)

set_option maxRecDepth 100000 in
set_option maxHeartbeats 4000000 in
theorem lp_m_py1 (Q : Res → List ME → Prop) (g : GS) (W : Nat → Int32) (gl : List TxL) (rl : Nat → List TxL) (m told jd b : Int32) (k0 z : Nat) (hz : z < 8) (hT60 : mT W ≤ 60) (hT : W 5 = nI (mT W)) (hA : AS W gl rl m k0 z told jd b (mG W) g) (n0 : Nat) : ∀ (k : Nat) (i : Nat), i + k = 4 → J mX12_paying (rm 5 0 0) Q n0 98 [some (.ref 63), some (.int jd), some (.int b), some (.int (nI (k0))), some (.int told), some (.int (orI (wPy W gl rl m k0 told jd b) (4 * z + 4))), some (.int (nI (z))), some (.int (nI (4 * z + 4)))] [] (Wd g) 0 0 → J mX12_paying (rm 5 0 0) (Q) n0 40 [some (.ref 63), some (.int jd), some (.int b), some (.int (nI (k0))), some (.int told), some (.int (orI (wPy W gl rl m k0 told jd b) (4 * z + i))), some (.int (nI (z))), some (.int (nI (4 * z + i)))] [] (Wd g) 0 0 := by
  intro k
  induction k with
  | zero =>
    intro i hk hK
    refine J_iload (nx := 42) dX12_paying_40 rfl rfl ?_
    refine J_iconst (nx := 43) (i := 4) (v := 4) (by decide) dX12_paying_42 rfl ?_
    refine J_iload (nx := 45) dX12_paying_43 rfl rfl ?_
    refine J_imul (nx := 46) dX12_paying_45 rfl ?_
    refine J_iconst (nx := 47) (i := 4) (v := 4) (by decide) dX12_paying_46 rfl ?_
    refine J_iadd (nx := 48) dX12_paying_47 rfl ?_
    rw [show (((4 : Int32) * nI (z)) + (4 : Int32)) = nI (((4 * z) + 4)) from (nIa (nIm (nIc 4) (Eq.refl (nI (z)))) (nIc 4))]
    refine J_icmp_ge (nx := 51) (tgt := 98) dX12_paying_48 rfl (by decide) (fun c_48 => ?_) (fun c_48 => ?_)
    · obtain rfl : i = 4 := by omega
      exact hK
    · exact absurd (show nI (4 * z + 4) ≤ nI (4 * z + i) from by rw [show i = 4 by omega]; exact le_self_nI) c_48
  | succ k ih =>
    intro i hk hK
    refine J_iload (nx := 42) dX12_paying_40 rfl rfl ?_
    refine J_iconst (nx := 43) (i := 4) (v := 4) (by decide) dX12_paying_42 rfl ?_
    refine J_iload (nx := 45) dX12_paying_43 rfl rfl ?_
    refine J_imul (nx := 46) dX12_paying_45 rfl ?_
    refine J_iconst (nx := 47) (i := 4) (v := 4) (by decide) dX12_paying_46 rfl ?_
    refine J_iadd (nx := 48) dX12_paying_47 rfl ?_
    rw [show (((4 : Int32) * nI (z)) + (4 : Int32)) = nI (((4 * z) + 4)) from (nIa (nIm (nIc 4) (Eq.refl (nI (z)))) (nIc 4))]
    refine J_icmp_ge (nx := 51) (tgt := 98) dX12_paying_48 rfl (by decide) (fun c_48 => ?_) (fun c_48 => ?_)
    · exact absurd c_48 (nI_le4 (by omega) hz)
    · have hi : i < 4 := by omega
      refine J_iload (nx := 53) dX12_paying_51 rfl rfl ?_
      refine J_aload_n (nx := 54) dX12_paying_53 rfl rfl ?_
      refine Jg_63_19 (nx := 57) dX12_paying_54 rfl fl_X12_42 ?_
      refine J_bipush (nx := 59) (i := 32) (v := 32) (by decide) dX12_paying_57 rfl ?_
      refine J_aload_n (nx := 60) dX12_paying_59 rfl rfl ?_
      refine Jg_63_1 (nx := 63) dX12_paying_60 rfl fl_X12_13 ?_
      refine J_iconst (nx := 64) (i := 5) (v := 5) (by decide) dX12_paying_63 rfl ?_
      refine Ja_64 (nx := 65) dX12_paying_64 rfl (vpE (n := 5) (nIc 5) (by omega) (by decide)) ?_
      rw [clE (n := 5) (nIc 5) (by omega)]
      rw [show gA g 64 5 = nI (mT W) from (congrFun hA.1.1 5).trans hT]
      refine J_imul (nx := 66) dX12_paying_65 rfl ?_
      refine J_iload (nx := 68) dX12_paying_66 rfl rfl ?_
      refine J_iadd (nx := 69) dX12_paying_68 rfl ?_
      refine Ja_72 (nx := 70) dX12_paying_69 rfl (vpE (n := ((32 * (mT W)) + (4 * z + i))) (nIa (nIm (nIc 32) (Eq.refl (nI ((mT W))))) (Eq.refl (nI ((4 * z + i))))) (by omega) (by decide)) ?_
      rw [clE (n := ((32 * (mT W)) + (4 * z + i))) (nIa (nIm (nIc 32) (Eq.refl (nI ((mT W))))) (Eq.refl (nI ((4 * z + i))))) (by omega)]
      refine J_aload_n (nx := 71) dX12_paying_70 rfl rfl ?_
      refine Jg_63_26 (nx := 74) dX12_paying_71 rfl fl_X12_46 ?_
      refine J_iload (nx := 76) dX12_paying_74 rfl rfl ?_
      refine Ja_73 (nx := 77) dX12_paying_76 rfl (vpE (n := (4 * z + i)) (Eq.refl (nI ((4 * z + i)))) (by omega) (by decide)) ?_
      rw [clE (n := (4 * z + i)) (Eq.refl (nI ((4 * z + i)))) (by omega)]
      refine J_lcmp (nx := 78) dX12_paying_77 rfl ?_
      refine J_if_le (nx := 81) (tgt := 88) dX12_paying_78 rfl (by decide) (fun c_78 => ?_) (fun c_78 => ?_)
      · refine J_iconst (nx := 89) (i := 0) (v := 0) (by decide) dX12_paying_88 rfl ?_
        refine J_ior (nx := 90) dX12_paying_89 rfl ?_
        refine J_istore (nx := 92) dX12_paying_90 rfl rfl (Nat.le_of_ble_eq_true rfl) ?_
        refine J_iinc (nx := 95) dX12_paying_92 rfl rfl rfl (Nat.le_of_ble_eq_true rfl) ?_
        refine J_goto (nx := 40) dX12_paying_95 (by decide) ?_
        rw [show (nI ((4 * z + i)) + Int32.ofInt 1) = nI (4 * z + (i + 1)) from (show nI ((4 * z + i)) + Int32.ofInt 1 = nI ((4 * z + i) + 1) from nI_add ((4 * z + i)) 1)]
        refine J.lv (fun v => [some (.ref 63), some (.int jd), some (.int b), some (.int (nI (k0))), some (.int told), some (.int (v)), some (.int (nI (z))), some (.int (nI (4 * z + (i + 1))))]) ?_ (ih (i + 1) (by omega) hK)
        refine congrArg (orI (wPy W gl rl m k0 told jd b) (4 * z + i) ||| ·) ?_
        show _ = pyV (mLT W (mGc W m gl) (mT W) (4 * z + i)) (jw (mJP W gl rl m k0 ((4 * z + i) / 4) told jd b (mG W)) 0 (4 * z + i)) (4 * z + i)
        rw [show (4 * z + i) / 4 = z by omega, ← hA.w0 (s := 4 * z + i) (by omega), ← hA.1.2.2.2 (mT W) (4 * z + i) hT60 (by omega)]
        unfold pyV
        first | rw [if_pos c_78] | rw [if_neg c_78]
      · refine J_iconst (nx := 82) (i := 1) (v := 1) (by decide) dX12_paying_81 rfl ?_
        refine J_iload (nx := 84) dX12_paying_82 rfl rfl ?_
        refine J_ishl (nx := 85) dX12_paying_84 rfl ?_
        refine J_goto (nx := 89) dX12_paying_85 (by decide) ?_
        refine J_ior (nx := 90) dX12_paying_89 rfl ?_
        refine J_istore (nx := 92) dX12_paying_90 rfl rfl (Nat.le_of_ble_eq_true rfl) ?_
        refine J_iinc (nx := 95) dX12_paying_92 rfl rfl rfl (Nat.le_of_ble_eq_true rfl) ?_
        refine J_goto (nx := 40) dX12_paying_95 (by decide) ?_
        rw [show (nI ((4 * z + i)) + Int32.ofInt 1) = nI (4 * z + (i + 1)) from (show nI ((4 * z + i)) + Int32.ofInt 1 = nI ((4 * z + i) + 1) from nI_add ((4 * z + i)) 1)]
        refine J.lv (fun v => [some (.ref 63), some (.int jd), some (.int b), some (.int (nI (k0))), some (.int told), some (.int (v)), some (.int (nI (z))), some (.int (nI (4 * z + (i + 1))))]) ?_ (ih (i + 1) (by omega) hK)
        refine congrArg (orI (wPy W gl rl m k0 told jd b) (4 * z + i) ||| ·) ?_
        show _ = pyV (mLT W (mGc W m gl) (mT W) (4 * z + i)) (jw (mJP W gl rl m k0 ((4 * z + i) / 4) told jd b (mG W)) 0 (4 * z + i)) (4 * z + i)
        rw [show (4 * z + i) / 4 = z by omega, ← hA.w0 (s := 4 * z + i) (by omega), ← hA.1.2.2.2 (mT W) (4 * z + i) hT60 (by omega)]
        unfold pyV
        first | rw [if_pos c_78] | rw [if_neg c_78]

set_option maxRecDepth 100000 in
set_option maxHeartbeats 4000000 in
theorem lp_m_py2 (g0 : GS) (W : Nat → Int32) (gl : List TxL) (rl : Nat → List TxL) (m : Int32) (hM : MOK W gl rl) (jd b : Int32) (k0 : Nat) (hk0 : k0 < 6) (told : Int32) (hjd : jdOK W jd) (n0 : Nat) : ∀ (k : Nat) (z : Nat) (g : GS), z + k = 8 → Fr fA aQ g0 g → LSt W gl m g → J mX12_paying (rm 5 0 0) (RXi (fun x g2 => x = orI (wPy W gl rl m k0 told jd b) 32 ∧ Fr fA aQ g0 g2 ∧ LSt W gl m g2)) n0 6 [some (.ref 63), some (.int jd), some (.int b), some (.int (nI (k0))), some (.int told), some (.int (orI (wPy W gl rl m k0 told jd b) (4 * z))), some (.int (nI (z))), none] [] (Wd g) 0 0 := by
  intro k
  induction k with
  | zero =>
    intro z g hk hfr hL
    refine J_iload (nx := 8) dX12_paying_6 rfl rfl ?_
    refine J_bipush (nx := 10) (i := 8) (v := 8) (by decide) dX12_paying_8 rfl ?_
    refine J_icmp_ge (nx := 13) (tgt := 104) dX12_paying_10 rfl (by decide) (fun c_10 => ?_) (fun c_10 => ?_)
    · refine J_iload (nx := 106) dX12_paying_104 rfl rfl ?_
      exact Jri dX12_paying_106 rfl (Nat.zero_le _) (Nat.zero_le _) (RXi.of ⟨by rw [show z = 8 by omega], hfr, hL⟩)
    · exact absurd (show nI 8 ≤ nI z from by rw [show z = 8 by omega]; exact le_self_nI) c_10
  | succ k ih =>
    intro z g hk hfr hL
    have hM2 := hM
    obtain ⟨⟨hG10, hG⟩, ⟨hT1, hT60, hT⟩, ⟨hR4, hR, hrl⟩, ⟨hN6, hN⟩, hgl, hgk⟩ := hM2
    refine J_iload (nx := 8) dX12_paying_6 rfl rfl ?_
    refine J_bipush (nx := 10) (i := 8) (v := 8) (by decide) dX12_paying_8 rfl ?_
    refine J_icmp_ge (nx := 13) (tgt := 104) dX12_paying_10 rfl (by decide) (fun c_10 => ?_) (fun c_10 => ?_)
    · exact absurd c_10 (nlt_nI (n := 8) (by omega) (by omega))
    · have hz : z < 8 := by omega
      refine J_aload_n (nx := 14) dX12_paying_13 rfl rfl ?_
      refine J_iload_n (nx := 15) dX12_paying_14 rfl rfl ?_
      refine J_iload (nx := 17) dX12_paying_15 rfl rfl ?_
      refine J_iload (nx := 19) dX12_paying_17 rfl rfl ?_
      refine JcV3 (R' := rm (3) 0 0) (nx := 22) dX12_paying_19 rfl ml_X12_fouls lk_X12_323 iv_X12_fouls rfl rfl ⟨(Nat.le_of_ble_eq_true rfl), (Nat.le_of_ble_eq_true rfl)⟩ (Nat.le_of_ble_eq_true rfl) ⟨rfl, rfl⟩ (ct_m_fouls g k0 z hk0 hz told) ?_
      refine J.gen (fun g_19 hg_19 => ?_)
      refine J_aload_n (nx := 23) dX12_paying_22 rfl rfl ?_
      refine J_iload_n (nx := 24) dX12_paying_23 rfl rfl ?_
      refine J_iload_n (nx := 25) dX12_paying_24 rfl rfl ?_
      refine J_aload_n (nx := 26) dX12_paying_25 rfl rfl ?_
      refine Jg_63_1 (nx := 29) dX12_paying_26 rfl fl_X12_13 ?_
      refine J_iconst (nx := 30) (i := 4) (v := 4) (by decide) dX12_paying_29 rfl ?_
      refine Ja_64 (nx := 31) dX12_paying_30 rfl (vpE (n := 4) (nIc 4) (by omega) (by decide)) ?_
      rw [clE (n := 4) (nIc 4) (by omega)]
      have hL2 : LSt W gl m g_19 := by rw [hg_19]; exact hL.Fo
      have hF2 : FSt W k0 z told g_19 := by rw [hg_19]; exact FSt.Fo hL.1
      rw [show gA g_19 64 4 = nI (mG W) from (congrFun hL2.1 4).trans hG]
      refine JvV3 (R' := rm (4) 0 0) (nx := 34) dX12_paying_31 rfl ml_X12_judges lk_X12_338 iv_X12_judges rfl rfl ⟨(Nat.le_of_ble_eq_true rfl), (Nat.le_of_ble_eq_true rfl)⟩ (Nat.le_of_ble_eq_true rfl) ⟨rfl, rfl⟩ (ct_m_judges g_19 (mJP W gl rl m k0 z told jd b (mG W)) (mJP_ok hM hL2 hF2 hjd hG10 hz)) (fun g_31 p_31 => ?_)
      refine J_iconst (nx := 35) (i := 4) (v := 4) (by decide) dX12_paying_34 rfl ?_
      refine J_iload (nx := 37) dX12_paying_35 rfl rfl ?_
      refine J_imul (nx := 38) dX12_paying_37 rfl ?_
      rw [show ((4 : Int32) * nI (z)) = nI ((4 * z)) from (nIm (nIc 4) (Eq.refl (nI (z))))]
      refine J_istore (nx := 40) dX12_paying_38 rfl rfl (Nat.le_of_ble_eq_true rfl) ?_
      have hA := AS.of hL2 hF2 p_31
      rw [show nI ((4 * z)) = nI (4 * z + 0) from (Eq.refl (nI ((4 * z))))]
      refine lp_m_py1 _ g_31 W gl rl m told jd b k0 z hz hT60 hT hA n0 4 0 rfl ?_
      refine J_iinc (nx := 101) dX12_paying_98 rfl rfl rfl (Nat.le_of_ble_eq_true rfl) ?_
      refine J_goto (nx := 6) dX12_paying_101 (by decide) ?_
      refine J_kill (nx := 0) 7 ?_
      rw [show (nI (z) + Int32.ofInt 1) = nI (z + 1) from (show nI (z) + Int32.ofInt 1 = nI (z + 1) from nI_add (z) 1)]
      exact ih (z + 1) g_31 (by omega) ((show Fr fA aQ g0 g_19 by rw [hg_19]; exact Fr.mFo hfr).J p_31.1) hA.1

set_option maxRecDepth 100000 in
set_option maxHeartbeats 4000000 in
theorem ct_m_paying (g : GS) (W : Nat → Int32) (gl : List TxL) (rl : Nat → List TxL) (m : Int32) (hM : MOK W gl rl) (hL : LSt W gl m g) (jd b : Int32) (k0 : Nat) (hk0 : k0 < 6) (told : Int32) (hjd : jdOK W jd) : Ct mX12_paying (rm 5 0 0) [.ref 63, .int jd, .int b, .int (nI (k0)), .int told] (Wd g) (RXi (fun x g2 => x = orI (wPy W gl rl m k0 told jd b) 32 ∧ Fr fA aQ g g2 ∧ LSt W gl m g2)) := by
  refine Ct.of (by decide +kernel) (Nat.le_of_ble_eq_true rfl) ?_
  show J _ _ _ _ 0 [some (.ref 63), some (.int jd), some (.int b), some (.int (nI (k0))), some (.int told), none, none, none] [] _ 0 0
  refine J_iconst (nx := 1) (i := 0) (v := 0) (by decide) dX12_paying_0 rfl ?_
  refine J_istore (nx := 3) dX12_paying_1 rfl rfl (Nat.le_of_ble_eq_true rfl) ?_
  refine J_iconst (nx := 4) (i := 0) (v := 0) (by decide) dX12_paying_3 rfl ?_
  refine J_istore (nx := 6) dX12_paying_4 rfl rfl (Nat.le_of_ble_eq_true rfl) ?_
  exact lp_m_py2 g W gl rl m hM jd b k0 hk0 told hjd _ 8 0 g rfl Fr.rf hL

