
/-! the Model: learning -/
def isR (i : Nat) : Prop := 1108 ≤ i ∧ i < 1310 ∧ 2 ≤ (i - 1106) % 34
def WEq (W W' : Nat → Int32) : Prop := ∀ i, ¬ isR i → W' i = W i
theorem WEq.rf {W : Nat → Int32} : WEq W W := fun _ _ => rfl
theorem WEq.tr {W W1 W2 : Nat → Int32} (h : WEq W W1) (h2 : WEq W1 W2) : WEq W W2 := fun i hi => (h2 i hi).trans (h i hi)
theorem isR_at {k s : Nat} (hk : k < 6) (hs : s < 32) : isR (1106 + 34 * k + (2 + s)) := ⟨by omega, by omega, by omega⟩
theorem WEq.up {W : Nat → Int32} {i : Nat} {v : Int32} (hi : isR i) : WEq W (upd W i v) := fun j hj => if_neg (fun e : j = i => hj (by rw [e]; exact hi))
theorem WEq.lo {W W' : Nat → Int32} (h : WEq W W') {i : Nat} (hi : i < 1108) : W' i = W i := h i (fun z => absurd z.1 (by omega))
theorem WEq.hi {W W' : Nat → Int32} (h : WEq W W') {i : Nat} (hi : 1310 ≤ i) : W' i = W i := h i (fun z => absurd z.2.1 (by omega))
theorem MLine_congr {W W' : Nat → Int32} (h : WEq W W') {t n b : Nat} {ps : List SP} (hm : MLine W t n b ps) : MLine W' t n b ps := by
  obtain ⟨h1, h2, h3, h4, h5⟩ := hm
  exact ⟨(h.hi (by omega)).trans h1, (h.hi (by omega)).trans h2, h3, fun q hq => ⟨(h.hi (by omega)).trans (h4 q hq).1, (h.hi (by omega)).trans (h4 q hq).2⟩, h5⟩
theorem MTx_congr {W W' : Nat → Int32} (h : WEq W W') {t : Nat} {ls : List TxL} (hm : MTx W t ls) : MTx W' t ls := by
  obtain ⟨h1, h2, h3⟩ := hm
  refine ⟨(h.hi (by omega)).trans h1, h2, fun q hq => ?_⟩
  obtain ⟨k1, k2, k3, b, k4⟩ := h3 q hq
  exact ⟨(h.hi (by omega)).trans k1, (h.hi (by omega)).trans k2, (h.hi (by omega)).trans k3, b, MLine_congr h k4⟩
theorem MOK.eq {W W' : Nat → Int32} {gl : List TxL} {rl : Nat → List TxL} (h : WEq W W') (hM : MOK W gl rl) : MOK W' gl rl := by
  obtain ⟨⟨h1, h2⟩, ⟨h3, h4, h5⟩, ⟨h6, h7, h8⟩, ⟨h9, h10⟩, h11, h12⟩ := hM
  have e4 := h.lo (i := 4) (by omega)
  have e5 := h.lo (i := 5) (by omega)
  have e1 := h.lo (i := 1) (by omega)
  have e2 := h.lo (i := 2) (by omega)
  have e3 := h.lo (i := 3) (by omega)
  have g4 : mG W' = mG W := by unfold mG; rw [e4]
  have g5 : mT W' = mT W := by unfold mT; rw [e5]
  have g1 : mR W' = mR W := by unfold mR; rw [e1]
  have g2 : mN W' = mN W := by unfold mN; rw [e2]
  unfold MOK
  rw [g4, g5, g1, g2, e4, e5, e1, e2, e3]
  exact ⟨⟨h1, h2⟩, ⟨h3, h4, h5⟩, ⟨h6, h7, fun r hr => MTx_congr h (h8 r hr)⟩, ⟨h9, h10⟩, fun z => MTx_congr h (h11 z), h12⟩
theorem jdOK.eq {W W' : Nat → Int32} {jd : Int32} (h : WEq W W') (hj : jdOK W jd) : jdOK W' jd := by
  unfold jdOK mR at hj ⊢; rw [h.lo (i := 1) (by omega)]; exact hj
theorem mGc_eq {W W' : Nat → Int32} (h : WEq W W') (m : Int32) (gl : List TxL) : mGc W' m gl = mGc W m gl := by
  unfold mGc; rw [h.lo (i := 3) (by omega), h.lo (i := 7) (by omega)]
theorem dI_congr {a : Int32} {f f' : Nat → Int32} : ∀ n, (∀ i, i < n → f i = f' i) → dI a f n = dI a f' n := by
  intro n
  induction n with
  | zero => intro _; rfl
  | succ n ih => intro h; show dI a f n - f n = dI a f' n - f' n; rw [ih (fun i hi => h i (by omega)), h n (by omega)]
theorem wSt_eq {W W' : Nat → Int32} (h : WEq W W') {s : Nat} (hs : s < 32) : wSt W' s = wSt W s := by
  unfold wSt; exact dI_congr 34 (fun i hi => h.lo (by omega))
theorem mLT_eq {W W' : Nat → Int32} (h : WEq W W') (gw : Int32) : ∀ t s, s < 32 → mLT W' gw t s = mLT W gw t s := by
  intro t
  induction t with
  | zero => intro s _; rfl
  | succ t ih =>
    intro s hs
    show mMx W' ((W' (18 + 34 * s + 32)).toInt64 * gw.toInt64 - (W' (18 + 34 * s + 33)).toInt64 * (W' 8).toInt64 + (wSt W' s).toInt64 * mLT W' gw t s) s (mLT W' gw t) = mMx W ((W (18 + 34 * s + 32)).toInt64 * gw.toInt64 - (W (18 + 34 * s + 33)).toInt64 * (W 8).toInt64 + (wSt W s).toInt64 * mLT W gw t s) s (mLT W gw t)
    rw [wSt_eq h hs, ih s hs, h.lo (i := 8) (by omega), h.lo (i := 18 + 34 * s + 32) (by omega), h.lo (i := 18 + 34 * s + 33) (by omega)]
    unfold mMx
    exact congrArg (fun z => fdL z 100) (acL_congr 32 (fun q hq => by rw [ih q hq, h.lo (i := 18 + 34 * s + q) (by omega)]))
theorem LSt.eq {W W' : Nat → Int32} {gl : List TxL} {m : Int32} {g g' : GS} (h : LSt W gl m g) (he : WEq W W') (h64 : gA g' 64 = W') (h20 : gF g' 63 20 = gF g 63 20) (h21 : gF g' 63 21 = gF g 63 21) (h72 : gB g' 72 = gB g 72) : LSt W' gl m g' :=
  ⟨h64, by rw [h20, mGc_eq he]; exact h.2.1, h21.trans h.2.2.1, fun t s a b => by rw [h72, mGc_eq he, mLT_eq he _ t s b]; exact h.2.2.2 t s a b⟩
theorem mCd_w {g : GS} {W : Nat → Int32} (h : gA g 64 = W) (k : Nat) : mCd g k (mSo g k 0) = wCd W k (wTo W k) := by
  subst h
  unfold mCd wCd
  rw [show mRs g k = wRs (gA g 64) k from rfl]
  rfl
def a64r (c : Nat) : Bool := a74 c || Nat.beq c 64
theorem a64r_74 (c : Nat) (h : a64r c = false) : a74 c = false := by unfold a64r at h; revert h; cases a74 c <;> simp

set_option maxRecDepth 100000 in
set_option maxHeartbeats 4000000 in
theorem lp_m_py2n (g0 : GS) (W : Nat → Int32) (gl : List TxL) (rl : Nat → List TxL) (m : Int32) (hM : MOK W gl rl) (jd b : Int32) (k0 : Nat) (hk0 : k0 < 6) (told : Int32) (hjd : jdOK W jd) (n0 : Nat) : ∀ (k : Nat) (z : Nat) (g : GS), z + k = 8 → Fr fA a74 g0 g → LSt W gl m g → J mX12_paying (rm 5 0 0) (RXi (fun x g2 => x = orI (wPy W gl rl m k0 told jd b) 32 ∧ Fr fA a74 g0 g2 ∧ LSt W gl m g2)) n0 6 [some (.ref 63), some (.int jd), some (.int b), some (.int (nI (k0))), some (.int told), some (.int (orI (wPy W gl rl m k0 told jd b) (4 * z))), some (.int (nI (z))), none] [] (Wd g) 0 0 := by
  intro k
  induction k with
  | zero =>
    intro z g hk hfr hL
    refine J_iload (nx := 8) dX12_paying_6 rfl rfl ?_
    refine J_bipush (nx := 10) (i := 8) (v := 8) (by decide) dX12_paying_8 rfl ?_
    refine J_icmp_ge (nx := 13) (tgt := 104) dX12_paying_10 rfl (by decide) (fun c_10 => ?_) (fun c_10 => ?_)
    · refine J_iload (nx := 106) dX12_paying_104 rfl rfl ?_
      exact Jri dX12_paying_106 rfl (Nat.zero_le _) (Nat.zero_le _) (RXi.of ⟨by rw [show z = 8 by omega], hfr, hL⟩)
    · exact absurd (show nI 8 ≤ nI z from by rw [show z = 8 by omega]; exact le_self_nI) c_10
  | succ k ih =>
    intro z g hk hfr hL
    have hM2 := hM
    obtain ⟨⟨hG10, hG⟩, ⟨hT1, hT60, hT⟩, ⟨hR4, hR, hrl⟩, ⟨hN6, hN⟩, hgl, hgk⟩ := hM2
    refine J_iload (nx := 8) dX12_paying_6 rfl rfl ?_
    refine J_bipush (nx := 10) (i := 8) (v := 8) (by decide) dX12_paying_8 rfl ?_
    refine J_icmp_ge (nx := 13) (tgt := 104) dX12_paying_10 rfl (by decide) (fun c_10 => ?_) (fun c_10 => ?_)
    · exact absurd c_10 (nlt_nI (n := 8) (by omega) (by omega))
    · have hz : z < 8 := by omega
      refine J_aload_n (nx := 14) dX12_paying_13 rfl rfl ?_
      refine J_iload_n (nx := 15) dX12_paying_14 rfl rfl ?_
      refine J_iload (nx := 17) dX12_paying_15 rfl rfl ?_
      refine J_iload (nx := 19) dX12_paying_17 rfl rfl ?_
      refine JcV3 (R' := rm (3) 0 0) (nx := 22) dX12_paying_19 rfl ml_X12_fouls lk_X12_323 iv_X12_fouls rfl rfl ⟨(Nat.le_of_ble_eq_true rfl), (Nat.le_of_ble_eq_true rfl)⟩ (Nat.le_of_ble_eq_true rfl) ⟨rfl, rfl⟩ (ct_m_fouls g k0 z hk0 hz told) ?_
      refine J.gen (fun g_19 hg_19 => ?_)
      refine J_aload_n (nx := 23) dX12_paying_22 rfl rfl ?_
      refine J_iload_n (nx := 24) dX12_paying_23 rfl rfl ?_
      refine J_iload_n (nx := 25) dX12_paying_24 rfl rfl ?_
      refine J_aload_n (nx := 26) dX12_paying_25 rfl rfl ?_
      refine Jg_63_1 (nx := 29) dX12_paying_26 rfl fl_X12_13 ?_
      refine J_iconst (nx := 30) (i := 4) (v := 4) (by decide) dX12_paying_29 rfl ?_
      refine Ja_64 (nx := 31) dX12_paying_30 rfl (vpE (n := 4) (nIc 4) (by omega) (by decide)) ?_
      rw [clE (n := 4) (nIc 4) (by omega)]
      have hL2 : LSt W gl m g_19 := by rw [hg_19]; exact hL.Fo
      have hF2 : FSt W k0 z told g_19 := by rw [hg_19]; exact FSt.Fo hL.1
      rw [show gA g_19 64 4 = nI (mG W) from (congrFun hL2.1 4).trans hG]
      refine JvV3 (R' := rm (4) 0 0) (nx := 34) dX12_paying_31 rfl ml_X12_judges lk_X12_338 iv_X12_judges rfl rfl ⟨(Nat.le_of_ble_eq_true rfl), (Nat.le_of_ble_eq_true rfl)⟩ (Nat.le_of_ble_eq_true rfl) ⟨rfl, rfl⟩ (ct_m_judges g_19 (mJP W gl rl m k0 z told jd b (mG W)) (mJP_ok hM hL2 hF2 hjd hG10 hz)) (fun g_31 p_31 => ?_)
      refine J_iconst (nx := 35) (i := 4) (v := 4) (by decide) dX12_paying_34 rfl ?_
      refine J_iload (nx := 37) dX12_paying_35 rfl rfl ?_
      refine J_imul (nx := 38) dX12_paying_37 rfl ?_
      rw [show ((4 : Int32) * nI (z)) = nI ((4 * z)) from (nIm (nIc 4) (Eq.refl (nI (z))))]
      refine J_istore (nx := 40) dX12_paying_38 rfl rfl (Nat.le_of_ble_eq_true rfl) ?_
      have hA := AS.of hL2 hF2 p_31
      rw [show nI ((4 * z)) = nI (4 * z + 0) from (Eq.refl (nI ((4 * z))))]
      refine lp_m_py1 _ g_31 W gl rl m told jd b k0 z hz hT60 hT hA n0 4 0 rfl ?_
      refine J_iinc (nx := 101) dX12_paying_98 rfl rfl rfl (Nat.le_of_ble_eq_true rfl) ?_
      refine J_goto (nx := 6) dX12_paying_101 (by decide) ?_
      refine J_kill (nx := 0) 7 ?_
      rw [show (nI (z) + Int32.ofInt 1) = nI (z + 1) from (show nI (z) + Int32.ofInt 1 = nI (z + 1) from nI_add (z) 1)]
      exact ih (z + 1) g_31 (by omega) ((show Fr fA a74 g0 g_19 by rw [hg_19]; exact fr_mFoA hfr).tr (p_31.1.mono fA_0 a74_J)) hA.1

set_option maxRecDepth 100000 in
set_option maxHeartbeats 4000000 in
theorem ct_m_paying2 (g : GS) (W : Nat → Int32) (gl : List TxL) (rl : Nat → List TxL) (m : Int32) (hM : MOK W gl rl) (hL : LSt W gl m g) (jd b : Int32) (k0 : Nat) (hk0 : k0 < 6) (told : Int32) (hjd : jdOK W jd) : Ct mX12_paying (rm 5 0 0) [.ref 63, .int jd, .int b, .int (nI (k0)), .int told] (Wd g) (RXi (fun x g2 => x = orI (wPy W gl rl m k0 told jd b) 32 ∧ Fr fA a74 g g2 ∧ LSt W gl m g2)) := by
  refine Ct.of (by decide +kernel) (Nat.le_of_ble_eq_true rfl) ?_
  show J _ _ _ _ 0 [some (.ref 63), some (.int jd), some (.int b), some (.int (nI (k0))), some (.int told), none, none, none] [] _ 0 0
  refine J_iconst (nx := 1) (i := 0) (v := 0) (by decide) dX12_paying_0 rfl ?_
  refine J_istore (nx := 3) dX12_paying_1 rfl rfl (Nat.le_of_ble_eq_true rfl) ?_
  refine J_iconst (nx := 4) (i := 0) (v := 0) (by decide) dX12_paying_3 rfl ?_
  refine J_istore (nx := 6) dX12_paying_4 rfl rfl (Nat.le_of_ble_eq_true rfl) ?_
  exact lp_m_py2n g W gl rl m hM jd b k0 hk0 told hjd _ 8 0 g rfl Fr.rf hL

abbrev LRP : Type := (Nat → Int32) × Bool × Int32 × Int32
def lrB (gl : List TxL) (rl : Nat → List TxL) (m jd b : Int32) (k : Nat) (W : Nat → Int32) (card bits : Int32) : Int32 := if card = wCd W k (wTo W k) then bits else orI (wPy W gl rl m k (wTo W k) jd b) 32
def mlrT (W : Nat → Int32) (i s : Nat) (bits : Int32) : Int32 := if ¬ bits >>> (nI s &&& 31) &&& 1 = 1 then W i - 1 else mnI 999 (W i + 1)
def lrU (W : Nat → Int32) (o : Bool) (k s : Nat) (bits : Int32) : LRP := (upd W (1106 + 34 * k + (2 + s)) (mlrT W (1106 + 34 * k + (2 + s)) s bits), o || !(decide (mlrT W (1106 + 34 * k + (2 + s)) s bits = W (1106 + 34 * k + (2 + s)))), wCd W k (wTo W k), bits)
def mlrS (gl : List TxL) (rl : Nat → List TxL) (m jd b : Int32) (k s : Nat) (p : LRP) : LRP := if p.1 (1106 + 34 * k + (2 + s)) = 0 then p else lrU p.1 p.2.1 k s (lrB gl rl m jd b k p.1 p.2.2.1 p.2.2.2)
def lrJ (gl : List TxL) (rl : Nat → List TxL) (m jd b : Int32) (k : Nat) : Nat → Nat → LRP → LRP
  | 0, _, p => p
  | f + 1, s, p => lrJ gl rl m jd b k f (s + 1) (mlrS gl rl m jd b k s p)
def lrK (gl : List TxL) (rl : Nat → List TxL) (m jd b : Int32) : Nat → Nat → (Nat → Int32) → Bool → (Nat → Int32) × Bool
  | 0, _, W, o => (W, o)
  | f + 1, k, W, o => lrK gl rl m jd b f (k + 1) (lrJ gl rl m jd b k 32 0 (W, o, -1, 0)).1 (lrJ gl rl m jd b k 32 0 (W, o, -1, 0)).2.1
set_option maxRecDepth 100000 in
set_option maxHeartbeats 4000000 in
theorem sg_m_lr89 (n0 : Nat) (Q : Res → List ME → Prop) (gl : List TxL) (m : Int32) (W1 : Nat → Int32) (g : GS) (hL : LSt W1 gl m g) (jd b : Int32) (q s : Nat) (hq : q < 6) (hs : s < 32) (ot : Bool) (cd B : Int32) (hK : ∀ g2, Fr fA a64r g g2 → LSt (lrU W1 ot q s B).1 gl m g2 → J mX12_learns (rm 6 0 0) Q n0 25 [some (.ref 63), some (.int jd), some (.int b), some (.int (bI ((lrU W1 ot q s B).2.1))), some (.int (nI (q))), some (.int (wCd W1 q (wTo W1 q))), some (.int (B)), some (.int (nI (s + 1))), none, none] [] (Wd g2) 0 0) : J mX12_learns (rm 6 0 0) (Q) n0 89 [some (.ref 63), some (.int jd), some (.int b), some (.int (bI (ot))), some (.int (nI (q))), some (.int (cd)), some (.int (B)), some (.int (nI (s))), some (.int (nI (1106 + 34 * q + (2 + s)))), none] [] (Wd g) 0 0 := by
  skip
  refine J_aload_n (nx := 90) dX12_learns_89 rfl rfl ?_
  refine J_iload (nx := 92) dX12_learns_90 rfl rfl ?_
  refine J_aload_n (nx := 93) dX12_learns_92 rfl rfl ?_
  refine J_iload (nx := 95) dX12_learns_93 rfl rfl ?_
  refine JcV1 (R' := rm (1) 0 0) (nx := 98) dX12_learns_95 rfl ml_X12_toldCard lk_X12_320 iv_X12_toldCard rfl rfl ⟨(Nat.le_of_ble_eq_true rfl), (Nat.le_of_ble_eq_true rfl)⟩ (Nat.le_of_ble_eq_true rfl) ⟨rfl, rfl⟩ (ct_m_toldCard _ (q) (by omega)) ?_
  refine JcV2 (R' := rm (2) 0 0) (nx := 101) dX12_learns_98 rfl ml_X12_cardOf lk_X12_302 iv_X12_cardOf rfl rfl ⟨(Nat.le_of_ble_eq_true rfl), (Nat.le_of_ble_eq_true rfl)⟩ (Nat.le_of_ble_eq_true rfl) ⟨rfl, rfl⟩ (ct_m_cardOf _ (q) (by omega) _) ?_
  rw [mCd_w hL.1 q]
  refine J_istore (nx := 103) dX12_learns_101 rfl rfl (Nat.le_of_ble_eq_true rfl) ?_
  refine J_iload (nx := 105) dX12_learns_103 rfl rfl ?_
  refine J_iload (nx := 107) dX12_learns_105 rfl rfl ?_
  refine J_ishr (nx := 108) dX12_learns_107 rfl ?_
  refine J_iconst (nx := 109) (i := 1) (v := 1) (by decide) dX12_learns_108 rfl ?_
  refine J_iand (nx := 110) dX12_learns_109 rfl ?_
  refine J_iconst (nx := 111) (i := 1) (v := 1) (by decide) dX12_learns_110 rfl ?_
  refine J_icmp_ne (nx := 114) (tgt := 132) dX12_learns_111 rfl (by decide) (fun c_111 => ?_) (fun c_111 => ?_)
  · refine J_aload_n (nx := 133) dX12_learns_132 rfl rfl ?_
    refine Jg_63_1 (nx := 136) dX12_learns_133 rfl fl_X12_13 ?_
    refine J_iload (nx := 138) dX12_learns_136 rfl rfl ?_
    refine Ja_64 (nx := 139) dX12_learns_138 rfl (vpE (n := (1106 + 34 * q + (2 + s))) (Eq.refl (nI ((1106 + 34 * q + (2 + s))))) (by omega) (by decide)) ?_
    rw [clE (n := (1106 + 34 * q + (2 + s))) (Eq.refl (nI ((1106 + 34 * q + (2 + s))))) (by omega)]
    rw [show gA g 64 (1106 + 34 * q + (2 + s)) = W1 (1106 + 34 * q + (2 + s)) from congrFun hL.1 _]
    refine J_iconst (nx := 140) (i := 1) (v := 1) (by decide) dX12_learns_139 rfl ?_
    refine J_isub (nx := 141) dX12_learns_140 rfl ?_
    refine J_istore (nx := 143) dX12_learns_141 rfl rfl (Nat.le_of_ble_eq_true rfl) ?_
    refine J_iload_n (nx := 144) dX12_learns_143 rfl rfl ?_
    refine J_if_ne (nx := 147) (tgt := 159) dX12_learns_144 rfl (by decide) (fun c_144 => ?_) (fun c_144 => ?_)
    · refine J_iconst (nx := 160) (i := 1) (v := 1) (by decide) dX12_learns_159 rfl ?_
      refine J_goto (nx := 164) dX12_learns_160 (by decide) ?_
      refine J_istore_n (nx := 165) dX12_learns_164 rfl rfl (Nat.le_of_ble_eq_true rfl) ?_
      refine J_aload_n (nx := 166) dX12_learns_165 rfl rfl ?_
      refine Jg_63_1 (nx := 169) dX12_learns_166 rfl fl_X12_13 ?_
      refine J_iload (nx := 171) dX12_learns_169 rfl rfl ?_
      refine J_iload (nx := 173) dX12_learns_171 rfl rfl ?_
      refine Jt_64 (nx := 174) dX12_learns_173 rfl (vpE (n := (1106 + 34 * q + (2 + s))) (Eq.refl (nI ((1106 + 34 * q + (2 + s))))) (by omega) (by decide)) ?_
      rw [clE (n := (1106 + 34 * q + (2 + s))) (Eq.refl (nI ((1106 + 34 * q + (2 + s))))) (by omega)]
      refine J.gen (fun g_173 hg_173 => ?_)
      refine J_iinc (nx := 177) dX12_learns_174 rfl rfl rfl (Nat.le_of_ble_eq_true rfl) ?_
      refine J_goto (nx := 25) dX12_learns_177 (by decide) ?_
      have hT : ∃ T, T = mlrT W1 (1106 + 34 * q + (2 + s)) s B := ⟨_, rfl⟩
      refine J_kill (nx := 0) 8 ?_
      refine J_kill (nx := 0) 9 ?_
      rw [show (nI (s) + Int32.ofInt 1) = nI (s + 1) from (show nI (s) + Int32.ofInt 1 = nI (s + 1) from nI_add (s) 1)]
      have hLT : mlrT W1 (1106 + 34 * q + (2 + s)) s B = _ := (show (if ¬ B >>> (nI s &&& 31) &&& 1 = 1 then W1 (1106 + 34 * q + (2 + s)) - 1 else mnI 999 (W1 (1106 + 34 * q + (2 + s)) + 1)) = _ from by first | rw [if_pos c_111] | rw [if_neg (fun z => z c_111)])
      have hg : LSt (lrU W1 ot q s B).1 gl m g_173 := hL.eq (WEq.up (isR_at hq hs)) (by
        rw [hg_173]
        show upd (gA g 64) (1106 + 34 * q + (2 + s)) _ = upd W1 (1106 + 34 * q + (2 + s)) (mlrT W1 (1106 + 34 * q + (2 + s)) s B)
        rw [hLT, hL.1]) (by rw [hg_173]; rfl) (by rw [hg_173]; rfl) (by rw [hg_173]; rfl)
      have ho : (lrU W1 ot q s B).2.1 = true := by
        show (ot || !(decide (mlrT W1 (1106 + 34 * q + (2 + s)) s B = W1 (1106 + 34 * q + (2 + s))))) = _
        rw [hLT]
        first
          | (rw [bI_n0.mp c_144]; rfl)
          | (rw [bI_0.mp c_144, decide_eq_true c_156]; rfl)
          | (rw [bI_0.mp c_144, decide_eq_false c_156]; rfl)
      have h := hK g_173 (by rw [hg_173]; exact Fr.rf.sA rfl) hg
      rw [ho] at h
      exact h
    · refine J_iload (nx := 149) dX12_learns_147 rfl rfl ?_
      refine J_aload_n (nx := 150) dX12_learns_149 rfl rfl ?_
      refine Jg_63_1 (nx := 153) dX12_learns_150 rfl fl_X12_13 ?_
      refine J_iload (nx := 155) dX12_learns_153 rfl rfl ?_
      refine Ja_64 (nx := 156) dX12_learns_155 rfl (vpE (n := (1106 + 34 * q + (2 + s))) (Eq.refl (nI ((1106 + 34 * q + (2 + s))))) (by omega) (by decide)) ?_
      rw [clE (n := (1106 + 34 * q + (2 + s))) (Eq.refl (nI ((1106 + 34 * q + (2 + s))))) (by omega)]
      rw [show gA g 64 (1106 + 34 * q + (2 + s)) = W1 (1106 + 34 * q + (2 + s)) from congrFun hL.1 _]
      refine J_icmp_eq (nx := 159) (tgt := 163) dX12_learns_156 rfl (by decide) (fun c_156 => ?_) (fun c_156 => ?_)
      · refine J_iconst (nx := 164) (i := 0) (v := 0) (by decide) dX12_learns_163 rfl ?_
        refine J_istore_n (nx := 165) dX12_learns_164 rfl rfl (Nat.le_of_ble_eq_true rfl) ?_
        refine J_aload_n (nx := 166) dX12_learns_165 rfl rfl ?_
        refine Jg_63_1 (nx := 169) dX12_learns_166 rfl fl_X12_13 ?_
        refine J_iload (nx := 171) dX12_learns_169 rfl rfl ?_
        refine J_iload (nx := 173) dX12_learns_171 rfl rfl ?_
        refine Jt_64 (nx := 174) dX12_learns_173 rfl (vpE (n := (1106 + 34 * q + (2 + s))) (Eq.refl (nI ((1106 + 34 * q + (2 + s))))) (by omega) (by decide)) ?_
        rw [clE (n := (1106 + 34 * q + (2 + s))) (Eq.refl (nI ((1106 + 34 * q + (2 + s))))) (by omega)]
        refine J.gen (fun g_173 hg_173 => ?_)
        refine J_iinc (nx := 177) dX12_learns_174 rfl rfl rfl (Nat.le_of_ble_eq_true rfl) ?_
        refine J_goto (nx := 25) dX12_learns_177 (by decide) ?_
        have hT : ∃ T, T = mlrT W1 (1106 + 34 * q + (2 + s)) s B := ⟨_, rfl⟩
        refine J_kill (nx := 0) 8 ?_
        refine J_kill (nx := 0) 9 ?_
        rw [show (nI (s) + Int32.ofInt 1) = nI (s + 1) from (show nI (s) + Int32.ofInt 1 = nI (s + 1) from nI_add (s) 1)]
        have hLT : mlrT W1 (1106 + 34 * q + (2 + s)) s B = _ := (show (if ¬ B >>> (nI s &&& 31) &&& 1 = 1 then W1 (1106 + 34 * q + (2 + s)) - 1 else mnI 999 (W1 (1106 + 34 * q + (2 + s)) + 1)) = _ from by first | rw [if_pos c_111] | rw [if_neg (fun z => z c_111)])
        have hg : LSt (lrU W1 ot q s B).1 gl m g_173 := hL.eq (WEq.up (isR_at hq hs)) (by
          rw [hg_173]
          show upd (gA g 64) (1106 + 34 * q + (2 + s)) _ = upd W1 (1106 + 34 * q + (2 + s)) (mlrT W1 (1106 + 34 * q + (2 + s)) s B)
          rw [hLT, hL.1]) (by rw [hg_173]; rfl) (by rw [hg_173]; rfl) (by rw [hg_173]; rfl)
        have ho : (lrU W1 ot q s B).2.1 = false := by
          show (ot || !(decide (mlrT W1 (1106 + 34 * q + (2 + s)) s B = W1 (1106 + 34 * q + (2 + s))))) = _
          rw [hLT]
          first
            | (rw [bI_n0.mp c_144]; rfl)
            | (rw [bI_0.mp c_144, decide_eq_true c_156]; rfl)
            | (rw [bI_0.mp c_144, decide_eq_false c_156]; rfl)
        have h := hK g_173 (by rw [hg_173]; exact Fr.rf.sA rfl) hg
        rw [ho] at h
        exact h
      · refine J_iconst (nx := 160) (i := 1) (v := 1) (by decide) dX12_learns_159 rfl ?_
        refine J_goto (nx := 164) dX12_learns_160 (by decide) ?_
        refine J_istore_n (nx := 165) dX12_learns_164 rfl rfl (Nat.le_of_ble_eq_true rfl) ?_
        refine J_aload_n (nx := 166) dX12_learns_165 rfl rfl ?_
        refine Jg_63_1 (nx := 169) dX12_learns_166 rfl fl_X12_13 ?_
        refine J_iload (nx := 171) dX12_learns_169 rfl rfl ?_
        refine J_iload (nx := 173) dX12_learns_171 rfl rfl ?_
        refine Jt_64 (nx := 174) dX12_learns_173 rfl (vpE (n := (1106 + 34 * q + (2 + s))) (Eq.refl (nI ((1106 + 34 * q + (2 + s))))) (by omega) (by decide)) ?_
        rw [clE (n := (1106 + 34 * q + (2 + s))) (Eq.refl (nI ((1106 + 34 * q + (2 + s))))) (by omega)]
        refine J.gen (fun g_173 hg_173 => ?_)
        refine J_iinc (nx := 177) dX12_learns_174 rfl rfl rfl (Nat.le_of_ble_eq_true rfl) ?_
        refine J_goto (nx := 25) dX12_learns_177 (by decide) ?_
        have hT : ∃ T, T = mlrT W1 (1106 + 34 * q + (2 + s)) s B := ⟨_, rfl⟩
        refine J_kill (nx := 0) 8 ?_
        refine J_kill (nx := 0) 9 ?_
        rw [show (nI (s) + Int32.ofInt 1) = nI (s + 1) from (show nI (s) + Int32.ofInt 1 = nI (s + 1) from nI_add (s) 1)]
        have hLT : mlrT W1 (1106 + 34 * q + (2 + s)) s B = _ := (show (if ¬ B >>> (nI s &&& 31) &&& 1 = 1 then W1 (1106 + 34 * q + (2 + s)) - 1 else mnI 999 (W1 (1106 + 34 * q + (2 + s)) + 1)) = _ from by first | rw [if_pos c_111] | rw [if_neg (fun z => z c_111)])
        have hg : LSt (lrU W1 ot q s B).1 gl m g_173 := hL.eq (WEq.up (isR_at hq hs)) (by
          rw [hg_173]
          show upd (gA g 64) (1106 + 34 * q + (2 + s)) _ = upd W1 (1106 + 34 * q + (2 + s)) (mlrT W1 (1106 + 34 * q + (2 + s)) s B)
          rw [hLT, hL.1]) (by rw [hg_173]; rfl) (by rw [hg_173]; rfl) (by rw [hg_173]; rfl)
        have ho : (lrU W1 ot q s B).2.1 = true := by
          show (ot || !(decide (mlrT W1 (1106 + 34 * q + (2 + s)) s B = W1 (1106 + 34 * q + (2 + s))))) = _
          rw [hLT]
          first
            | (rw [bI_n0.mp c_144]; rfl)
            | (rw [bI_0.mp c_144, decide_eq_true c_156]; rfl)
            | (rw [bI_0.mp c_144, decide_eq_false c_156]; rfl)
        have h := hK g_173 (by rw [hg_173]; exact Fr.rf.sA rfl) hg
        rw [ho] at h
        exact h
  · refine J_sipush (nx := 117) (i := 999) (v := 999) (by decide) dX12_learns_114 rfl ?_
    refine J_aload_n (nx := 118) dX12_learns_117 rfl rfl ?_
    refine Jg_63_1 (nx := 121) dX12_learns_118 rfl fl_X12_13 ?_
    refine J_iload (nx := 123) dX12_learns_121 rfl rfl ?_
    refine Ja_64 (nx := 124) dX12_learns_123 rfl (vpE (n := (1106 + 34 * q + (2 + s))) (Eq.refl (nI ((1106 + 34 * q + (2 + s))))) (by omega) (by decide)) ?_
    rw [clE (n := (1106 + 34 * q + (2 + s))) (Eq.refl (nI ((1106 + 34 * q + (2 + s))))) (by omega)]
    rw [show gA g 64 (1106 + 34 * q + (2 + s)) = W1 (1106 + 34 * q + (2 + s)) from congrFun hL.1 _]
    refine J_iconst (nx := 125) (i := 1) (v := 1) (by decide) dX12_learns_124 rfl ?_
    refine J_iadd (nx := 126) dX12_learns_125 rfl ?_
    refine JcS2 (R' := rm (0) 0 0) (nx := 129) dX12_learns_126 rfl ml_J9_min_7cf53 lk_X12_369 st_J9_min_7cf53 ⟨(Nat.le_of_ble_eq_true rfl), (Nat.le_of_ble_eq_true rfl)⟩ (Nat.le_of_ble_eq_true rfl) ⟨rfl, rfl⟩ (ct_min _ _ _) ?_
    refine J_goto (nx := 141) dX12_learns_129 (by decide) ?_
    refine J_istore (nx := 143) dX12_learns_141 rfl rfl (Nat.le_of_ble_eq_true rfl) ?_
    refine J_iload_n (nx := 144) dX12_learns_143 rfl rfl ?_
    refine J_if_ne (nx := 147) (tgt := 159) dX12_learns_144 rfl (by decide) (fun c_144 => ?_) (fun c_144 => ?_)
    · refine J_iconst (nx := 160) (i := 1) (v := 1) (by decide) dX12_learns_159 rfl ?_
      refine J_goto (nx := 164) dX12_learns_160 (by decide) ?_
      refine J_istore_n (nx := 165) dX12_learns_164 rfl rfl (Nat.le_of_ble_eq_true rfl) ?_
      refine J_aload_n (nx := 166) dX12_learns_165 rfl rfl ?_
      refine Jg_63_1 (nx := 169) dX12_learns_166 rfl fl_X12_13 ?_
      refine J_iload (nx := 171) dX12_learns_169 rfl rfl ?_
      refine J_iload (nx := 173) dX12_learns_171 rfl rfl ?_
      refine Jt_64 (nx := 174) dX12_learns_173 rfl (vpE (n := (1106 + 34 * q + (2 + s))) (Eq.refl (nI ((1106 + 34 * q + (2 + s))))) (by omega) (by decide)) ?_
      rw [clE (n := (1106 + 34 * q + (2 + s))) (Eq.refl (nI ((1106 + 34 * q + (2 + s))))) (by omega)]
      refine J.gen (fun g_173 hg_173 => ?_)
      refine J_iinc (nx := 177) dX12_learns_174 rfl rfl rfl (Nat.le_of_ble_eq_true rfl) ?_
      refine J_goto (nx := 25) dX12_learns_177 (by decide) ?_
      have hT : ∃ T, T = mlrT W1 (1106 + 34 * q + (2 + s)) s B := ⟨_, rfl⟩
      refine J_kill (nx := 0) 8 ?_
      refine J_kill (nx := 0) 9 ?_
      rw [show (nI (s) + Int32.ofInt 1) = nI (s + 1) from (show nI (s) + Int32.ofInt 1 = nI (s + 1) from nI_add (s) 1)]
      have hLT : mlrT W1 (1106 + 34 * q + (2 + s)) s B = _ := (show (if ¬ B >>> (nI s &&& 31) &&& 1 = 1 then W1 (1106 + 34 * q + (2 + s)) - 1 else mnI 999 (W1 (1106 + 34 * q + (2 + s)) + 1)) = _ from by first | rw [if_pos c_111] | rw [if_neg (fun z => z c_111)])
      have hg : LSt (lrU W1 ot q s B).1 gl m g_173 := hL.eq (WEq.up (isR_at hq hs)) (by
        rw [hg_173]
        show upd (gA g 64) (1106 + 34 * q + (2 + s)) _ = upd W1 (1106 + 34 * q + (2 + s)) (mlrT W1 (1106 + 34 * q + (2 + s)) s B)
        rw [hLT, hL.1]) (by rw [hg_173]; rfl) (by rw [hg_173]; rfl) (by rw [hg_173]; rfl)
      have ho : (lrU W1 ot q s B).2.1 = true := by
        show (ot || !(decide (mlrT W1 (1106 + 34 * q + (2 + s)) s B = W1 (1106 + 34 * q + (2 + s))))) = _
        rw [hLT]
        first
          | (rw [bI_n0.mp c_144]; rfl)
          | (rw [bI_0.mp c_144, decide_eq_true c_156]; rfl)
          | (rw [bI_0.mp c_144, decide_eq_false c_156]; rfl)
      have h := hK g_173 (by rw [hg_173]; exact Fr.rf.sA rfl) hg
      rw [ho] at h
      exact h
    · refine J_iload (nx := 149) dX12_learns_147 rfl rfl ?_
      refine J_aload_n (nx := 150) dX12_learns_149 rfl rfl ?_
      refine Jg_63_1 (nx := 153) dX12_learns_150 rfl fl_X12_13 ?_
      refine J_iload (nx := 155) dX12_learns_153 rfl rfl ?_
      refine Ja_64 (nx := 156) dX12_learns_155 rfl (vpE (n := (1106 + 34 * q + (2 + s))) (Eq.refl (nI ((1106 + 34 * q + (2 + s))))) (by omega) (by decide)) ?_
      rw [clE (n := (1106 + 34 * q + (2 + s))) (Eq.refl (nI ((1106 + 34 * q + (2 + s))))) (by omega)]
      rw [show gA g 64 (1106 + 34 * q + (2 + s)) = W1 (1106 + 34 * q + (2 + s)) from congrFun hL.1 _]
      refine J_icmp_eq (nx := 159) (tgt := 163) dX12_learns_156 rfl (by decide) (fun c_156 => ?_) (fun c_156 => ?_)
      · refine J_iconst (nx := 164) (i := 0) (v := 0) (by decide) dX12_learns_163 rfl ?_
        refine J_istore_n (nx := 165) dX12_learns_164 rfl rfl (Nat.le_of_ble_eq_true rfl) ?_
        refine J_aload_n (nx := 166) dX12_learns_165 rfl rfl ?_
        refine Jg_63_1 (nx := 169) dX12_learns_166 rfl fl_X12_13 ?_
        refine J_iload (nx := 171) dX12_learns_169 rfl rfl ?_
        refine J_iload (nx := 173) dX12_learns_171 rfl rfl ?_
        refine Jt_64 (nx := 174) dX12_learns_173 rfl (vpE (n := (1106 + 34 * q + (2 + s))) (Eq.refl (nI ((1106 + 34 * q + (2 + s))))) (by omega) (by decide)) ?_
        rw [clE (n := (1106 + 34 * q + (2 + s))) (Eq.refl (nI ((1106 + 34 * q + (2 + s))))) (by omega)]
        refine J.gen (fun g_173 hg_173 => ?_)
        refine J_iinc (nx := 177) dX12_learns_174 rfl rfl rfl (Nat.le_of_ble_eq_true rfl) ?_
        refine J_goto (nx := 25) dX12_learns_177 (by decide) ?_
        have hT : ∃ T, T = mlrT W1 (1106 + 34 * q + (2 + s)) s B := ⟨_, rfl⟩
        refine J_kill (nx := 0) 8 ?_
        refine J_kill (nx := 0) 9 ?_
        rw [show (nI (s) + Int32.ofInt 1) = nI (s + 1) from (show nI (s) + Int32.ofInt 1 = nI (s + 1) from nI_add (s) 1)]
        have hLT : mlrT W1 (1106 + 34 * q + (2 + s)) s B = _ := (show (if ¬ B >>> (nI s &&& 31) &&& 1 = 1 then W1 (1106 + 34 * q + (2 + s)) - 1 else mnI 999 (W1 (1106 + 34 * q + (2 + s)) + 1)) = _ from by first | rw [if_pos c_111] | rw [if_neg (fun z => z c_111)])
        have hg : LSt (lrU W1 ot q s B).1 gl m g_173 := hL.eq (WEq.up (isR_at hq hs)) (by
          rw [hg_173]
          show upd (gA g 64) (1106 + 34 * q + (2 + s)) _ = upd W1 (1106 + 34 * q + (2 + s)) (mlrT W1 (1106 + 34 * q + (2 + s)) s B)
          rw [hLT, hL.1]) (by rw [hg_173]; rfl) (by rw [hg_173]; rfl) (by rw [hg_173]; rfl)
        have ho : (lrU W1 ot q s B).2.1 = false := by
          show (ot || !(decide (mlrT W1 (1106 + 34 * q + (2 + s)) s B = W1 (1106 + 34 * q + (2 + s))))) = _
          rw [hLT]
          first
            | (rw [bI_n0.mp c_144]; rfl)
            | (rw [bI_0.mp c_144, decide_eq_true c_156]; rfl)
            | (rw [bI_0.mp c_144, decide_eq_false c_156]; rfl)
        have h := hK g_173 (by rw [hg_173]; exact Fr.rf.sA rfl) hg
        rw [ho] at h
        exact h
      · refine J_iconst (nx := 160) (i := 1) (v := 1) (by decide) dX12_learns_159 rfl ?_
        refine J_goto (nx := 164) dX12_learns_160 (by decide) ?_
        refine J_istore_n (nx := 165) dX12_learns_164 rfl rfl (Nat.le_of_ble_eq_true rfl) ?_
        refine J_aload_n (nx := 166) dX12_learns_165 rfl rfl ?_
        refine Jg_63_1 (nx := 169) dX12_learns_166 rfl fl_X12_13 ?_
        refine J_iload (nx := 171) dX12_learns_169 rfl rfl ?_
        refine J_iload (nx := 173) dX12_learns_171 rfl rfl ?_
        refine Jt_64 (nx := 174) dX12_learns_173 rfl (vpE (n := (1106 + 34 * q + (2 + s))) (Eq.refl (nI ((1106 + 34 * q + (2 + s))))) (by omega) (by decide)) ?_
        rw [clE (n := (1106 + 34 * q + (2 + s))) (Eq.refl (nI ((1106 + 34 * q + (2 + s))))) (by omega)]
        refine J.gen (fun g_173 hg_173 => ?_)
        refine J_iinc (nx := 177) dX12_learns_174 rfl rfl rfl (Nat.le_of_ble_eq_true rfl) ?_
        refine J_goto (nx := 25) dX12_learns_177 (by decide) ?_
        have hT : ∃ T, T = mlrT W1 (1106 + 34 * q + (2 + s)) s B := ⟨_, rfl⟩
        refine J_kill (nx := 0) 8 ?_
        refine J_kill (nx := 0) 9 ?_
        rw [show (nI (s) + Int32.ofInt 1) = nI (s + 1) from (show nI (s) + Int32.ofInt 1 = nI (s + 1) from nI_add (s) 1)]
        have hLT : mlrT W1 (1106 + 34 * q + (2 + s)) s B = _ := (show (if ¬ B >>> (nI s &&& 31) &&& 1 = 1 then W1 (1106 + 34 * q + (2 + s)) - 1 else mnI 999 (W1 (1106 + 34 * q + (2 + s)) + 1)) = _ from by first | rw [if_pos c_111] | rw [if_neg (fun z => z c_111)])
        have hg : LSt (lrU W1 ot q s B).1 gl m g_173 := hL.eq (WEq.up (isR_at hq hs)) (by
          rw [hg_173]
          show upd (gA g 64) (1106 + 34 * q + (2 + s)) _ = upd W1 (1106 + 34 * q + (2 + s)) (mlrT W1 (1106 + 34 * q + (2 + s)) s B)
          rw [hLT, hL.1]) (by rw [hg_173]; rfl) (by rw [hg_173]; rfl) (by rw [hg_173]; rfl)
        have ho : (lrU W1 ot q s B).2.1 = true := by
          show (ot || !(decide (mlrT W1 (1106 + 34 * q + (2 + s)) s B = W1 (1106 + 34 * q + (2 + s))))) = _
          rw [hLT]
          first
            | (rw [bI_n0.mp c_144]; rfl)
            | (rw [bI_0.mp c_144, decide_eq_true c_156]; rfl)
            | (rw [bI_0.mp c_144, decide_eq_false c_156]; rfl)
        have h := hK g_173 (by rw [hg_173]; exact Fr.rf.sA rfl) hg
        rw [ho] at h
        exact h

theorem lrU_eq {W W1 : Nat → Int32} {ot : Bool} {q s : Nat} {B : Int32} (h : WEq W W1) (hq : q < 6) (hs : s < 32) : WEq W (lrU W1 ot q s B).1 := h.tr (WEq.up (isR_at hq hs))
theorem mlrS_eq {gl : List TxL} {rl : Nat → List TxL} {m jd b : Int32} {W : Nat → Int32} {q s : Nat} {p : LRP} (h : WEq W p.1) (hq : q < 6) (hs : s < 32) : WEq W (mlrS gl rl m jd b q s p).1 := by
  unfold mlrS
  by_cases c : p.1 (1106 + 34 * q + (2 + s)) = 0
  · rw [if_pos c]; exact h
  · rw [if_neg c]; exact lrU_eq h hq hs
theorem lrJ_eq {gl : List TxL} {rl : Nat → List TxL} {m jd b : Int32} {W : Nat → Int32} {q : Nat} (hq : q < 6) : ∀ (f s : Nat) (p : LRP), s + f ≤ 32 → WEq W p.1 → WEq W (lrJ gl rl m jd b q f s p).1 := by
  intro f
  induction f with
  | zero => intro s p _ h; exact h
  | succ f ih => intro s p hs h; exact ih (s + 1) _ (by omega) (mlrS_eq h hq (by omega))
theorem lrK_eq {gl : List TxL} {rl : Nat → List TxL} {m jd b : Int32} {W : Nat → Int32} : ∀ (f q : Nat) (W1 : Nat → Int32) (ot : Bool), q + f ≤ 6 → WEq W W1 → WEq W (lrK gl rl m jd b f q W1 ot).1 := by
  intro f
  induction f with
  | zero => intro q W1 ot _ h; exact h
  | succ f ih => intro q W1 ot hs h; exact ih (q + 1) _ _ (by omega) (lrJ_eq (by omega) 32 0 _ (by omega) h)
set_option maxRecDepth 100000 in
set_option maxHeartbeats 4000000 in
theorem lp_m_lr1 (Q : Res → List ME → Prop) (g0 : GS) (W : Nat → Int32) (gl : List TxL) (rl : Nat → List TxL) (m : Int32) (hM : MOK W gl rl) (jd b : Int32) (hjd : jdOK W jd) (q : Nat) (hq : q < 6) (n0 : Nat) : ∀ (k : Nat) (s : Nat) (p : LRP) (g : GS) (r : LRP), s + k = 32 → WEq W p.1 → Fr fA a64r g0 g → LSt p.1 gl m g → r = lrJ gl rl m jd b q k s p → (∀ g, Fr fA a64r g0 g → LSt r.1 gl m g → J mX12_learns (rm 6 0 0) Q n0 180 [some (.ref 63), some (.int jd), some (.int b), some (.int (bI (r.2.1))), some (.int (nI (q))), some (.int (r.2.2.1)), some (.int (r.2.2.2)), some (.int (nI (32))), none, none] [] (Wd g) 0 0) → J mX12_learns (rm 6 0 0) (Q) n0 25 [some (.ref 63), some (.int jd), some (.int b), some (.int (bI (p.2.1))), some (.int (nI (q))), some (.int (p.2.2.1)), some (.int (p.2.2.2)), some (.int (nI (s))), none, none] [] (Wd g) 0 0 := by
  intro k
  induction k with
  | zero =>
    intro s p g r hk hWE hfr hL hr hK
    refine J_iload (nx := 27) dX12_learns_25 rfl rfl ?_
    refine J_bipush (nx := 29) (i := 32) (v := 32) (by decide) dX12_learns_27 rfl ?_
    refine J_icmp_ge (nx := 32) (tgt := 180) dX12_learns_29 rfl (by decide) (fun c_29 => ?_) (fun c_29 => ?_)
    · obtain rfl : s = 32 := by omega
      rw [show r = p from hr] at hK
      exact hK g hfr hL
    · exact absurd (show nI 32 ≤ nI s from by rw [show s = 32 by omega]; exact le_self_nI) c_29
  | succ k ih =>
    intro s p g r hk hWE hfr hL hr hK
    refine J_iload (nx := 27) dX12_learns_25 rfl rfl ?_
    refine J_bipush (nx := 29) (i := 32) (v := 32) (by decide) dX12_learns_27 rfl ?_
    refine J_icmp_ge (nx := 32) (tgt := 180) dX12_learns_29 rfl (by decide) (fun c_29 => ?_) (fun c_29 => ?_)
    · exact absurd c_29 (nlt_nI (n := 32) (by omega) (by omega))
    · have hs : s < 32 := by omega
      refine J_iload (nx := 34) dX12_learns_32 rfl rfl ?_
      refine J_iconst (nx := 35) (i := 2) (v := 2) (by decide) dX12_learns_34 rfl ?_
      refine J_iload (nx := 37) dX12_learns_35 rfl rfl ?_
      refine J_iadd (nx := 38) dX12_learns_37 rfl ?_
      rw [show ((2 : Int32) + nI (s)) = nI ((2 + s)) from (nIa (nIc 2) (Eq.refl (nI (s))))]
      refine JcS2 (R' := rm (0) 0 0) (nx := 41) dX12_learns_38 rfl ml_X12_sortAt lk_X12_282 st_X12_sortAt ⟨(Nat.le_of_ble_eq_true rfl), (Nat.le_of_ble_eq_true rfl)⟩ (Nat.le_of_ble_eq_true rfl) ⟨rfl, rfl⟩ (ct_m_sortAt _ (q) ((2 + s))) ?_
      refine J_istore (nx := 43) dX12_learns_41 rfl rfl (Nat.le_of_ble_eq_true rfl) ?_
      refine J_aload_n (nx := 44) dX12_learns_43 rfl rfl ?_
      refine Jg_63_1 (nx := 47) dX12_learns_44 rfl fl_X12_13 ?_
      refine J_iload (nx := 49) dX12_learns_47 rfl rfl ?_
      refine Ja_64 (nx := 50) dX12_learns_49 rfl (vpE (n := (1106 + 34 * q + (2 + s))) (Eq.refl (nI ((1106 + 34 * q + (2 + s))))) (by omega) (by decide)) ?_
      rw [clE (n := (1106 + 34 * q + (2 + s))) (Eq.refl (nI ((1106 + 34 * q + (2 + s))))) (by omega)]
      rw [show gA g 64 (1106 + 34 * q + (2 + s)) = p.1 (1106 + 34 * q + (2 + s)) from congrFun hL.1 _]
      refine J_if_ne (nx := 53) (tgt := 56) dX12_learns_50 rfl (by decide) (fun c_50 => ?_) (fun c_50 => ?_)
      · refine J_iload (nx := 58) dX12_learns_56 rfl rfl ?_
        refine J_aload_n (nx := 59) dX12_learns_58 rfl rfl ?_
        refine J_iload (nx := 61) dX12_learns_59 rfl rfl ?_
        refine J_aload_n (nx := 62) dX12_learns_61 rfl rfl ?_
        refine J_iload (nx := 64) dX12_learns_62 rfl rfl ?_
        refine JcV1 (R' := rm (1) 0 0) (nx := 67) dX12_learns_64 rfl ml_X12_toldCard lk_X12_320 iv_X12_toldCard rfl rfl ⟨(Nat.le_of_ble_eq_true rfl), (Nat.le_of_ble_eq_true rfl)⟩ (Nat.le_of_ble_eq_true rfl) ⟨rfl, rfl⟩ (ct_m_toldCard _ (q) (by omega)) ?_
        refine JcV2 (R' := rm (2) 0 0) (nx := 70) dX12_learns_67 rfl ml_X12_cardOf lk_X12_302 iv_X12_cardOf rfl rfl ⟨(Nat.le_of_ble_eq_true rfl), (Nat.le_of_ble_eq_true rfl)⟩ (Nat.le_of_ble_eq_true rfl) ⟨rfl, rfl⟩ (ct_m_cardOf _ (q) (by omega) _) ?_
        rw [mCd_w hL.1 q]
        refine J_icmp_eq (nx := 73) (tgt := 89) dX12_learns_70 rfl (by decide) (fun c_70 => ?_) (fun c_70 => ?_)
        · have hB : lrB gl rl m jd b q p.1 p.2.2.1 p.2.2.2 = p.2.2.2 := by
            unfold lrB
            rw [if_pos c_70]
          have hS : mlrS gl rl m jd b q s p = lrU p.1 p.2.1 q s (p.2.2.2) := by
            unfold mlrS
            rw [if_neg c_50, hB]
          refine sg_m_lr89 n0 Q gl m p.1 g hL jd b q s hq hs p.2.1 p.2.2.1 (p.2.2.2) (fun g2 hf2 hL2 => ?_)
          have h := ih (s + 1) (mlrS gl rl m jd b q s p) g2 r (by omega) (mlrS_eq hWE hq hs) (hfr.tr hf2) (by rw [hS]; exact hL2) hr hK
          rw [hS] at h
          exact h
        · refine J_aload_n (nx := 74) dX12_learns_73 rfl rfl ?_
          refine J_iload_n (nx := 75) dX12_learns_74 rfl rfl ?_
          refine J_iload_n (nx := 76) dX12_learns_75 rfl rfl ?_
          refine J_iload (nx := 78) dX12_learns_76 rfl rfl ?_
          refine J_aload_n (nx := 79) dX12_learns_78 rfl rfl ?_
          refine J_iload (nx := 81) dX12_learns_79 rfl rfl ?_
          refine JcV1 (R' := rm (1) 0 0) (nx := 84) dX12_learns_81 rfl ml_X12_toldCard lk_X12_320 iv_X12_toldCard rfl rfl ⟨(Nat.le_of_ble_eq_true rfl), (Nat.le_of_ble_eq_true rfl)⟩ (Nat.le_of_ble_eq_true rfl) ⟨rfl, rfl⟩ (ct_m_toldCard _ (q) (by omega)) ?_
          rw [show mSo g q 0 = wTo p.1 q from congrFun hL.1 _]
          refine JiV4 (R' := rm (5) 0 0) (nx := 87) dX12_learns_84 rfl ml_X12_paying lk_X12_359 iv_X12_paying rfl rfl ⟨(Nat.le_of_ble_eq_true rfl), (Nat.le_of_ble_eq_true rfl)⟩ (Nat.le_of_ble_eq_true rfl) ⟨rfl, rfl⟩ (ct_m_paying2 g p.1 gl rl m (hM.eq hWE) hL jd b q hq (wTo p.1 q) (hjd.eq hWE)) (fun x_84 g_84 p_84 => ?_)
          refine J_istore (nx := 89) dX12_learns_87 rfl rfl (Nat.le_of_ble_eq_true rfl) ?_
          have hB : lrB gl rl m jd b q p.1 p.2.2.1 p.2.2.2 = orI (wPy p.1 gl rl m q (wTo p.1 q) jd b) 32 := by
            unfold lrB
            rw [if_neg c_70]
          have hS : mlrS gl rl m jd b q s p = lrU p.1 p.2.1 q s (orI (wPy p.1 gl rl m q (wTo p.1 q) jd b) 32) := by
            unfold mlrS
            rw [if_neg c_50, hB]
          rw [p_84.1]
          refine sg_m_lr89 n0 Q gl m p.1 g_84 p_84.2.2 jd b q s hq hs p.2.1 p.2.2.1 (orI (wPy p.1 gl rl m q (wTo p.1 q) jd b) 32) (fun g2 hf2 hL2 => ?_)
          have h := ih (s + 1) (mlrS gl rl m jd b q s p) g2 r (by omega) (mlrS_eq hWE hq hs) ((hfr.tr (p_84.2.1.mono (fun _ _ h => h) a64r_74)).tr hf2) (by rw [hS]; exact hL2) hr hK
          rw [hS] at h
          exact h
      · refine J_goto (nx := 174) dX12_learns_53 (by decide) ?_
        refine J_iinc (nx := 177) dX12_learns_174 rfl rfl rfl (Nat.le_of_ble_eq_true rfl) ?_
        refine J_goto (nx := 25) dX12_learns_177 (by decide) ?_
        have hS : mlrS gl rl m jd b q s p = p := by
          unfold mlrS
          rw [if_pos c_50]
        refine J_kill (nx := 0) 8 ?_
        rw [show (nI (s) + Int32.ofInt 1) = nI (s + 1) from (show nI (s) + Int32.ofInt 1 = nI (s + 1) from nI_add (s) 1)]
        exact ih (s + 1) p g r (by omega) hWE hfr hL (by rw [hr]; show lrJ gl rl m jd b q k (s + 1) (mlrS gl rl m jd b q s p) = _; rw [hS]) hK

set_option maxRecDepth 100000 in
set_option maxHeartbeats 4000000 in
theorem lp_m_lr2 (g0 : GS) (W : Nat → Int32) (gl : List TxL) (rl : Nat → List TxL) (m : Int32) (hM : MOK W gl rl) (jd b : Int32) (hjd : jdOK W jd) (n0 : Nat) : ∀ (k : Nat) (q : Nat) (W1 : Nat → Int32) (ot : Bool) (g : GS) (r : (Nat → Int32) × Bool), q + k = mN W → WEq W W1 → Fr fA a64r g0 g → LSt W1 gl m g → r = lrK gl rl m jd b k q W1 ot → J mX12_learns (rm 6 0 0) (RXi (fun x g2 => x = bI r.2 ∧ Fr fA a64r g0 g2 ∧ LSt r.1 gl m g2)) n0 5 [some (.ref 63), some (.int jd), some (.int b), some (.int (bI (ot))), some (.int (nI (q))), none, none, none, none, none] [] (Wd g) 0 0 := by
  intro k
  induction k with
  | zero =>
    intro q W1 ot g r hk hWE hfr hL hr
    have hM2 := hM
    obtain ⟨⟨hG10, hG⟩, ⟨hT1, hT60, hT⟩, ⟨hR4, hR, hrl⟩, ⟨hN6, hN⟩, hgl, hgk⟩ := hM2
    refine J_iload (nx := 7) dX12_learns_5 rfl rfl ?_
    refine J_aload_n (nx := 8) dX12_learns_7 rfl rfl ?_
    refine Jg_63_1 (nx := 11) dX12_learns_8 rfl fl_X12_13 ?_
    refine J_iconst (nx := 12) (i := 2) (v := 2) (by decide) dX12_learns_11 rfl ?_
    refine Ja_64 (nx := 13) dX12_learns_12 rfl (vpE (n := 2) (nIc 2) (by omega) (by decide)) ?_
    rw [clE (n := 2) (nIc 2) (by omega)]
    rw [show gA g 64 2 = nI (mN W) from (congrFun hL.1 2).trans ((hWE.lo (by omega)).trans hN)]
    refine J_icmp_ge (nx := 16) (tgt := 186) dX12_learns_13 rfl (by decide) (fun c_13 => ?_) (fun c_13 => ?_)
    · refine J_iload_n (nx := 187) dX12_learns_186 rfl rfl ?_
      exact Jrz dX12_learns_187 rfl (bI_nar _) (Nat.zero_le _) (Nat.zero_le _) (RXi.of ⟨by rw [hr]; rfl, hfr, by rw [hr]; exact hL⟩)
    · exact absurd (show nI (mN W) ≤ nI q from by rw [show q = mN W by omega]; exact le_self_nI) c_13
  | succ k ih =>
    intro q W1 ot g r hk hWE hfr hL hr
    have hM2 := hM
    obtain ⟨⟨hG10, hG⟩, ⟨hT1, hT60, hT⟩, ⟨hR4, hR, hrl⟩, ⟨hN6, hN⟩, hgl, hgk⟩ := hM2
    refine J_iload (nx := 7) dX12_learns_5 rfl rfl ?_
    refine J_aload_n (nx := 8) dX12_learns_7 rfl rfl ?_
    refine Jg_63_1 (nx := 11) dX12_learns_8 rfl fl_X12_13 ?_
    refine J_iconst (nx := 12) (i := 2) (v := 2) (by decide) dX12_learns_11 rfl ?_
    refine Ja_64 (nx := 13) dX12_learns_12 rfl (vpE (n := 2) (nIc 2) (by omega) (by decide)) ?_
    rw [clE (n := 2) (nIc 2) (by omega)]
    rw [show gA g 64 2 = nI (mN W) from (congrFun hL.1 2).trans ((hWE.lo (by omega)).trans hN)]
    refine J_icmp_ge (nx := 16) (tgt := 186) dX12_learns_13 rfl (by decide) (fun c_13 => ?_) (fun c_13 => ?_)
    · exact absurd c_13 (nlt_nI (n := mN W) (by omega) (by omega))
    · refine J_iconst (nx := 17) (i := -1) (v := -1) (by decide) dX12_learns_16 rfl ?_
      refine J_istore (nx := 19) dX12_learns_17 rfl rfl (Nat.le_of_ble_eq_true rfl) ?_
      refine J_iconst (nx := 20) (i := 0) (v := 0) (by decide) dX12_learns_19 rfl ?_
      refine J_istore (nx := 22) dX12_learns_20 rfl rfl (Nat.le_of_ble_eq_true rfl) ?_
      refine J_iconst (nx := 23) (i := 0) (v := 0) (by decide) dX12_learns_22 rfl ?_
      refine J_istore (nx := 25) dX12_learns_23 rfl rfl (Nat.le_of_ble_eq_true rfl) ?_
      refine lp_m_lr1 _ g0 W gl rl m hM jd b hjd q (by omega) n0 32 0 (W1, ot, -1, 0) g (lrJ gl rl m jd b q 32 0 (W1, ot, -1, 0)) rfl hWE hfr hL rfl (fun g hfr hL => ?_)
      have hWE2 : WEq W (lrJ gl rl m jd b q 32 0 (W1, ot, -1, 0)).1 := lrJ_eq (by omega) 32 0 _ (by omega) hWE
      refine J_iinc (nx := 183) dX12_learns_180 rfl rfl rfl (Nat.le_of_ble_eq_true rfl) ?_
      refine J_goto (nx := 5) dX12_learns_183 (by decide) ?_
      refine J_kill (nx := 0) 5 ?_
      refine J_kill (nx := 0) 6 ?_
      refine J_kill (nx := 0) 7 ?_
      rw [show (nI (q) + Int32.ofInt 1) = nI (q + 1) from (show nI (q) + Int32.ofInt 1 = nI (q + 1) from nI_add (q) 1)]
      exact ih (q + 1) (lrJ gl rl m jd b q 32 0 (W1, ot, -1, 0)).1 (lrJ gl rl m jd b q 32 0 (W1, ot, -1, 0)).2.1 g r (by omega) hWE2 hfr hL hr

set_option maxRecDepth 100000 in
set_option maxHeartbeats 4000000 in
theorem ct_m_learns (g : GS) (W W1 : Nat → Int32) (gl : List TxL) (rl : Nat → List TxL) (m : Int32) (hM : MOK W gl rl) (hWE : WEq W W1) (hL : LSt W1 gl m g) (jd b : Int32) (hjd : jdOK W jd) : Ct mX12_learns (rm 6 0 0) [.ref 63, .int jd, .int b] (Wd g) (RXi (fun x g2 => x = bI (lrK gl rl m jd b (mN W) 0 W1 false).2 ∧ Fr fA a64r g g2 ∧ LSt (lrK gl rl m jd b (mN W) 0 W1 false).1 gl m g2)) := by
  refine Ct.of (by decide +kernel) (Nat.le_of_ble_eq_true rfl) ?_
  show J _ _ _ _ 0 [some (.ref 63), some (.int jd), some (.int b), none, none, none, none, none, none, none] [] _ 0 0
  refine J_iconst (nx := 1) (i := 0) (v := 0) (by decide) dX12_learns_0 rfl ?_
  refine J_istore_n (nx := 2) dX12_learns_1 rfl rfl (Nat.le_of_ble_eq_true rfl) ?_
  refine J_iconst (nx := 3) (i := 0) (v := 0) (by decide) dX12_learns_2 rfl ?_
  refine J_istore (nx := 5) dX12_learns_3 rfl rfl (Nat.le_of_ble_eq_true rfl) ?_
  exact lp_m_lr2 g W gl rl m hM jd b hjd _ (mN W) 0 W1 false g (lrK gl rl m jd b (mN W) 0 W1 false) (by omega) hWE Fr.rf hL rfl

def rtI (x : Nat) : Nat := 1106 + 34 * (x / 32) + (2 + x % 32)
def lnF (gl : List TxL) (rl : Nat → List TxL) (m jd b : Int32) (W : Nat → Int32) : Nat → Nat → (Nat → Int32) → Int32 × (Nat → Int32)
  | 0, _, _ => (-1, W)
  | f + 1, n, W1 => if (lrK gl rl m jd b (mN W) 0 W1 false).2 = false then (nI n, (lrK gl rl m jd b (mN W) 0 W1 false).1) else lnF gl rl m jd b W f (n + 1) (lrK gl rl m jd b (mN W) 0 W1 false).1
def a77 (c : Nat) : Bool := Nat.beq c 77
def a64o (c : Nat) : Bool := Nat.beq c 64
def aQ64 (c : Nat) : Bool := aQ c || Nat.beq c 64
theorem aQ64_77 (c : Nat) (h : aQ64 c = false) : a77 c = false := by
  cases e : a77 c with
  | false => rfl
  | true => unfold a77 at e; rw [Nat.beq_eq] at e; subst e; exact absurd h (by decide)
theorem aQ64_o (c : Nat) (h : aQ64 c = false) : a64o c = false := by
  cases e : a64o c with
  | false => rfl
  | true => unfold a64o at e; rw [Nat.beq_eq] at e; subst e; exact absurd h (by decide)
theorem aQ64_Q (c : Nat) (h : aQ64 c = false) : aQ c = false := by unfold aQ64 at h; revert h; cases aQ c <;> simp
theorem aQ64_r (c : Nat) (h : aQ64 c = false) : a64r c = false := by
  have h1 := aQ64_Q c h
  have h2 := aQ_74 c h1
  have h3 : Nat.beq c 64 = false := by unfold aQ64 at h; rw [h1] at h; exact h
  unfold a64r; rw [h2, h3]; rfl
theorem isR_x {i : Nat} (h : isR i) : ∃ x, x < 192 ∧ rtI x = i := by
  obtain ⟨h1, h2, h3⟩ := h
  refine ⟨32 * ((i - 1106) / 34) + ((i - 1106) % 34 - 2), by omega, ?_⟩
  have e1 : (32 * ((i - 1106) / 34) + ((i - 1106) % 34 - 2)) / 32 = (i - 1106) / 34 := by omega
  have e2 : (32 * ((i - 1106) / 34) + ((i - 1106) % 34 - 2)) % 32 = (i - 1106) % 34 - 2 := by omega
  unfold rtI
  rw [e1, e2]
  omega
theorem rtI_inj {x y : Nat} (hx : x < 192) (hy : y < 192) (h : rtI x = rtI y) : x = y := by unfold rtI at h; omega
theorem rtI_R {x : Nat} (hx : x < 192) : isR (rtI x) := ⟨by unfold rtI; omega, by unfold rtI; omega, by unfold rtI; omega⟩
theorem WEq.all {W W' : Nat → Int32} (h : WEq W W') (hx : ∀ x, x < 192 → W' (rtI x) = W (rtI x)) : W' = W := by
  funext i
  by_cases c : isR i
  · obtain ⟨x, h1, rfl⟩ := isR_x c
    exact hx x h1
  · exact h i c
set_option maxRecDepth 100000 in
set_option maxHeartbeats 4000000 in
theorem lp_m_ln1 (Q : Res → List ME → Prop) (g0 : GS) (jd b : Int32) (n0 : Nat) : ∀ (k : Nat) (i : Nat) (g : GS), i + k = 192 → Fr f0 a77 g0 g → (∀ x, x < i → gA g 77 x = gA g0 64 (rtI x)) → (∀ g, Fr f0 a77 g0 g → (∀ x, x < 192 → gA g 77 x = gA g0 64 (rtI x)) → J mX12_learn (rm 7 0 0) Q n0 84 [some (.ref 63), some (.int jd), some (.int b), some (.int (nI (192)))] [] (Wd g) 0 0) → J mX12_learn (rm 7 0 0) (Q) n0 47 [some (.ref 63), some (.int jd), some (.int b), some (.int (nI (i)))] [] (Wd g) 0 0 := by
  intro k
  induction k with
  | zero =>
    intro i g hk hfr hI hK
    refine J_iload_n (nx := 48) dX12_learn_47 rfl rfl ?_
    refine J_sipush (nx := 51) (i := 192) (v := 192) (by decide) dX12_learn_48 rfl ?_
    refine J_icmp_ge (nx := 54) (tgt := 84) dX12_learn_51 rfl (by decide) (fun c_51 => ?_) (fun c_51 => ?_)
    · obtain rfl : i = 192 := by omega
      exact hK g hfr hI
    · exact absurd (show nI 192 ≤ nI i from by rw [show i = 192 by omega]; exact le_self_nI) c_51
  | succ k ih =>
    intro i g hk hfr hI hK
    refine J_iload_n (nx := 48) dX12_learn_47 rfl rfl ?_
    refine J_sipush (nx := 51) (i := 192) (v := 192) (by decide) dX12_learn_48 rfl ?_
    refine J_icmp_ge (nx := 54) (tgt := 84) dX12_learn_51 rfl (by decide) (fun c_51 => ?_) (fun c_51 => ?_)
    · exact absurd c_51 (nlt_nI (n := 192) (by omega) (by omega))
    · have hi : i < 192 := by omega
      refine J_aload_n (nx := 55) dX12_learn_54 rfl rfl ?_
      refine Jg_63_30 (nx := 58) dX12_learn_55 rfl fl_X12_58 ?_
      refine J_iload_n (nx := 59) dX12_learn_58 rfl rfl ?_
      refine J_aload_n (nx := 60) dX12_learn_59 rfl rfl ?_
      refine Jg_63_1 (nx := 63) dX12_learn_60 rfl fl_X12_13 ?_
      refine J_iload_n (nx := 64) dX12_learn_63 rfl rfl ?_
      refine J_bipush (nx := 66) (i := 32) (v := 32) (by decide) dX12_learn_64 rfl ?_
      refine J_idiv (nx := 67) (by decide) dX12_learn_66 rfl ?_
      rw [show (nI (i) / (32 : Int32)) = nI ((i / 32)) from (nId (by omega) (by omega) (Eq.refl (nI (i))) (nIc 32))]
      refine J_iconst (nx := 68) (i := 2) (v := 2) (by decide) dX12_learn_67 rfl ?_
      refine J_iload_n (nx := 69) dX12_learn_68 rfl rfl ?_
      refine J_bipush (nx := 71) (i := 32) (v := 32) (by decide) dX12_learn_69 rfl ?_
      refine J_irem (nx := 72) (by decide) dX12_learn_71 rfl ?_
      rw [show (nI (i) - nI (i) / (32 : Int32) * (32 : Int32)) = nI ((i % 32)) from (nIr (by omega) (by omega) (Eq.refl (nI (i))) (nIc 32))]
      refine J_iadd (nx := 73) dX12_learn_72 rfl ?_
      rw [show ((2 : Int32) + nI ((i % 32))) = nI ((2 + (i % 32))) from (nIa (nIc 2) (Eq.refl (nI ((i % 32)))))]
      refine JcS2 (R' := rm (0) 0 0) (nx := 76) dX12_learn_73 rfl ml_X12_sortAt lk_X12_282 st_X12_sortAt ⟨(Nat.le_of_ble_eq_true rfl), (Nat.le_of_ble_eq_true rfl)⟩ (Nat.le_of_ble_eq_true rfl) ⟨rfl, rfl⟩ (ct_m_sortAt _ ((i / 32)) ((2 + (i % 32)))) ?_
      refine Ja_64 (nx := 77) dX12_learn_76 rfl (vpE (n := (1106 + 34 * (i / 32) + (2 + (i % 32)))) (Eq.refl (nI ((1106 + 34 * (i / 32) + (2 + (i % 32)))))) (by omega) (by decide)) ?_
      rw [clE (n := (1106 + 34 * (i / 32) + (2 + (i % 32)))) (Eq.refl (nI ((1106 + 34 * (i / 32) + (2 + (i % 32)))))) (by omega)]
      refine Jt_77 (nx := 78) dX12_learn_77 rfl (vpE (n := i) (Eq.refl (nI (i))) (by omega) (by decide)) ?_
      rw [clE (n := i) (Eq.refl (nI (i))) (by omega)]
      refine J.gen (fun g_77 hg_77 => ?_)
      refine J_iinc (nx := 81) dX12_learn_78 rfl rfl rfl (Nat.le_of_ble_eq_true rfl) ?_
      refine J_goto (nx := 47) dX12_learn_81 (by decide) ?_
      rw [show (nI (i) + Int32.ofInt 1) = nI (i + 1) from (show nI (i) + Int32.ofInt 1 = nI (i + 1) from nI_add (i) 1)]
      refine ih (i + 1) g_77 (by omega) (by rw [hg_77]; exact hfr.sA rfl) (fun x hx => ?_) hK
      rw [hg_77]
      show upd (gA g 77) i (gA g 64 (rtI i)) x = gA g0 64 (rtI x)
      by_cases e : x = i
      · rw [e]; exact (if_pos rfl).trans (congrFun (hfr.2.1 64 rfl) _)
      · exact (if_neg e).trans (hI x (by omega))

set_option maxRecDepth 100000 in
set_option maxHeartbeats 4000000 in
theorem lp_m_ln3 (g0 : GS) (W : Nat → Int32) (jd b : Int32) (hkp : ∀ x, x < 192 → gA g0 77 x = W (rtI x)) (n0 : Nat) : ∀ (k : Nat) (i : Nat) (g : GS), i + k = 192 → Fr f0 a64o g0 g → WEq W (gA g 64) → (∀ x, x < i → gA g 64 (rtI x) = W (rtI x)) → J mX12_learn (rm 7 0 0) (RXi (fun x g2 => x = -1 ∧ Fr f0 a64o g0 g2 ∧ gA g2 64 = W)) n0 111 [some (.ref 63), some (.int jd), some (.int b), some (.int (nI (i)))] [] (Wd g) 0 0 := by
  intro k
  induction k with
  | zero =>
    intro i g hk hfr hWE hI
    refine J_iload_n (nx := 112) dX12_learn_111 rfl rfl ?_
    refine J_sipush (nx := 115) (i := 192) (v := 192) (by decide) dX12_learn_112 rfl ?_
    refine J_icmp_ge (nx := 118) (tgt := 148) dX12_learn_115 rfl (by decide) (fun c_115 => ?_) (fun c_115 => ?_)
    · refine J_iconst (nx := 149) (i := -1) (v := -1) (by decide) dX12_learn_148 rfl ?_
      exact Jri dX12_learn_149 rfl (Nat.zero_le _) (Nat.zero_le _) (RXi.of ⟨rfl, hfr, hWE.all (fun x hx => hI x (by omega))⟩)
    · exact absurd (show nI 192 ≤ nI i from by rw [show i = 192 by omega]; exact le_self_nI) c_115
  | succ k ih =>
    intro i g hk hfr hWE hI
    refine J_iload_n (nx := 112) dX12_learn_111 rfl rfl ?_
    refine J_sipush (nx := 115) (i := 192) (v := 192) (by decide) dX12_learn_112 rfl ?_
    refine J_icmp_ge (nx := 118) (tgt := 148) dX12_learn_115 rfl (by decide) (fun c_115 => ?_) (fun c_115 => ?_)
    · exact absurd c_115 (nlt_nI (n := 192) (by omega) (by omega))
    · have hi : i < 192 := by omega
      refine J_aload_n (nx := 119) dX12_learn_118 rfl rfl ?_
      refine Jg_63_1 (nx := 122) dX12_learn_119 rfl fl_X12_13 ?_
      refine J_iload_n (nx := 123) dX12_learn_122 rfl rfl ?_
      refine J_bipush (nx := 125) (i := 32) (v := 32) (by decide) dX12_learn_123 rfl ?_
      refine J_idiv (nx := 126) (by decide) dX12_learn_125 rfl ?_
      rw [show (nI (i) / (32 : Int32)) = nI ((i / 32)) from (nId (by omega) (by omega) (Eq.refl (nI (i))) (nIc 32))]
      refine J_iconst (nx := 127) (i := 2) (v := 2) (by decide) dX12_learn_126 rfl ?_
      refine J_iload_n (nx := 128) dX12_learn_127 rfl rfl ?_
      refine J_bipush (nx := 130) (i := 32) (v := 32) (by decide) dX12_learn_128 rfl ?_
      refine J_irem (nx := 131) (by decide) dX12_learn_130 rfl ?_
      rw [show (nI (i) - nI (i) / (32 : Int32) * (32 : Int32)) = nI ((i % 32)) from (nIr (by omega) (by omega) (Eq.refl (nI (i))) (nIc 32))]
      refine J_iadd (nx := 132) dX12_learn_131 rfl ?_
      rw [show ((2 : Int32) + nI ((i % 32))) = nI ((2 + (i % 32))) from (nIa (nIc 2) (Eq.refl (nI ((i % 32)))))]
      refine JcS2 (R' := rm (0) 0 0) (nx := 135) dX12_learn_132 rfl ml_X12_sortAt lk_X12_282 st_X12_sortAt ⟨(Nat.le_of_ble_eq_true rfl), (Nat.le_of_ble_eq_true rfl)⟩ (Nat.le_of_ble_eq_true rfl) ⟨rfl, rfl⟩ (ct_m_sortAt _ ((i / 32)) ((2 + (i % 32)))) ?_
      refine J_aload_n (nx := 136) dX12_learn_135 rfl rfl ?_
      refine Jg_63_30 (nx := 139) dX12_learn_136 rfl fl_X12_58 ?_
      refine J_iload_n (nx := 140) dX12_learn_139 rfl rfl ?_
      refine Ja_77 (nx := 141) dX12_learn_140 rfl (vpE (n := i) (Eq.refl (nI (i))) (by omega) (by decide)) ?_
      rw [clE (n := i) (Eq.refl (nI (i))) (by omega)]
      refine Jt_64 (nx := 142) dX12_learn_141 rfl (vpE (n := (1106 + 34 * (i / 32) + (2 + (i % 32)))) (Eq.refl (nI ((1106 + 34 * (i / 32) + (2 + (i % 32)))))) (by omega) (by decide)) ?_
      rw [clE (n := (1106 + 34 * (i / 32) + (2 + (i % 32)))) (Eq.refl (nI ((1106 + 34 * (i / 32) + (2 + (i % 32)))))) (by omega)]
      refine J.gen (fun g_141 hg_141 => ?_)
      refine J_iinc (nx := 145) dX12_learn_142 rfl rfl rfl (Nat.le_of_ble_eq_true rfl) ?_
      refine J_goto (nx := 111) dX12_learn_145 (by decide) ?_
      rw [show (nI (i) + Int32.ofInt 1) = nI (i + 1) from (show nI (i) + Int32.ofInt 1 = nI (i + 1) from nI_add (i) 1)]
      have e0 : gA g_141 64 = upd (gA g 64) (rtI i) (gA g 77 i) := by rw [hg_141]; rfl
      refine ih (i + 1) g_141 (by omega) (by rw [hg_141]; exact hfr.sA rfl) (by rw [e0]; exact hWE.tr (WEq.up (rtI_R hi))) (fun x hx => ?_)
      rw [e0]
      show (if rtI x = rtI i then gA g 77 i else gA g 64 (rtI x)) = W (rtI x)
      by_cases e : x = i
      · rw [e, if_pos rfl, hfr.2.1 77 rfl]; exact hkp i hi
      · rw [if_neg (fun z => e (rtI_inj (by omega) hi z))]; exact hI x (by omega)

set_option maxRecDepth 100000 in
set_option maxHeartbeats 4000000 in
theorem lp_m_ln2 (g0 : GS) (W : Nat → Int32) (gl : List TxL) (rl : Nat → List TxL) (m : Int32) (hM : MOK W gl rl) (jd b : Int32) (hjd : jdOK W jd) (n0 : Nat) : ∀ (k : Nat) (n : Nat) (W1 : Nat → Int32) (g : GS) (r : Int32 × (Nat → Int32)), n + k = 61 → WEq W W1 → Fr fA aQ64 g0 g → LSt W1 gl m g → (∀ x, x < 192 → gA g 77 x = W (rtI x)) → r = lnF gl rl m jd b W k n W1 → J mX12_learn (rm 7 0 0) (RXi (fun x g2 => x = r.1 ∧ Fr fA aQ64 g0 g2 ∧ gA g2 64 = r.2)) n0 86 [some (.ref 63), some (.int jd), some (.int b), some (.int (nI (n)))] [] (Wd g) 0 0 := by
  intro k
  induction k with
  | zero =>
    intro n W1 g r hk hWE hfr hL hkp hr
    refine J_iload_n (nx := 87) dX12_learn_86 rfl rfl ?_
    refine J_bipush (nx := 89) (i := 60) (v := 60) (by decide) dX12_learn_87 rfl ?_
    refine J_icmp_gt (nx := 92) (tgt := 109) dX12_learn_89 rfl (by decide) (fun c_89 => ?_) (fun c_89 => ?_)
    · refine J_iconst (nx := 110) (i := 0) (v := 0) (by decide) dX12_learn_109 rfl ?_
      refine J_istore_n (nx := 111) dX12_learn_110 rfl rfl (Nat.le_of_ble_eq_true rfl) ?_
      refine J.post (lp_m_ln3 g W jd b hkp n0 192 0 g rfl Fr.rf (by rw [hL.1]; exact hWE) (fun x h => absurd h (Nat.not_lt_zero _))) (fun r2 es h => ?_)
      obtain ⟨x, g2, h1, he, hx, hf, hw⟩ := h
      exact ⟨x, g2, h1, he, by rw [hr]; exact hx, hfr.tr (hf.mono fA_0 aQ64_o), by rw [hr]; exact hw⟩
    · exact absurd (nI_ltn (a := 60) (b := n) (by omega) (by omega)) c_89
  | succ k ih =>
    intro n W1 g r hk hWE hfr hL hkp hr
    have hM2 := hM
    obtain ⟨⟨hG10, hG⟩, ⟨hT1, hT60, hT⟩, ⟨hR4, hR, hrl⟩, ⟨hN6, hN⟩, hgl, hgk⟩ := hM2
    refine J_iload_n (nx := 87) dX12_learn_86 rfl rfl ?_
    refine J_bipush (nx := 89) (i := 60) (v := 60) (by decide) dX12_learn_87 rfl ?_
    refine J_icmp_gt (nx := 92) (tgt := 109) dX12_learn_89 rfl (by decide) (fun c_89 => ?_) (fun c_89 => ?_)
    · exact absurd (nI_ltd (a := 60) (b := n) (by omega) (by omega) c_89) (by omega)
    · refine J_aload_n (nx := 93) dX12_learn_92 rfl rfl ?_
      refine J_iload_n (nx := 94) dX12_learn_93 rfl rfl ?_
      refine J_iload_n (nx := 95) dX12_learn_94 rfl rfl ?_
      refine JiV2 (R' := rm (6) 0 0) (nx := 98) dX12_learn_95 rfl ml_X12_learns lk_X12_371 iv_X12_learns rfl rfl ⟨(Nat.le_of_ble_eq_true rfl), (Nat.le_of_ble_eq_true rfl)⟩ (Nat.le_of_ble_eq_true rfl) ⟨rfl, rfl⟩ (ct_m_learns g W W1 gl rl m hM hWE hL jd b hjd) (fun x_95 g_95 p_95 => ?_)
      refine J_if_ne (nx := 101) (tgt := 103) dX12_learn_98 rfl (by decide) (fun c_98 => ?_) (fun c_98 => ?_)
      · refine J_iinc (nx := 106) dX12_learn_103 rfl rfl rfl (Nat.le_of_ble_eq_true rfl) ?_
        refine J_goto (nx := 86) dX12_learn_106 (by decide) ?_
        rw [p_95.1] at c_98
        rw [show (nI (n) + Int32.ofInt 1) = nI (n + 1) from (show nI (n) + Int32.ofInt 1 = nI (n + 1) from nI_add (n) 1)]
        refine ih (n + 1) (lrK gl rl m jd b (mN W) 0 W1 false).1 g_95 r (by omega) (lrK_eq (mN W) 0 W1 false (by omega) hWE) (hfr.tr (p_95.2.1.mono (fun _ _ h => h) aQ64_r)) p_95.2.2 (fun x hx => by rw [p_95.2.1.2.1 77 rfl]; exact hkp x hx) ?_
        rw [hr]
        show (if (lrK gl rl m jd b (mN W) 0 W1 false).2 = false then _ else _) = _
        rw [if_neg (fun z => c_98 (by rw [z]; rfl))]
      · refine J_iload_n (nx := 102) dX12_learn_101 rfl rfl ?_
        exact Jri dX12_learn_102 rfl (Nat.zero_le _) (Nat.zero_le _) (RXi.of ⟨by rw [hr]; show _ = (if (lrK gl rl m jd b (mN W) 0 W1 false).2 = false then (nI n, (lrK gl rl m jd b (mN W) 0 W1 false).1) else _ : Int32 × (Nat → Int32)).1; rw [if_pos (bI_0.mp (by rw [← p_95.1]; exact c_98))], hfr.tr (p_95.2.1.mono (fun _ _ h => h) aQ64_r), by rw [hr]; show _ = (if (lrK gl rl m jd b (mN W) 0 W1 false).2 = false then (nI n, (lrK gl rl m jd b (mN W) 0 W1 false).1) else _ : Int32 × (Nat → Int32)).2; rw [if_pos (bI_0.mp (by rw [← p_95.1]; exact c_98))]; exact p_95.2.2.1⟩)

set_option maxRecDepth 100000 in
set_option maxHeartbeats 4000000 in
theorem ct_m_learn (g : GS) (gl : List TxL) (rl : Nat → List TxL) (hM : MOK (gA g 64) gl rl) (jd : Int32) (b : Int32) : Ct mX12_learn (rm 7 0 0) [.ref 63, .int jd, .int b] (Wd g) (PQi g [(wMj (gA g 64) jd, 1), (fMb jd b, 2)] (fun x g2 => x = (lnF gl rl (gA g 64 6) jd b (gA g 64) 61 0 (gA g 64)).1 ∧ gA g2 64 = (lnF gl rl (gA g 64 6) jd b (gA g 64) 61 0 (gA g 64)).2 ∧ Fr fQ aQ64 g g2 ∧ gF g2 63 0 = 0)) := by
  have hM2 := hM
  obtain ⟨⟨hG10, hG⟩, ⟨hT1, hT60, hT⟩, ⟨hR4, hR, hrl⟩, ⟨hN6, hN⟩, hgl, hgk⟩ := hM2
  refine Ct.of (by decide +kernel) (Nat.le_of_ble_eq_true rfl) ?_
  show J _ _ _ _ 0 [some (.ref 63), some (.int jd), some (.int b), none] [] _ 0 0
  refine J_aload_n (nx := 1) dX12_learn_0 rfl rfl ?_
  refine J_iconst (nx := 2) (i := 0) (v := 0) (by decide) dX12_learn_1 rfl ?_
  refine Jp_63_0 (nx := 5) dX12_learn_2 rfl fl_X12_3 ?_
  refine J_aload_n (nx := 6) dX12_learn_5 rfl rfl ?_
  refine J_aload_n (nx := 7) dX12_learn_6 rfl rfl ?_
  refine J_iload_n (nx := 8) dX12_learn_7 rfl rfl ?_
  refine JcV1 (R' := rm (1) 0 0) (nx := 11) dX12_learn_8 rfl ml_X12_noJudge lk_X12_335 iv_X12_noJudge rfl rfl ⟨(Nat.le_of_ble_eq_true rfl), (Nat.le_of_ble_eq_true rfl)⟩ (Nat.le_of_ble_eq_true rfl) ⟨rfl, rfl⟩ (ct_m_noJudgeW (sF g 63 0 0) (gA g 64) rfl _) ?_
  refine J_iconst (nx := 12) (i := 1) (v := 1) (by decide) dX12_learn_11 rfl ?_
  refine J_thr (nx := 15) dX12_learn_12 rfl lk_X12_237 ⟨(Nat.le_of_ble_eq_true rfl), (Nat.le_of_ble_eq_true rfl)⟩ (Nat.le_of_ble_eq_true rfl) (fun b_12 => ?_) (fun b_12 => ?_)
  · refine J_if_ne (nx := 18) (tgt := 32) dX12_learn_15 rfl (by decide) (fun c_15 => ?_) (fun c_15 => ?_)
    · refine J_iconst (nx := 33) (i := 0) (v := 0) (by decide) dX12_learn_32 rfl ?_
      exact Jri dX12_learn_33 rfl (Nat.zero_le _) (Nat.zero_le _) (RXi.of (Or.inl ⟨_, (by simp only [bI_is0, bI_is1, Bool.not_eq_true', Bool.not_eq_false'] at b_12; simp only [mxC, b_12, decide_true, decide_false, Bool.not_true, Bool.not_false, Bool.true_or, Bool.false_or, Bool.and_true, Bool.true_and, Bool.false_and, Bool.and_false, cond_true, cond_false]), rfl, rfl⟩))
    · exact absurd c_15 (by decide)
  · refine J_if_ne (nx := 18) (tgt := 32) dX12_learn_15 rfl (by decide) (fun c_15 => ?_) (fun c_15 => ?_)
    · exact absurd c_15 (by decide)
    · refine J_aload_n (nx := 19) dX12_learn_18 rfl rfl ?_
      refine J_aload_n (nx := 20) dX12_learn_19 rfl rfl ?_
      refine J_iload_n (nx := 21) dX12_learn_20 rfl rfl ?_
      refine J_iload_n (nx := 22) dX12_learn_21 rfl rfl ?_
      refine JcV2 (R' := rm (1) 0 0) (nx := 25) dX12_learn_22 rfl ml_X12_badBar lk_X12_344 iv_X12_badBar rfl rfl ⟨(Nat.le_of_ble_eq_true rfl), (Nat.le_of_ble_eq_true rfl)⟩ (Nat.le_of_ble_eq_true rfl) ⟨rfl, rfl⟩ (ct_m_badBar _ _ _) ?_
      refine J_iconst (nx := 26) (i := 2) (v := 2) (by decide) dX12_learn_25 rfl ?_
      refine J_thr (nx := 29) dX12_learn_26 rfl lk_X12_237 ⟨(Nat.le_of_ble_eq_true rfl), (Nat.le_of_ble_eq_true rfl)⟩ (Nat.le_of_ble_eq_true rfl) (fun b_26 => ?_) (fun b_26 => ?_)
      · refine J_if_eq (nx := 32) (tgt := 34) dX12_learn_29 rfl (by decide) (fun c_29 => ?_) (fun c_29 => ?_)
        · exact absurd c_29 (by decide)
        · refine J_iconst (nx := 33) (i := 0) (v := 0) (by decide) dX12_learn_32 rfl ?_
          exact Jri dX12_learn_33 rfl (Nat.zero_le _) (Nat.zero_le _) (RXi.of (Or.inl ⟨_, (by simp only [bI_is0, bI_is1, Bool.not_eq_true', Bool.not_eq_false'] at b_12 b_26; simp only [mxC, b_12, b_26, decide_true, decide_false, Bool.not_true, Bool.not_false, Bool.true_or, Bool.false_or, Bool.and_true, Bool.true_and, Bool.false_and, Bool.and_false, cond_true, cond_false]), rfl, rfl⟩))
      · refine J_if_eq (nx := 32) (tgt := 34) dX12_learn_29 rfl (by decide) (fun c_29 => ?_) (fun c_29 => ?_)
        · have HC : mxC [(wMj (gA g 64) jd, 1), (fMb jd b, 2)] = none := (by simp only [bI_is0, bI_is1, Bool.not_eq_true', Bool.not_eq_false'] at b_12 b_26; simp only [mxC, b_12, b_26, decide_true, decide_false, Bool.not_true, Bool.not_false, Bool.true_or, Bool.false_or, Bool.and_true, Bool.true_and, Bool.false_and, Bool.and_false, cond_true, cond_false])
          have HG0 := HC
          obtain ⟨hk0, HG1⟩ := gd HG0
          have hk0_0 := hk0
          have hjjd := wMj_ok hM hk0_0
          obtain ⟨hk1, HG2⟩ := gd HG1
          have hk1_0 := hk1
          refine J_aload_n (nx := 35) dX12_learn_34 rfl rfl ?_
          refine J_aload_n (nx := 36) dX12_learn_35 rfl rfl ?_
          refine Jg_63_1 (nx := 39) dX12_learn_36 rfl fl_X12_13 ?_
          refine J_bipush (nx := 41) (i := 6) (v := 6) (by decide) dX12_learn_39 rfl ?_
          refine Ja_64 (nx := 42) dX12_learn_41 rfl (vpE (n := 6) (nIc 6) (by omega) (by decide)) ?_
          rw [clE (n := 6) (nIc 6) (by omega)]
          rw [show gA (sF g 63 0 0) 64 6 = gA g 64 6 from rfl]
          refine JvV1 (R' := rm (4) 0 0) (nx := 45) dX12_learn_42 rfl ml_X12_letsOn lk_X12_296 iv_X12_letsOn rfl rfl ⟨(Nat.le_of_ble_eq_true rfl), (Nat.le_of_ble_eq_true rfl)⟩ (Nat.le_of_ble_eq_true rfl) ⟨rfl, rfl⟩ (ct_m_letsOn (sF g 63 0 0) (gA g 64) (gA g 64 6) gl rfl hgl hgk) (fun g_42 p_42 => ?_)
          have hL : LSt (gA g 64) gl (gA g 64 6) g_42 := LOK.ls (show gA (sF g 63 0 0) 64 = gA g 64 from rfl) p_42
          have hfr1 : Fr fA aQ (sF g 63 0 0) g_42 := Fr.rf.LO p_42.1
          refine J_iconst (nx := 46) (i := 0) (v := 0) (by decide) dX12_learn_45 rfl ?_
          refine J_istore_n (nx := 47) dX12_learn_46 rfl rfl (Nat.le_of_ble_eq_true rfl) ?_
          refine lp_m_ln1 _ g_42 jd b _ 192 0 g_42 rfl Fr.rf (fun x h => absurd h (Nat.not_lt_zero _)) (fun gc hfc hIc => ?_)
          refine J_iconst (nx := 85) (i := 0) (v := 0) (by decide) dX12_learn_84 rfl ?_
          refine J_istore_n (nx := 86) dX12_learn_85 rfl rfl (Nat.le_of_ble_eq_true rfl) ?_
          have hLc : LSt (gA g 64) gl (gA g 64 6) gc := hL.fr (hfc.2.1 64 rfl) (hfc.1 63 20 rfl) (hfc.1 63 21 rfl) (hfc.2.2.1 72 rfl)
          refine J.post (lp_m_ln2 (sF g 63 0 0) (gA g 64) gl rl (gA g 64 6) hM jd b hjjd _ 61 0 (gA g 64) gc _ rfl WEq.rf ((hfr1.mono (fun _ _ h => h) aQ64_Q).tr (hfc.mono fA_0 aQ64_77)) hLc (fun x hx => by rw [hIc x hx, hL.1]) rfl) (fun r es h => ?_)
          obtain ⟨x, g2, hr, he, hx, hf, hw⟩ := h
          exact ⟨x, g2, hr, he, Or.inr ⟨HC, hx, hw, (Fr.sF (Fr.rf (f := fQ) (a := aQ64)) rfl).tr (hf.mono fQ_A (fun _ h => h)), hf.1 63 0 rfl⟩⟩
        · exact absurd c_29 (by decide)

