
/-! the Model: a season -/
def a74 (c : Nat) : Bool := Nat.ble 70 c && Nat.ble c 74
theorem a74_J (c : Nat) (h : a74 c = false) : aJ c = false := by
  cases e : aJ c with
  | false => rfl
  | true =>
    unfold aJ at e
    rw [Bool.or_eq_true, Bool.or_eq_true, Bool.or_eq_true, Nat.beq_eq, Nat.beq_eq, Nat.beq_eq, Nat.beq_eq] at e
    rcases e with ((rfl | rfl) | rfl) | rfl <;> exact absurd h (by decide)
theorem a74_LO (c : Nat) (h : a74 c = false) : aLO c = false := by
  cases e : aLO c with
  | false => rfl
  | true =>
    unfold aLO at e
    rw [Bool.or_eq_true, Bool.or_eq_true, Nat.beq_eq, Nat.beq_eq, Nat.beq_eq] at e
    rcases e with (rfl | rfl) | rfl <;> exact absurd h (by decide)
theorem aQ_74 (c : Nat) (h : aQ c = false) : a74 c = false := by
  cases e : a74 c with
  | false => rfl
  | true =>
    unfold a74 at e
    rw [Bool.and_eq_true] at e
    have h1 := Nat.le_of_ble_eq_true e.1
    have h2 := Nat.le_of_ble_eq_true e.2
    have h3 : aQ c = true := by
      unfold aQ
      rw [Bool.and_eq_true]
      exact ⟨Nat.ble_eq_true_of_le h1, Nat.ble_eq_true_of_le (by omega)⟩
    rw [h3] at h; cases h
theorem fr_mFoA {a : Nat → Bool} {g0 g : GS} {k z : Nat} {told : Int32} (h : Fr fA a g0 g) : Fr fA a g0 (mFo g k z told) := Fr.sF (Fr.sF (Fr.sF (Fr.sF h rfl) rfl) rfl) rfl
def rtN (W : Nat → Int32) (n : Nat) : Nat := nN (W (1106 + 34 * (n / 32) + (2 + n % 32)))
def rtS (W : Nat → Int32) : Nat → Nat
  | 0 => 0
  | n + 1 => rtS W n + rtN W n
def RTK (W : Nat → Int32) : Prop := ∀ n, n < 32 * mN W → ∃ v, v ≤ 999 ∧ W (1106 + 34 * (n / 32) + (2 + n % 32)) = nI v
theorem RTK.n {W : Nat → Int32} (h : RTK W) {n : Nat} (hn : n < 32 * mN W) : rtN W n ≤ 999 ∧ W (1106 + 34 * (n / 32) + (2 + n % 32)) = nI (rtN W n) := by
  obtain ⟨v, hv, e⟩ := h n hn
  have e2 : rtN W n = v := by unfold rtN; rw [e]; exact nN_nI (by omega)
  rw [e2]; exact ⟨hv, e⟩
theorem rtS_le {W : Nat → Int32} (h : RTK W) : ∀ n, n ≤ 32 * mN W → rtS W n ≤ 999 * n := by
  intro n
  induction n with
  | zero => intro _; exact Nat.le_refl _
  | succ n ih =>
    intro hn
    have h1 := ih (by omega)
    have h2 := (h.n (show n < 32 * mN W by omega)).1
    show rtS W n + rtN W n ≤ 999 * (n + 1)
    omega
theorem rt_row {W : Nat → Int32} (h : RTK W) (k : Nat) (hk : k < mN W) : ∀ i, i ≤ 32 → sI (fun q => W (1106 + 34 * k + (2 + q))) i = nI (rtS W (32 * k + i) - rtS W (32 * k)) ∧ rtS W (32 * k) ≤ rtS W (32 * k + i) := by
  intro i
  induction i with
  | zero => intro _; exact ⟨by rw [Nat.add_zero, Nat.sub_self]; rfl, Nat.le_refl _⟩
  | succ i ih =>
    intro hi
    obtain ⟨h1, h2⟩ := ih (by omega)
    have h3 := (h.n (show 32 * k + i < 32 * mN W by omega)).2
    rw [show (32 * k + i) / 32 = k by omega, show (32 * k + i) % 32 = i by omega] at h3
    refine ⟨?_, ?_⟩
    · show sI (fun q => W (1106 + 34 * k + (2 + q))) i + W (1106 + 34 * k + (2 + i)) = nI (rtS W (32 * k + i) + rtN W (32 * k + i) - rtS W (32 * k))
      rw [h1, h3, nI_add]
      exact congrArg nI (by omega)
    · show _ ≤ rtS W (32 * k + i) + rtN W (32 * k + i)
      omega
theorem rt_all {W : Nat → Int32} (h : RTK W) : ∀ q, q ≤ mN W → sI (wRs W) q = nI (rtS W (32 * q)) := by
  intro q
  induction q with
  | zero => intro _; rfl
  | succ q ih =>
    intro hq
    have h1 := rt_row h q (by omega) 32 (Nat.le_refl _)
    have h2 : wRs W q = nI (rtS W (32 * q + 32) - rtS W (32 * q)) := h1.1
    show sI (wRs W) q + wRs W q = _
    rw [ih (by omega), h2, nI_add, show 32 * (q + 1) = 32 * q + 32 by omega]
    exact congrArg nI (by omega)
def rtF (W : Nat → Int32) : Nat → Nat → Nat → Nat
  | 0, a, _ => a
  | k + 1, a, l => if l < rtN W a then a else rtF W k (a + 1) (l - rtN W a)
theorem fIn_nat1 {x : Int32} {n : Nat} (hn : n < 2 ^ 31) (h : fIn x 1 (nI n) = true) : ∃ q, 1 ≤ q ∧ q ≤ n ∧ x = nI q := by
  unfold fIn at h
  by_cases c1 : x < 1
  · rw [if_pos c1] at h; cases h
  · rw [if_neg c1] at h
    by_cases c2 : nI n < x
    · rw [if_pos c2] at h; cases h
    · have h1 := Int32.le_iff_toInt_le.mp (nlt_le c1)
      have h2 := Int32.le_iff_toInt_le.mp (nlt_le c2)
      rw [show (1 : Int32).toInt = 1 from rfl] at h1
      rw [nI_toInt (by omega)] at h2
      refine ⟨x.toInt.toNat, by omega, by omega, ?_⟩
      apply Int32.toInt_inj.mp
      rw [nI_toInt (by omega)]; omega
theorem drV_nat (x : Int32) : ∃ u, u ≤ 32767 ∧ drV x = nI u := by
  refine ⟨(drV x).toBitVec.toNat, ?_, ?_⟩
  · unfold drV
    show ((mrS x >>> ((16 : Int32) &&& 31)).toBitVec &&& (32767 : Int32).toBitVec).toNat ≤ 32767
    rw [BitVec.toNat_and]
    exact Nat.and_le_right
  · have h : (drV x).toBitVec.toNat ≤ 32767 := by
      unfold drV
      show ((mrS x >>> ((16 : Int32) &&& 31)).toBitVec &&& (32767 : Int32).toBitVec).toNat ≤ 32767
      rw [BitVec.toNat_and]
      exact Nat.and_le_right
    apply Int32.toInt_inj.mp
    rw [nI_toInt (by omega)]
    show (drV x).toBitVec.toInt = _
    rw [BitVec.toInt_eq_toNat_of_lt (by omega)]
theorem mpF_nat {W : Nat → Int32} {ac : Nat → Nat → Int32} : ∀ (k n p : Nat) (goes : Bool) (x : Int32), n + k ≤ 60 → ∃ u, u < 400 ∧ (mpF W ac k n p goes x).1 = nI u := by
  intro k
  induction k with
  | zero =>
    intro n p goes x h
    show ∃ u, u < 400 ∧ plE (plA goes (ac n p)) n = nI u
    unfold plE
    split
    · exact ⟨300 + n, by omega, nIa (nIc 300) rfl⟩
    · exact ⟨n, by omega, rfl⟩
  | succ k ih =>
    intro n p goes x h
    show ∃ u, u < 400 ∧ (plB W (plA goes (ac n p)) n p x (mpF W ac k (n + 1))).1 = nI u
    unfold plB
    split
    · split
      · split
        · exact ih (n + 1) _ _ _ (by omega)
        · split
          · exact ⟨n + 1, by omega, nIa rfl (nIc 1)⟩
          · exact ⟨200 + n + 1, by omega, nIa (nIa (nIc 200) rfl) (nIc 1)⟩
      · exact ⟨100 + n + 1, by omega, nIa (nIa (nIc 100) rfl) (nIc 1)⟩
    · exact ⟨n, by omega, rfl⟩
def camU (c : Nat → Int32) (u : Nat) : Nat → Int32 := upd c (u / 100) (c (u / 100) + 1)
def camG (c : Nat → Int32) (u : Nat) : Nat → Int32 := upd (camU c u) 4 (camU c u 4 + nI (u % 100))
def msnP (W : Nat → Int32) (x : Int32) : Nat := rtF W (32 * mN W) 0 (nN (drV x) % rtS W (32 * mN W))
def msnR (W : Nat → Int32) (gl : List TxL) (rl : Nat → List TxL) (jd b : Int32) (x : Int32) : Int32 × Int32 :=
  mpF W (ja (mJP W gl rl (W 6) (msnP W x / 32) (msnP W x % 32 / 4) (wTo W (msnP W x / 32)) jd b (mG W))) (mT W) 0 (msnP W x % 32) false (mrS x)
def msnN (W : Nat → Int32) (gl : List TxL) (rl : Nat → List TxL) (jd b seed : Int32) : Nat → (Nat → Int32) × Int32
  | 0 => (fun _ => 0, seed)
  | n + 1 => (camG (msnN W gl rl jd b seed n).1 (nN (msnR W gl rl jd b (msnN W gl rl jd b seed n).2).1), (msnR W gl rl jd b (msnN W gl rl jd b seed n).2).2)

set_option maxRecDepth 100000 in
set_option maxHeartbeats 4000000 in
theorem ct_m_asks2 (g : GS) (W : Nat → Int32) (gl : List TxL) (rl : Nat → List TxL) (hW : gA g 64 = W) (hM : MOK W gl rl) (jd b : Int32) (k z : Nat) (hk : k < 6) (hz : z < 8) (hjd : jdOK W jd) : Ct mX12_asks (rm 5 0 0) [.ref 63, .int jd, .int b, .int (nI (k)), .int (nI (z))] (Wd g) (RXv (fun g2 => Fr fA a74 g g2 ∧ AS W gl rl (W 6) k z (wTo W k) jd b (mG W) g2)) := by
  have hM2 := hM
  obtain ⟨⟨hG10, hG⟩, ⟨hT1, hT60, hT⟩, ⟨hR4, hR, hrl⟩, ⟨hN6, hN⟩, hgl, hgk⟩ := hM2
  refine Ct.of (by decide +kernel) (Nat.le_of_ble_eq_true rfl) ?_
  show J _ _ _ _ 0 [some (.ref 63), some (.int jd), some (.int b), some (.int (nI (k))), some (.int (nI (z)))] [] _ 0 0
  refine J_aload_n (nx := 1) dX12_asks_0 rfl rfl ?_
  refine J_aload_n (nx := 2) dX12_asks_1 rfl rfl ?_
  refine Jg_63_1 (nx := 5) dX12_asks_2 rfl fl_X12_13 ?_
  refine J_bipush (nx := 7) (i := 6) (v := 6) (by decide) dX12_asks_5 rfl ?_
  refine Ja_64 (nx := 8) dX12_asks_7 rfl (vpE (n := 6) (nIc 6) (by omega) (by decide)) ?_
  rw [clE (n := 6) (nIc 6) (by omega)]
  rw [show gA g 64 6 = W 6 from congrFun hW 6]
  refine JvV1 (R' := rm (4) 0 0) (nx := 11) dX12_asks_8 rfl ml_X12_letsOn lk_X12_296 iv_X12_letsOn rfl rfl ⟨(Nat.le_of_ble_eq_true rfl), (Nat.le_of_ble_eq_true rfl)⟩ (Nat.le_of_ble_eq_true rfl) ⟨rfl, rfl⟩ (ct_m_letsOn g W (W 6) gl hW hgl hgk) (fun g_8 p_8 => ?_)
  have hL := LOK.ls hW p_8
  refine J_aload_n (nx := 12) dX12_asks_11 rfl rfl ?_
  refine J_iload_n (nx := 13) dX12_asks_12 rfl rfl ?_
  refine J_iload (nx := 15) dX12_asks_13 rfl rfl ?_
  refine J_aload_n (nx := 16) dX12_asks_15 rfl rfl ?_
  refine J_iload_n (nx := 17) dX12_asks_16 rfl rfl ?_
  refine JcV1 (R' := rm (1) 0 0) (nx := 20) dX12_asks_17 rfl ml_X12_toldCard lk_X12_320 iv_X12_toldCard rfl rfl ⟨(Nat.le_of_ble_eq_true rfl), (Nat.le_of_ble_eq_true rfl)⟩ (Nat.le_of_ble_eq_true rfl) ⟨rfl, rfl⟩ (ct_m_toldCard _ (k) (by omega)) ?_
  rw [show mSo g_8 k 0 = wTo W k from congrFun hL.1 _]
  refine JcV3 (R' := rm (3) 0 0) (nx := 23) dX12_asks_20 rfl ml_X12_fouls lk_X12_323 iv_X12_fouls rfl rfl ⟨(Nat.le_of_ble_eq_true rfl), (Nat.le_of_ble_eq_true rfl)⟩ (Nat.le_of_ble_eq_true rfl) ⟨rfl, rfl⟩ (ct_m_fouls g_8 k z hk hz (wTo W k)) ?_
  refine J.gen (fun g_20 hg_20 => ?_)
  refine J_aload_n (nx := 24) dX12_asks_23 rfl rfl ?_
  refine J_iload_n (nx := 25) dX12_asks_24 rfl rfl ?_
  refine J_iload_n (nx := 26) dX12_asks_25 rfl rfl ?_
  refine J_aload_n (nx := 27) dX12_asks_26 rfl rfl ?_
  refine Jg_63_1 (nx := 30) dX12_asks_27 rfl fl_X12_13 ?_
  refine J_iconst (nx := 31) (i := 4) (v := 4) (by decide) dX12_asks_30 rfl ?_
  refine Ja_64 (nx := 32) dX12_asks_31 rfl (vpE (n := 4) (nIc 4) (by omega) (by decide)) ?_
  rw [clE (n := 4) (nIc 4) (by omega)]
  have hL2 : LSt W gl (W 6) g_20 := by rw [hg_20]; exact hL.Fo
  have hF2 : FSt W k z (wTo W k) g_20 := by rw [hg_20]; exact FSt.Fo hL.1
  have hfr2 : Fr fA a74 g g_20 := by rw [hg_20]; exact fr_mFoA (p_8.1.mono fA_LO a74_LO)
  rw [show gA g_20 64 4 = nI (mG W) from (congrFun hL2.1 4).trans hG]
  refine JvV3 (R' := rm (4) 0 0) (nx := 35) dX12_asks_32 rfl ml_X12_judges lk_X12_338 iv_X12_judges rfl rfl ⟨(Nat.le_of_ble_eq_true rfl), (Nat.le_of_ble_eq_true rfl)⟩ (Nat.le_of_ble_eq_true rfl) ⟨rfl, rfl⟩ (ct_m_judges g_20 (mJP W gl rl (W 6) k z (wTo W k) jd b (mG W)) (mJP_ok hM hL2 hF2 hjd hG10 hz)) (fun g_32 p_32 => ?_)
  exact Jrv dX12_asks_35 rfl (Nat.zero_le _) (Nat.zero_le _) (RXv.of ⟨hfr2.tr (p_32.1.mono fA_0 a74_J), hL2.J p_32.1, hF2.J p_32.1, p_32.2⟩)

set_option maxRecDepth 100000 in
set_option maxHeartbeats 4000000 in
theorem lp_m_sn0 (Q : Res → List ME → Prop) (g : GS) (jd b mny sd wh : Int32) (N : Nat) (hN : gA g 64 2 = nI N) (hN6 : N ≤ 6) (n0 : Nat) : ∀ (k : Nat) (i : Nat), i + k = N → J mX12_season (rm 6 0 0) Q n0 39 [some (.ref 63), some (.int jd), some (.int b), some (.int mny), some (.int sd), some (.int wh), some (.int (sI (wRs (gA g 64)) N)), some (.int (nI N)), none, none, none] [] (Wd g) 0 0 → J mX12_season (rm 6 0 0) (Q) n0 11 [some (.ref 63), some (.int jd), some (.int b), some (.int mny), some (.int sd), some (.int wh), some (.int (sI (wRs (gA g 64)) i)), some (.int (nI i)), none, none, none] [] (Wd g) 0 0 := by
  intro k
  induction k with
  | zero =>
    intro i hk hK
    refine J_iload (nx := 13) dX12_season_11 rfl rfl ?_
    refine J_aload_n (nx := 14) dX12_season_13 rfl rfl ?_
    refine Jg_63_1 (nx := 17) dX12_season_14 rfl fl_X12_13 ?_
    refine J_iconst (nx := 18) (i := 2) (v := 2) (by decide) dX12_season_17 rfl ?_
    refine Ja_64 (nx := 19) dX12_season_18 rfl (vpE (n := 2) (nIc 2) (by omega) (by decide)) ?_
    rw [clE (n := 2) (nIc 2) (by omega)]
    rw [hN]
    refine J_icmp_ge (nx := 22) (tgt := 39) dX12_season_19 rfl (by decide) (fun c_19 => ?_) (fun c_19 => ?_)
    · obtain rfl : i = N := by omega
      exact hK
    · exact absurd (show nI N ≤ nI i from by rw [show i = N by omega]; exact le_self_nI) c_19
  | succ k ih =>
    intro i hk hK
    refine J_iload (nx := 13) dX12_season_11 rfl rfl ?_
    refine J_aload_n (nx := 14) dX12_season_13 rfl rfl ?_
    refine Jg_63_1 (nx := 17) dX12_season_14 rfl fl_X12_13 ?_
    refine J_iconst (nx := 18) (i := 2) (v := 2) (by decide) dX12_season_17 rfl ?_
    refine Ja_64 (nx := 19) dX12_season_18 rfl (vpE (n := 2) (nIc 2) (by omega) (by decide)) ?_
    rw [clE (n := 2) (nIc 2) (by omega)]
    rw [hN]
    refine J_icmp_ge (nx := 22) (tgt := 39) dX12_season_19 rfl (by decide) (fun c_19 => ?_) (fun c_19 => ?_)
    · exact absurd c_19 (nlt_nI (n := N) (by omega) (by omega))
    · refine J_iload (nx := 24) dX12_season_22 rfl rfl ?_
      refine J_aload_n (nx := 25) dX12_season_24 rfl rfl ?_
      refine J_iload (nx := 27) dX12_season_25 rfl rfl ?_
      refine JcV1 (R' := rm (1) 0 0) (nx := 30) dX12_season_27 rfl ml_X12_rates lk_X12_299 iv_X12_rates rfl rfl ⟨(Nat.le_of_ble_eq_true rfl), (Nat.le_of_ble_eq_true rfl)⟩ (Nat.le_of_ble_eq_true rfl) ⟨rfl, rfl⟩ (ct_m_rates g i (by omega)) ?_
      rw [show mRs g i = wRs (gA g 64) i from rfl]
      refine J_iadd (nx := 31) dX12_season_30 rfl ?_
      refine J_istore (nx := 33) dX12_season_31 rfl rfl (Nat.le_of_ble_eq_true rfl) ?_
      refine J_iinc (nx := 36) dX12_season_33 rfl rfl rfl (Nat.le_of_ble_eq_true rfl) ?_
      refine J_goto (nx := 11) dX12_season_36 (by decide) ?_
      rw [show (nI (i) + Int32.ofInt 1) = nI (i + 1) from (show nI (i) + Int32.ofInt 1 = nI (i + 1) from nI_add (i) 1)]
      exact ih (i + 1) (by omega) hK

def a81 (c : Nat) : Bool := Nat.beq c 81
set_option maxRecDepth 100000 in
set_option maxHeartbeats 4000000 in
theorem lp_m_sn1 (Q : Res → List ME → Prop) (g0 : GS) (jd b mny sd wh al : Int32) (n0 : Nat) : ∀ (k : Nat) (i : Nat) (g : GS), i + k = 5 → Fr f0 a81 g0 g → (∀ x, x < i → gA g 81 x = 0) → (∀ g, Fr f0 a81 g0 g → (∀ x, x < 5 → gA g 81 x = 0) → J mX12_season (rm 6 0 0) Q n0 138 [some (.ref 63), some (.int jd), some (.int b), some (.int mny), some (.int sd), some (.int wh), some (.int (al)), some (.int (nI 5)), none, none, none] [] (Wd g) 0 0) → J mX12_season (rm 6 0 0) (Q) n0 118 [some (.ref 63), some (.int jd), some (.int b), some (.int mny), some (.int sd), some (.int wh), some (.int (al)), some (.int (nI i)), none, none, none] [] (Wd g) 0 0 := by
  intro k
  induction k with
  | zero =>
    intro i g hk hfr hI hK
    refine J_iload (nx := 120) dX12_season_118 rfl rfl ?_
    refine J_iconst (nx := 121) (i := 5) (v := 5) (by decide) dX12_season_120 rfl ?_
    refine J_icmp_ge (nx := 124) (tgt := 138) dX12_season_121 rfl (by decide) (fun c_121 => ?_) (fun c_121 => ?_)
    · obtain rfl : i = 5 := by omega
      exact hK g hfr hI
    · exact absurd (show nI 5 ≤ nI i from by rw [show i = 5 by omega]; exact le_self_nI) c_121
  | succ k ih =>
    intro i g hk hfr hI hK
    refine J_iload (nx := 120) dX12_season_118 rfl rfl ?_
    refine J_iconst (nx := 121) (i := 5) (v := 5) (by decide) dX12_season_120 rfl ?_
    refine J_icmp_ge (nx := 124) (tgt := 138) dX12_season_121 rfl (by decide) (fun c_121 => ?_) (fun c_121 => ?_)
    · exact absurd c_121 (nlt_nI (n := 5) (by omega) (by omega))
    · have hi : i < 5 := by omega
      refine J_aload_n (nx := 125) dX12_season_124 rfl rfl ?_
      refine Jg_63_35 (nx := 128) dX12_season_125 rfl fl_X12_70 ?_
      refine J_iload (nx := 130) dX12_season_128 rfl rfl ?_
      refine J_iconst (nx := 131) (i := 0) (v := 0) (by decide) dX12_season_130 rfl ?_
      refine Jt_81 (nx := 132) dX12_season_131 rfl (vpE (n := i) (Eq.refl (nI (i))) (by omega) (by decide)) ?_
      rw [clE (n := i) (Eq.refl (nI (i))) (by omega)]
      refine J.gen (fun g_131 hg_131 => ?_)
      refine J_iinc (nx := 135) dX12_season_132 rfl rfl rfl (Nat.le_of_ble_eq_true rfl) ?_
      refine J_goto (nx := 118) dX12_season_135 (by decide) ?_
      rw [show (nI (i) + Int32.ofInt 1) = nI (i + 1) from (show nI (i) + Int32.ofInt 1 = nI (i + 1) from nI_add (i) 1)]
      refine ih (i + 1) g_131 (by omega) (by rw [hg_131]; exact hfr.sA rfl) (fun x hx => ?_) hK
      rw [hg_131]
      show upd (gA g 81) i 0 x = 0
      by_cases e : x = i
      · rw [e]; exact if_pos rfl
      · exact (if_neg e).trans (hI x (by omega))

set_option maxRecDepth 100000 in
set_option maxHeartbeats 4000000 in
theorem lp_m_sn3 (n0 : Nat) (Q : Res → List ME → Prop) (g : GS) (W : Nat → Int32) (hW : gA g 64 = W) (hRT : RTK W) (hN6 : mN W ≤ 6) (L0 n : Nat) (hL0 : L0 < rtS W (32 * mN W)) (hL1 : L0 ≤ 32767) (jd b mny sd wh al : Int32) : ∀ (k a l r : Nat), a + k = 32 * mN W → l ≤ L0 → l + rtS W a = L0 → r = rtF W k a l → (∀ l, r < 32 * mN W → J mX12_season (rm 6 0 0) Q n0 221 [some (.ref 63), some (.int jd), some (.int b), some (.int mny), some (.int sd), some (.int wh), some (.int (al)), some (.int (nI n)), some (.int (nI l)), some (.int (nI r)), none] [] (Wd g) 0 0) → J mX12_season (rm 6 0 0) Q n0 165 [some (.ref 63), some (.int jd), some (.int b), some (.int mny), some (.int sd), some (.int wh), some (.int (al)), some (.int (nI n)), some (.int (nI l)), some (.int (nI a)), none] [] (Wd g) 0 0 := by
  intro k
  induction k with
  | zero =>
    intro a l r hk hl hs hr hK
    rw [show a = 32 * mN W by omega] at hs
    exact absurd hL0 (by omega)
  | succ k ih =>
    intro a l r hk hl hs hr hK
    have hra := hRT.n (show a < 32 * mN W by omega)
    refine J_iload (nx := 167) dX12_season_165 rfl rfl ?_
    refine J_aload_n (nx := 168) dX12_season_167 rfl rfl ?_
    refine Jg_63_1 (nx := 171) dX12_season_168 rfl fl_X12_13 ?_
    refine J_iload (nx := 173) dX12_season_171 rfl rfl ?_
    refine J_bipush (nx := 175) (i := 32) (v := 32) (by decide) dX12_season_173 rfl ?_
    refine J_idiv (nx := 176) (by decide) dX12_season_175 rfl ?_
    refine J_iconst (nx := 177) (i := 2) (v := 2) (by decide) dX12_season_176 rfl ?_
    refine J_iload (nx := 179) dX12_season_177 rfl rfl ?_
    refine J_bipush (nx := 181) (i := 32) (v := 32) (by decide) dX12_season_179 rfl ?_
    refine J_irem (nx := 182) (by decide) dX12_season_181 rfl ?_
    rw [show (nI (a) - nI (a) / (32 : Int32) * (32 : Int32)) = nI ((a % 32)) from (nIr (by omega) (by omega) (Eq.refl (nI (a))) (nIc 32))]
    refine J_iadd (nx := 183) dX12_season_182 rfl ?_
    rw [show (nI (a) / (32 : Int32)) = nI ((a / 32)) from (nId (by omega) (by omega) (Eq.refl (nI (a))) (nIc 32))]
    rw [show ((2 : Int32) + nI ((a % 32))) = nI ((2 + (a % 32))) from (nIa (nIc 2) (Eq.refl (nI ((a % 32)))))]
    refine JcS2 (R' := rm (0) 0 0) (nx := 186) dX12_season_183 rfl ml_X12_sortAt lk_X12_282 st_X12_sortAt ⟨(Nat.le_of_ble_eq_true rfl), (Nat.le_of_ble_eq_true rfl)⟩ (Nat.le_of_ble_eq_true rfl) ⟨rfl, rfl⟩ (ct_m_sortAt _ ((a / 32)) ((2 + (a % 32)))) ?_
    refine Ja_64 (nx := 187) dX12_season_186 rfl (vpE (n := (1106 + 34 * (a / 32) + (2 + (a % 32)))) (Eq.refl (nI ((1106 + 34 * (a / 32) + (2 + (a % 32)))))) (by omega) (by decide)) ?_
    rw [clE (n := (1106 + 34 * (a / 32) + (2 + (a % 32)))) (Eq.refl (nI ((1106 + 34 * (a / 32) + (2 + (a % 32)))))) (by omega)]
    rw [show gA g 64 (1106 + 34 * (a / 32) + (2 + a % 32)) = nI (rtN W a) from (congrFun hW _).trans hra.2]
    refine J_icmp_lt (nx := 190) (tgt := 221) dX12_season_187 rfl (by decide) (fun c_187 => ?_) (fun c_187 => ?_)
    · have hr2 : r = a := by
        rw [hr]
        show (if l < rtN W a then a else rtF W k (a + 1) (l - rtN W a)) = a
        exact if_pos (nI_ltd (by omega) (by omega) c_187)
      rw [← hr2]
      exact hK l (by omega)
    · have hle : rtN W a ≤ l := by
        rcases Nat.lt_or_ge l (rtN W a) with h | h
        · exact absurd (show nI l < nI (rtN W a) from nI_lt h (by omega)) c_187
        · exact h
      refine J_iload (nx := 192) dX12_season_190 rfl rfl ?_
      refine J_aload_n (nx := 193) dX12_season_192 rfl rfl ?_
      refine Jg_63_1 (nx := 196) dX12_season_193 rfl fl_X12_13 ?_
      refine J_iload (nx := 198) dX12_season_196 rfl rfl ?_
      refine J_bipush (nx := 200) (i := 32) (v := 32) (by decide) dX12_season_198 rfl ?_
      refine J_idiv (nx := 201) (by decide) dX12_season_200 rfl ?_
      refine J_iconst (nx := 202) (i := 2) (v := 2) (by decide) dX12_season_201 rfl ?_
      refine J_iload (nx := 204) dX12_season_202 rfl rfl ?_
      refine J_bipush (nx := 206) (i := 32) (v := 32) (by decide) dX12_season_204 rfl ?_
      refine J_irem (nx := 207) (by decide) dX12_season_206 rfl ?_
      rw [show (nI (a) - nI (a) / (32 : Int32) * (32 : Int32)) = nI ((a % 32)) from (nIr (by omega) (by omega) (Eq.refl (nI (a))) (nIc 32))]
      refine J_iadd (nx := 208) dX12_season_207 rfl ?_
      rw [show (nI (a) / (32 : Int32)) = nI ((a / 32)) from (nId (by omega) (by omega) (Eq.refl (nI (a))) (nIc 32))]
      rw [show ((2 : Int32) + nI ((a % 32))) = nI ((2 + (a % 32))) from (nIa (nIc 2) (Eq.refl (nI ((a % 32)))))]
      refine JcS2 (R' := rm (0) 0 0) (nx := 211) dX12_season_208 rfl ml_X12_sortAt lk_X12_282 st_X12_sortAt ⟨(Nat.le_of_ble_eq_true rfl), (Nat.le_of_ble_eq_true rfl)⟩ (Nat.le_of_ble_eq_true rfl) ⟨rfl, rfl⟩ (ct_m_sortAt _ ((a / 32)) ((2 + (a % 32)))) ?_
      refine Ja_64 (nx := 212) dX12_season_211 rfl (vpE (n := (1106 + 34 * (a / 32) + (2 + (a % 32)))) (Eq.refl (nI ((1106 + 34 * (a / 32) + (2 + (a % 32)))))) (by omega) (by decide)) ?_
      rw [clE (n := (1106 + 34 * (a / 32) + (2 + (a % 32)))) (Eq.refl (nI ((1106 + 34 * (a / 32) + (2 + (a % 32)))))) (by omega)]
      rw [show gA g 64 (1106 + 34 * (a / 32) + (2 + a % 32)) = nI (rtN W a) from (congrFun hW _).trans hra.2]
      refine J_isub (nx := 213) dX12_season_212 rfl ?_
      rw [show (nI (l) - nI ((rtN W a))) = nI ((l - (rtN W a))) from (nIs (by omega) (Eq.refl (nI (l))) (Eq.refl (nI ((rtN W a)))))]
      refine J_istore (nx := 215) dX12_season_213 rfl rfl (Nat.le_of_ble_eq_true rfl) ?_
      refine J_iinc (nx := 218) dX12_season_215 rfl rfl rfl (Nat.le_of_ble_eq_true rfl) ?_
      refine J_goto (nx := 165) dX12_season_218 (by decide) ?_
      rw [show (nI (a) + Int32.ofInt 1) = nI (a + 1) from (show nI (a) + Int32.ofInt 1 = nI (a + 1) from nI_add (a) 1)]
      refine ih (a + 1) (l - rtN W a) r (by omega) (by omega) ?_ ?_ hK
      · show l - rtN W a + (rtS W a + rtN W a) = L0
        omega
      · rw [hr]
        show (if l < rtN W a then a else rtF W k (a + 1) (l - rtN W a)) = _
        exact if_neg (by omega)

def fS (c k : Nat) : Bool := Nat.beq c 63 && ((Nat.ble 20 k && Nat.ble k 25) || Nat.beq k 31)
theorem fS_A (c k : Nat) (h : fS c k = false) : fA c k = false := by
  unfold fS at h; unfold fA; revert h
  cases Nat.beq c 63 <;> cases Nat.beq k 31 <;> simp
theorem fS_31 (c k : Nat) (h : fS c k = false) : f31 c k = false := by
  unfold fS at h; unfold f31; revert h
  cases Nat.beq c 63 <;> cases Nat.beq k 31 <;> simp
theorem fQ_S (c k : Nat) (h : fQ c k = false) : fS c k = false := by
  unfold fQ at h; unfold fS; revert h
  cases Nat.beq c 63 <;> cases Nat.beq k 0 <;> cases Nat.beq k 31 <;> simp
theorem QF.ofS {g g2 : GS} (h : Fr fS aQ (sF g 63 0 0) g2) : QF g g2 := ⟨(Fr.sF (Fr.rf (f := fQ) (a := aQ)) rfl).tr (h.mono fQ_S (fun _ h => h)), h.1 63 0 rfl⟩
theorem camG_congr {c c' : Nat → Int32} {u : Nat} (hu : u < 400) (h : ∀ i, i < 5 → c i = c' i) : ∀ i, i < 5 → camG c u i = camG c' u i := by
  have h1 : ∀ i, i < 5 → camU c u i = camU c' u i := fun i hi => by
    show upd c (u / 100) (c (u / 100) + 1) i = upd c' (u / 100) (c' (u / 100) + 1) i
    by_cases e : i = u / 100
    · rw [e]; exact (if_pos rfl).trans ((congrArg (· + 1) (h (u / 100) (by omega))).trans (if_pos rfl).symm)
    · exact (if_neg e).trans ((h i hi).trans (if_neg e).symm)
  intro i hi
  show upd (camU c u) 4 (camU c u 4 + nI (u % 100)) i = upd (camU c' u) 4 (camU c' u 4 + nI (u % 100)) i
  by_cases e : i = 4
  · rw [e]; exact (if_pos rfl).trans ((congrArg (· + nI (u % 100)) (h1 4 (by omega))).trans (if_pos rfl).symm)
  · exact (if_neg e).trans ((h1 i hi).trans (if_neg e).symm)
theorem aQ_81 (c : Nat) (h : aQ c = false) : a81 c = false := by
  cases e : a81 c with
  | false => rfl
  | true => unfold a81 at e; rw [Nat.beq_eq] at e; subst e; exact absurd h (by decide)
set_option maxRecDepth 100000 in
set_option maxHeartbeats 4000000 in
theorem lp_m_sn2 (g0 : GS) (W : Nat → Int32) (gl : List TxL) (rl : Nat → List TxL) (hW0 : gA g0 64 = W) (hM : MOK W gl rl) (hkd : KOK W rl) (hRT : RTK W) (jd b sd : Int32) (hjd : jdOK W jd) (qm qw : Nat) (hqm : qm ≤ 200) (hqw : qw < 5) (hA1 : 1 ≤ rtS W (32 * mN W)) (hA2 : rtS W (32 * mN W) ≤ 191808) (n0 : Nat) : ∀ (k : Nat) (n : Nat) (g : GS), n + k = qm → Fr fS aQ g0 g → (∀ i, i < 5 → gA g 81 i = (msnN W gl rl jd b sd n).1 i) → gF g 63 31 = (msnN W gl rl jd b sd n).2 → J mX12_season (rm 6 0 0) (RXi (fun x g2 => x = (msnN W gl rl jd b sd qm).1 qw ∧ Fr fS aQ g0 g2)) n0 147 [some (.ref 63), some (.int jd), some (.int b), some (.int (nI qm)), some (.int sd), some (.int (nI qw)), some (.int (nI (rtS W (32 * mN W)))), some (.int (nI n)), none, none, none] [] (Wd g) 0 0 := by
  intro k
  induction k with
  | zero =>
    intro n g hk hfr hc hx
    have hM2 := hM
    obtain ⟨⟨hG10, hG⟩, ⟨hT1, hT60, hT⟩, ⟨hR4, hR, hrl⟩, ⟨hN6, hN⟩, hgl, hgk⟩ := hM2
    refine J_iload (nx := 149) dX12_season_147 rfl rfl ?_
    refine J_iload_n (nx := 150) dX12_season_149 rfl rfl ?_
    refine J_icmp_ge (nx := 153) (tgt := 284) dX12_season_150 rfl (by decide) (fun c_150 => ?_) (fun c_150 => ?_)
    · refine J_aload_n (nx := 285) dX12_season_284 rfl rfl ?_
      refine Jg_63_35 (nx := 288) dX12_season_285 rfl fl_X12_70 ?_
      refine J_iload (nx := 290) dX12_season_288 rfl rfl ?_
      refine Ja_81 (nx := 291) dX12_season_290 rfl (vpE (n := qw) (Eq.refl (nI (qw))) (by omega) (by decide)) ?_
      rw [clE (n := qw) (Eq.refl (nI (qw))) (by omega)]
      exact Jri dX12_season_291 rfl (Nat.zero_le _) (Nat.zero_le _) (RXi.of ⟨by rw [hc qw hqw, show n = qm by omega], hfr⟩)
    · exact absurd (show nI qm ≤ nI n from by rw [show n = qm by omega]; exact le_self_nI) c_150
  | succ k ih =>
    intro n g hk hfr hc hx
    have hM2 := hM
    obtain ⟨⟨hG10, hG⟩, ⟨hT1, hT60, hT⟩, ⟨hR4, hR, hrl⟩, ⟨hN6, hN⟩, hgl, hgk⟩ := hM2
    refine J_iload (nx := 149) dX12_season_147 rfl rfl ?_
    refine J_iload_n (nx := 150) dX12_season_149 rfl rfl ?_
    refine J_icmp_ge (nx := 153) (tgt := 284) dX12_season_150 rfl (by decide) (fun c_150 => ?_) (fun c_150 => ?_)
    · exact absurd c_150 (nlt_nI (n := qm) (by omega) (by omega))
    · refine J_aload_n (nx := 154) dX12_season_153 rfl rfl ?_
      refine JcV0 (R' := rm (0) 0 0) (nx := 157) dX12_season_154 rfl ml_X12_draw lk_X12_381 iv_X12_draw rfl rfl ⟨(Nat.le_of_ble_eq_true rfl), (Nat.le_of_ble_eq_true rfl)⟩ (Nat.le_of_ble_eq_true rfl) ⟨rfl, rfl⟩ (ct_m_draw _) ?_
      refine J.gen (fun g_154 hg_154 => ?_)
      obtain ⟨u, hu, hud⟩ := drV_nat (gF g 63 31)
      rw [hud]
      refine J_iload (nx := 159) dX12_season_157 rfl rfl ?_
      refine J_irem (nx := 160) (fun z => absurd (nI_inj (a := rtS W (32 * mN W)) (b := 0) (by omega) (by omega) z) (by omega)) dX12_season_159 rfl ?_
      rw [show (nI (u) - nI (u) / nI ((rtS W (32 * mN W))) * nI ((rtS W (32 * mN W)))) = nI ((u % (rtS W (32 * mN W)))) from (nIr (by omega) (by omega) (Eq.refl (nI (u))) (Eq.refl (nI ((rtS W (32 * mN W))))))]
      refine J_istore (nx := 162) dX12_season_160 rfl rfl (Nat.le_of_ble_eq_true rfl) ?_
      refine J_iconst (nx := 163) (i := 0) (v := 0) (by decide) dX12_season_162 rfl ?_
      refine J_istore (nx := 165) dX12_season_163 rfl rfl (Nat.le_of_ble_eq_true rfl) ?_
      have hW1 : gA g_154 64 = W := by rw [hg_154]; exact (hfr.2.1 64 rfl).trans hW0
      have hmod : u % rtS W (32 * mN W) < rtS W (32 * mN W) := Nat.mod_lt _ (by omega)
      have hmle : u % rtS W (32 * mN W) ≤ u := Nat.mod_le _ _
      refine lp_m_sn3 n0 _ g_154 W hW1 hRT hN6 (u % rtS W (32 * mN W)) n hmod (by omega) jd b (nI qm) sd (nI qw) (nI (rtS W (32 * mN W))) (32 * mN W) 0 (u % rtS W (32 * mN W)) (msnP W (gF g 63 31)) (by omega) (Nat.le_refl _) (Nat.add_zero _) (by unfold msnP; rw [hud, nN_nI (by omega)]) (fun l hr => ?_)
      obtain ⟨P, hP⟩ : ∃ P, P = msnP W (gF g 63 31) := ⟨_, rfl⟩
      rw [← hP] at hr ⊢
      refine J_aload_n (nx := 222) dX12_season_221 rfl rfl ?_
      refine J_iload_n (nx := 223) dX12_season_222 rfl rfl ?_
      refine J_iload_n (nx := 224) dX12_season_223 rfl rfl ?_
      refine J_iload (nx := 226) dX12_season_224 rfl rfl ?_
      refine J_bipush (nx := 228) (i := 32) (v := 32) (by decide) dX12_season_226 rfl ?_
      refine J_idiv (nx := 229) (by decide) dX12_season_228 rfl ?_
      rw [show (nI (P) / (32 : Int32)) = nI ((P / 32)) from (nId (by omega) (by omega) (Eq.refl (nI (P))) (nIc 32))]
      refine J_iload (nx := 231) dX12_season_229 rfl rfl ?_
      refine J_bipush (nx := 233) (i := 32) (v := 32) (by decide) dX12_season_231 rfl ?_
      refine J_irem (nx := 234) (by decide) dX12_season_233 rfl ?_
      rw [show (nI (P) - nI (P) / (32 : Int32) * (32 : Int32)) = nI ((P % 32)) from (nIr (by omega) (by omega) (Eq.refl (nI (P))) (nIc 32))]
      refine J_iconst (nx := 235) (i := 4) (v := 4) (by decide) dX12_season_234 rfl ?_
      refine J_idiv (nx := 236) (by decide) dX12_season_235 rfl ?_
      rw [show (nI ((P % 32)) / (4 : Int32)) = nI (((P % 32) / 4)) from (nId (by omega) (by omega) (Eq.refl (nI ((P % 32)))) (nIc 4))]
      refine JvV4 (R' := rm (5) 0 0) (nx := 239) dX12_season_236 rfl ml_X12_asks lk_X12_347 iv_X12_asks rfl rfl ⟨(Nat.le_of_ble_eq_true rfl), (Nat.le_of_ble_eq_true rfl)⟩ (Nat.le_of_ble_eq_true rfl) ⟨rfl, rfl⟩ (ct_m_asks2 g_154 W gl rl hW1 hM jd b (P / 32) (P % 32 / 4) (by omega) (by omega) hjd) (fun g_236 p_236 => ?_)
      refine J_aload_n (nx := 240) dX12_season_239 rfl rfl ?_
      refine J_iload (nx := 242) dX12_season_240 rfl rfl ?_
      refine J_bipush (nx := 244) (i := 32) (v := 32) (by decide) dX12_season_242 rfl ?_
      refine J_irem (nx := 245) (by decide) dX12_season_244 rfl ?_
      rw [show (nI (P) - nI (P) / (32 : Int32) * (32 : Int32)) = nI ((P % 32)) from (nIr (by omega) (by omega) (Eq.refl (nI (P))) (nIc 32))]
      refine JiV1 (R' := rm (2) 0 0) (nx := 248) dX12_season_245 rfl ml_X12_plays lk_X12_387 iv_X12_plays rfl rfl ⟨(Nat.le_of_ble_eq_true rfl), (Nat.le_of_ble_eq_true rfl)⟩ (Nat.le_of_ble_eq_true rfl) ⟨rfl, rfl⟩ (ct_m_plays g_236 W p_236.2.1.1 (mT W) (mG W) hT hT60 hG10 (ja (mJP W gl rl (W 6) (P / 32) (P % 32 / 4) (wTo W (P / 32)) jd b (mG W))) (fun j s hj hs => p_236.2.a hj hs) (jA_end hM hjd hkd) (P % 32) (by omega)) (fun x_245 g_245 p_245 => ?_)
      have hs1 : gF g_236 63 31 = mrS (gF g 63 31) := (p_236.1.1 63 31 rfl).trans (by rw [hg_154]; rfl)
      have hR : msnR W gl rl jd b (gF g 63 31) = mpF W (ja (mJP W gl rl (W 6) (P / 32) (P % 32 / 4) (wTo W (P / 32)) jd b (mG W))) (mT W) 0 (P % 32) false (gF g_236 63 31) := by
        unfold msnR; rw [← hP, hs1]
      obtain ⟨v, hv, hxv⟩ := mpF_nat (W := W) (ac := ja (mJP W gl rl (W 6) (P / 32) (P % 32 / 4) (wTo W (P / 32)) jd b (mG W))) (mT W) 0 (P % 32) false (gF g_236 63 31) (by omega)
      rw [p_245.1, hxv]
      refine J_istore (nx := 250) dX12_season_248 rfl rfl (Nat.le_of_ble_eq_true rfl) ?_
      refine J_aload_n (nx := 251) dX12_season_250 rfl rfl ?_
      refine Jg_63_35 (nx := 254) dX12_season_251 rfl fl_X12_70 ?_
      refine J_iload (nx := 256) dX12_season_254 rfl rfl ?_
      refine J_bipush (nx := 258) (i := 100) (v := 100) (by decide) dX12_season_256 rfl ?_
      refine J_idiv (nx := 259) (by decide) dX12_season_258 rfl ?_
      rw [show (nI (v) / (100 : Int32)) = nI ((v / 100)) from (nId (by omega) (by omega) (Eq.refl (nI (v))) (nIc 100))]
      refine J_dup2 (nx := 260) rfl rfl dX12_season_259 rfl ?_
      refine Ja_81 (nx := 261) dX12_season_260 rfl (vpE (n := (v / 100)) (Eq.refl (nI ((v / 100)))) (by omega) (by decide)) ?_
      rw [clE (n := (v / 100)) (Eq.refl (nI ((v / 100)))) (by omega)]
      refine J_iconst (nx := 262) (i := 1) (v := 1) (by decide) dX12_season_261 rfl ?_
      refine J_iadd (nx := 263) dX12_season_262 rfl ?_
      refine Jt_81 (nx := 264) dX12_season_263 rfl (vpE (n := (v / 100)) (Eq.refl (nI ((v / 100)))) (by omega) (by decide)) ?_
      rw [clE (n := (v / 100)) (Eq.refl (nI ((v / 100)))) (by omega)]
      refine J.gen (fun g_263 hg_263 => ?_)
      refine J_aload_n (nx := 265) dX12_season_264 rfl rfl ?_
      refine Jg_63_35 (nx := 268) dX12_season_265 rfl fl_X12_70 ?_
      refine J_iconst (nx := 269) (i := 4) (v := 4) (by decide) dX12_season_268 rfl ?_
      refine J_dup2 (nx := 270) rfl rfl dX12_season_269 rfl ?_
      refine Ja_81 (nx := 271) dX12_season_270 rfl (vpE (n := 4) (nIc 4) (by omega) (by decide)) ?_
      rw [clE (n := 4) (nIc 4) (by omega)]
      refine J_iload (nx := 273) dX12_season_271 rfl rfl ?_
      refine J_bipush (nx := 275) (i := 100) (v := 100) (by decide) dX12_season_273 rfl ?_
      refine J_irem (nx := 276) (by decide) dX12_season_275 rfl ?_
      rw [show (nI (v) - nI (v) / (100 : Int32) * (100 : Int32)) = nI ((v % 100)) from (nIr (by omega) (by omega) (Eq.refl (nI (v))) (nIc 100))]
      refine J_iadd (nx := 277) dX12_season_276 rfl ?_
      refine Jt_81 (nx := 278) dX12_season_277 rfl (vpE (n := 4) (nIc 4) (by omega) (by decide)) ?_
      rw [clE (n := 4) (nIc 4) (by omega)]
      refine J.gen (fun g_277 hg_277 => ?_)
      refine J_iinc (nx := 281) dX12_season_278 rfl rfl rfl (Nat.le_of_ble_eq_true rfl) ?_
      refine J_goto (nx := 147) dX12_season_281 (by decide) ?_
      refine J_kill (nx := 0) 8 ?_
      refine J_kill (nx := 0) 9 ?_
      refine J_kill (nx := 0) 10 ?_
      rw [show (nI (n) + Int32.ofInt 1) = nI (n + 1) from (show nI (n) + Int32.ofInt 1 = nI (n + 1) from nI_add (n) 1)]
      have hc245 : gA g_245 81 = gA g 81 := (p_245.2.1.2.1 81 rfl).trans ((p_236.1.2.1 81 rfl).trans (by rw [hg_154]; rfl))
      have hcm : gA g_277 81 = camG (gA g 81) v := by rw [hg_277, hg_263, ← hc245]; rfl
      have hvn : nN (msnN W gl rl jd b sd (n + 1)).2 = nN (msnN W gl rl jd b sd (n + 1)).2 := rfl
      have hv2 : nN (msnR W gl rl jd b (msnN W gl rl jd b sd n).2).1 = v := by rw [← hx, hR, hxv]; exact nN_nI (by omega)
      refine ih (n + 1) g_277 (by omega) ?_ (fun i hi => ?_) ?_
      · rw [hg_277, hg_263]
        have f1 : Fr fS aQ g0 g_154 := by rw [hg_154]; exact Fr.sF hfr rfl
        exact ((((f1.tr (p_236.1.mono fS_A aQ_74)).tr (p_245.2.1.mono fS_31 (fun _ _ => rfl)))).sA rfl).sA rfl
      · rw [hcm]
        show _ = camG (msnN W gl rl jd b sd n).1 (nN (msnR W gl rl jd b (msnN W gl rl jd b sd n).2).1) i
        rw [hv2]
        exact camG_congr hv hc i hi
      · show _ = (msnR W gl rl jd b (msnN W gl rl jd b sd n).2).2
        rw [← hx, hR, hg_277, hg_263]
        exact p_245.2.2

set_option maxRecDepth 100000 in
set_option maxHeartbeats 4000000 in
theorem ct_m_season (g : GS) (gl : List TxL) (rl : Nat → List TxL) (hM : MOK (gA g 64) gl rl) (hkd : KOK (gA g 64) rl) (hRT : RTK (gA g 64)) (jd : Int32) (b : Int32) (many : Int32) (seed : Int32) (what : Int32) : Ct mX12_season (rm 6 0 0) [.ref 63, .int jd, .int b, .int many, .int seed, .int what] (Wd g) (PQi g [(wMj (gA g 64) jd, 1), (fMb jd b && fIn many 1 200 && (!(decide (sI (wRs (gA g 64)) (mN (gA g 64)) = 0))), 2), (fIn what 0 4, 3)] (fun x g2 => x = (msnN (gA g 64) gl rl jd b seed (nN many)).1 (nN what) ∧ QF g g2)) := by
  have hM2 := hM
  obtain ⟨⟨hG10, hG⟩, ⟨hT1, hT60, hT⟩, ⟨hR4, hR, hrl⟩, ⟨hN6, hN⟩, hgl, hgk⟩ := hM2
  refine Ct.of (by decide +kernel) (Nat.le_of_ble_eq_true rfl) ?_
  show J _ _ _ _ 0 [some (.ref 63), some (.int jd), some (.int b), some (.int many), some (.int seed), some (.int what), none, none, none, none, none] [] _ 0 0
  refine J_aload_n (nx := 1) dX12_season_0 rfl rfl ?_
  refine J_iconst (nx := 2) (i := 0) (v := 0) (by decide) dX12_season_1 rfl ?_
  refine Jp_63_0 (nx := 5) dX12_season_2 rfl fl_X12_3 ?_
  refine J_iconst (nx := 6) (i := 0) (v := 0) (by decide) dX12_season_5 rfl ?_
  refine J_istore (nx := 8) dX12_season_6 rfl rfl (Nat.le_of_ble_eq_true rfl) ?_
  refine J_iconst (nx := 9) (i := 0) (v := 0) (by decide) dX12_season_8 rfl ?_
  refine J_istore (nx := 11) dX12_season_9 rfl rfl (Nat.le_of_ble_eq_true rfl) ?_
  refine lp_m_sn0 _ (sF g 63 0 0) jd b many seed what (mN (gA g 64)) hN hN6 _ (mN (gA g 64)) 0 (by omega) ?_
  rw [show wRs (gA (sF g 63 0 0) 64) = wRs (gA g 64) from rfl]
  refine J_aload_n (nx := 40) dX12_season_39 rfl rfl ?_
  refine J_aload_n (nx := 41) dX12_season_40 rfl rfl ?_
  refine J_iload_n (nx := 42) dX12_season_41 rfl rfl ?_
  refine JcV1 (R' := rm (1) 0 0) (nx := 45) dX12_season_42 rfl ml_X12_noJudge lk_X12_335 iv_X12_noJudge rfl rfl ⟨(Nat.le_of_ble_eq_true rfl), (Nat.le_of_ble_eq_true rfl)⟩ (Nat.le_of_ble_eq_true rfl) ⟨rfl, rfl⟩ (ct_m_noJudgeW (sF g 63 0 0) (gA g 64) rfl _) ?_
  refine J_iconst (nx := 46) (i := 1) (v := 1) (by decide) dX12_season_45 rfl ?_
  refine J_thr (nx := 49) dX12_season_46 rfl lk_X12_237 ⟨(Nat.le_of_ble_eq_true rfl), (Nat.le_of_ble_eq_true rfl)⟩ (Nat.le_of_ble_eq_true rfl) (fun b_46 => ?_) (fun b_46 => ?_)
  · refine J_if_ne (nx := 52) (tgt := 113) dX12_season_49 rfl (by decide) (fun c_49 => ?_) (fun c_49 => ?_)
    · refine J_iconst (nx := 114) (i := 0) (v := 0) (by decide) dX12_season_113 rfl ?_
      exact Jri dX12_season_114 rfl (Nat.zero_le _) (Nat.zero_le _) (RXi.of (Or.inl ⟨_, (by simp only [bI_is0, bI_is1, Bool.not_eq_true', Bool.not_eq_false'] at b_46; simp only [mxC, b_46, decide_true, decide_false, Bool.not_true, Bool.not_false, Bool.true_or, Bool.false_or, Bool.and_true, Bool.true_and, Bool.false_and, Bool.and_false, cond_true, cond_false]), rfl, rfl⟩))
    · exact absurd c_49 (by decide)
  · refine J_if_ne (nx := 52) (tgt := 113) dX12_season_49 rfl (by decide) (fun c_49 => ?_) (fun c_49 => ?_)
    · exact absurd c_49 (by decide)
    · refine J_aload_n (nx := 53) dX12_season_52 rfl rfl ?_
      refine J_aload_n (nx := 54) dX12_season_53 rfl rfl ?_
      refine J_iload_n (nx := 55) dX12_season_54 rfl rfl ?_
      refine J_iload_n (nx := 56) dX12_season_55 rfl rfl ?_
      refine JcV2 (R' := rm (1) 0 0) (nx := 59) dX12_season_56 rfl ml_X12_badBar lk_X12_344 iv_X12_badBar rfl rfl ⟨(Nat.le_of_ble_eq_true rfl), (Nat.le_of_ble_eq_true rfl)⟩ (Nat.le_of_ble_eq_true rfl) ⟨rfl, rfl⟩ (ct_m_badBar _ _ _) ?_
      refine J_if_ne (nx := 62) (tgt := 78) dX12_season_59 rfl (by decide) (fun c_59 => ?_) (fun c_59 => ?_)
      · refine J_iconst (nx := 79) (i := 1) (v := 1) (by decide) dX12_season_78 rfl ?_
        refine J_goto (nx := 83) dX12_season_79 (by decide) ?_
        refine J_iconst (nx := 84) (i := 2) (v := 2) (by decide) dX12_season_83 rfl ?_
        refine J_thr (b := true) (nx := 87) dX12_season_84 rfl lk_X12_237 ⟨(Nat.le_of_ble_eq_true rfl), (Nat.le_of_ble_eq_true rfl)⟩ (Nat.le_of_ble_eq_true rfl) (fun b_84 => ?_) (fun b_84 => ?_)
        · refine J_if_ne (nx := 90) (tgt := 113) dX12_season_87 rfl (by decide) (fun c_87 => ?_) (fun c_87 => ?_)
          · refine J_iconst (nx := 114) (i := 0) (v := 0) (by decide) dX12_season_113 rfl ?_
            exact Jri dX12_season_114 rfl (Nat.zero_le _) (Nat.zero_le _) (RXi.of (Or.inl ⟨_, (by simp only [bI_is0, bI_is1, Bool.not_eq_true', Bool.not_eq_false'] at b_46 c_59; simp only [mxC, b_46, c_59, decide_true, decide_false, Bool.not_true, Bool.not_false, Bool.true_or, Bool.false_or, Bool.and_true, Bool.true_and, Bool.false_and, Bool.and_false, cond_true, cond_false]), rfl, rfl⟩))
          · exact absurd c_87 (by decide)
        · exact absurd b_84 (by decide)
      · refine J_iload_n (nx := 63) dX12_season_62 rfl rfl ?_
        refine J_iconst (nx := 64) (i := 1) (v := 1) (by decide) dX12_season_63 rfl ?_
        refine J_sipush (nx := 67) (i := 200) (v := 200) (by decide) dX12_season_64 rfl ?_
        refine JcS3 (R' := rm (0) 0 0) (nx := 70) dX12_season_67 rfl ml_X12_in lk_X12_77 st_X12_in ⟨(Nat.le_of_ble_eq_true rfl), (Nat.le_of_ble_eq_true rfl)⟩ (Nat.le_of_ble_eq_true rfl) ⟨rfl, rfl⟩ (ct_m_in _ _ _ _) ?_
        refine J_if_eq (nx := 73) (tgt := 78) dX12_season_70 rfl (by decide) (fun c_70 => ?_) (fun c_70 => ?_)
        · refine J_iconst (nx := 79) (i := 1) (v := 1) (by decide) dX12_season_78 rfl ?_
          refine J_goto (nx := 83) dX12_season_79 (by decide) ?_
          refine J_iconst (nx := 84) (i := 2) (v := 2) (by decide) dX12_season_83 rfl ?_
          refine J_thr (b := true) (nx := 87) dX12_season_84 rfl lk_X12_237 ⟨(Nat.le_of_ble_eq_true rfl), (Nat.le_of_ble_eq_true rfl)⟩ (Nat.le_of_ble_eq_true rfl) (fun b_84 => ?_) (fun b_84 => ?_)
          · refine J_if_ne (nx := 90) (tgt := 113) dX12_season_87 rfl (by decide) (fun c_87 => ?_) (fun c_87 => ?_)
            · refine J_iconst (nx := 114) (i := 0) (v := 0) (by decide) dX12_season_113 rfl ?_
              exact Jri dX12_season_114 rfl (Nat.zero_le _) (Nat.zero_le _) (RXi.of (Or.inl ⟨_, (by simp only [bI_is0, bI_is1, Bool.not_eq_true', Bool.not_eq_false'] at b_46 c_59 c_70; simp only [mxC, b_46, c_59, c_70, decide_true, decide_false, Bool.not_true, Bool.not_false, Bool.true_or, Bool.false_or, Bool.and_true, Bool.true_and, Bool.false_and, Bool.and_false, cond_true, cond_false]), rfl, rfl⟩))
            · exact absurd c_87 (by decide)
          · exact absurd b_84 (by decide)
        · refine J_iload (nx := 75) dX12_season_73 rfl rfl ?_
          refine J_if_ne (nx := 78) (tgt := 82) dX12_season_75 rfl (by decide) (fun c_75 => ?_) (fun c_75 => ?_)
          · refine J_iconst (nx := 83) (i := 0) (v := 0) (by decide) dX12_season_82 rfl ?_
            refine J_iconst (nx := 84) (i := 2) (v := 2) (by decide) dX12_season_83 rfl ?_
            refine J_thr (b := false) (nx := 87) dX12_season_84 rfl lk_X12_237 ⟨(Nat.le_of_ble_eq_true rfl), (Nat.le_of_ble_eq_true rfl)⟩ (Nat.le_of_ble_eq_true rfl) (fun b_84 => ?_) (fun b_84 => ?_)
            · exact absurd b_84 (by decide)
            · refine J_if_ne (nx := 90) (tgt := 113) dX12_season_87 rfl (by decide) (fun c_87 => ?_) (fun c_87 => ?_)
              · exact absurd c_87 (by decide)
              · refine J_aload_n (nx := 91) dX12_season_90 rfl rfl ?_
                refine J_iload (nx := 93) dX12_season_91 rfl rfl ?_
                refine J_iconst (nx := 94) (i := 0) (v := 0) (by decide) dX12_season_93 rfl ?_
                refine J_iconst (nx := 95) (i := 4) (v := 4) (by decide) dX12_season_94 rfl ?_
                refine JcS3 (R' := rm (0) 0 0) (nx := 98) dX12_season_95 rfl ml_X12_in lk_X12_77 st_X12_in ⟨(Nat.le_of_ble_eq_true rfl), (Nat.le_of_ble_eq_true rfl)⟩ (Nat.le_of_ble_eq_true rfl) ⟨rfl, rfl⟩ (ct_m_in _ _ _ _) ?_
                refine J_if_ne (nx := 101) (tgt := 105) dX12_season_98 rfl (by decide) (fun c_98 => ?_) (fun c_98 => ?_)
                · refine J_iconst (nx := 106) (i := 0) (v := 0) (by decide) dX12_season_105 rfl ?_
                  refine J_iconst (nx := 107) (i := 3) (v := 3) (by decide) dX12_season_106 rfl ?_
                  refine J_thr (b := false) (nx := 110) dX12_season_107 rfl lk_X12_237 ⟨(Nat.le_of_ble_eq_true rfl), (Nat.le_of_ble_eq_true rfl)⟩ (Nat.le_of_ble_eq_true rfl) (fun b_107 => ?_) (fun b_107 => ?_)
                  · exact absurd b_107 (by decide)
                  · refine J_if_eq (nx := 113) (tgt := 115) dX12_season_110 rfl (by decide) (fun c_110 => ?_) (fun c_110 => ?_)
                    · have HC : mxC [(wMj (gA g 64) jd, 1), (fMb jd b && fIn many 1 200 && (!(decide (sI (wRs (gA g 64)) (mN (gA g 64)) = 0))), 2), (fIn what 0 4, 3)] = none := (by simp only [bI_is0, bI_is1, Bool.not_eq_true', Bool.not_eq_false'] at b_46 c_59 c_70 c_75 c_98; simp only [mxC, b_46, c_59, c_70, c_75, c_98, decide_true, decide_false, Bool.not_true, Bool.not_false, Bool.true_or, Bool.false_or, Bool.and_true, Bool.true_and, Bool.false_and, Bool.and_false, cond_true, cond_false])
                      have HG0 := HC
                      obtain ⟨hk0, HG1⟩ := gd HG0
                      have hk0_0 := hk0
                      have hjjd := wMj_ok hM hk0_0
                      obtain ⟨hk1, HG2⟩ := gd HG1
                      simp only [Bool.and_eq_true] at hk1
                      obtain ⟨⟨hk1_0, hk1_1⟩, hk1_2⟩ := hk1
                      obtain ⟨hk2, HG3⟩ := gd HG2
                      have hk2_0 := hk2
                      obtain ⟨qwhat, hqwhat, rfl⟩ := fIn_nat (n := 4) (by omega) hk2_0
                      try rw [nN_nI (n := qwhat) (by omega)]
                      obtain ⟨qmany, hq1many, hqmany, rfl⟩ := fIn_nat1 (n := 200) (by omega) hk1_1
                      try rw [nN_nI (n := qmany) (by omega)]
                      refine J_iconst (nx := 116) (i := 0) (v := 0) (by decide) dX12_season_115 rfl ?_
                      refine J_istore (nx := 118) dX12_season_116 rfl rfl (Nat.le_of_ble_eq_true rfl) ?_
                      refine lp_m_sn1 _ (sF g 63 0 0) jd b (nI qmany) seed (nI qwhat) _ _ 5 0 (sF g 63 0 0) rfl Fr.rf (fun x h => absurd h (Nat.not_lt_zero _)) (fun ga hfa hca => ?_)
                      refine J_aload_n (nx := 139) dX12_season_138 rfl rfl ?_
                      refine J_iload (nx := 141) dX12_season_139 rfl rfl ?_
                      refine Jp_63_31 (nx := 144) dX12_season_141 rfl fl_X12_378 ?_
                      refine J_iconst (nx := 145) (i := 0) (v := 0) (by decide) dX12_season_144 rfl ?_
                      refine J_istore (nx := 147) dX12_season_145 rfl rfl (Nat.le_of_ble_eq_true rfl) ?_
                      rw [show sI (wRs (gA g 64)) (mN (gA g 64)) = nI (rtS (gA g 64) (32 * mN (gA g 64))) from rt_all hRT _ (Nat.le_refl _)] at HC ⊢
                      have hA2 : rtS (gA g 64) (32 * mN (gA g 64)) ≤ 191808 := by
                        have := rtS_le hRT (32 * mN (gA g 64)) (Nat.le_refl _)
                        omega
                      have hA1 : 1 ≤ rtS (gA g 64) (32 * mN (gA g 64)) := by
                        rcases Nat.eq_zero_or_pos (rtS (gA g 64) (32 * mN (gA g 64))) with e | e
                        · have h3 := hk1_2
                          rw [show sI (wRs (gA g 64)) (mN (gA g 64)) = nI (rtS (gA g 64) (32 * mN (gA g 64))) from rt_all hRT _ (Nat.le_refl _), e] at h3
                          exact absurd h3 (by decide)
                        · exact e
                      refine J.post (lp_m_sn2 (sF ga 63 31 seed) (gA g 64) gl rl (hfa.2.1 64 rfl) hM hkd hRT jd b seed hjjd qmany qwhat (by omega) (by omega) hA1 hA2 _ qmany 0 (sF ga 63 31 seed) (by omega) Fr.rf (fun i hi => hca i hi) rfl) (fun r es h => ?_)
                      obtain ⟨x, g2, hr, he, hx, hf⟩ := h
                      exact ⟨x, g2, hr, he, Or.inr ⟨HC, hx, QF.ofS ((Fr.sF (hfa.mono (fun _ _ _ => rfl) aQ_81) rfl).tr hf)⟩⟩
                    · exact absurd c_110 (by decide)
                · refine J_iconst (nx := 102) (i := 1) (v := 1) (by decide) dX12_season_101 rfl ?_
                  refine J_goto (nx := 106) dX12_season_102 (by decide) ?_
                  refine J_iconst (nx := 107) (i := 3) (v := 3) (by decide) dX12_season_106 rfl ?_
                  refine J_thr (b := true) (nx := 110) dX12_season_107 rfl lk_X12_237 ⟨(Nat.le_of_ble_eq_true rfl), (Nat.le_of_ble_eq_true rfl)⟩ (Nat.le_of_ble_eq_true rfl) (fun b_107 => ?_) (fun b_107 => ?_)
                  · refine J_if_eq (nx := 113) (tgt := 115) dX12_season_110 rfl (by decide) (fun c_110 => ?_) (fun c_110 => ?_)
                    · exact absurd c_110 (by decide)
                    · refine J_iconst (nx := 114) (i := 0) (v := 0) (by decide) dX12_season_113 rfl ?_
                      exact Jri dX12_season_114 rfl (Nat.zero_le _) (Nat.zero_le _) (RXi.of (Or.inl ⟨_, (by simp only [bI_is0, bI_is1, Bool.not_eq_true', Bool.not_eq_false'] at b_46 c_59 c_70 c_75 c_98; simp only [mxC, b_46, c_59, c_70, c_75, c_98, decide_true, decide_false, Bool.not_true, Bool.not_false, Bool.true_or, Bool.false_or, Bool.and_true, Bool.true_and, Bool.false_and, Bool.and_false, cond_true, cond_false]), rfl, rfl⟩))
                  · exact absurd b_107 (by decide)
          · refine J_iconst (nx := 79) (i := 1) (v := 1) (by decide) dX12_season_78 rfl ?_
            refine J_goto (nx := 83) dX12_season_79 (by decide) ?_
            refine J_iconst (nx := 84) (i := 2) (v := 2) (by decide) dX12_season_83 rfl ?_
            refine J_thr (b := true) (nx := 87) dX12_season_84 rfl lk_X12_237 ⟨(Nat.le_of_ble_eq_true rfl), (Nat.le_of_ble_eq_true rfl)⟩ (Nat.le_of_ble_eq_true rfl) (fun b_84 => ?_) (fun b_84 => ?_)
            · refine J_if_ne (nx := 90) (tgt := 113) dX12_season_87 rfl (by decide) (fun c_87 => ?_) (fun c_87 => ?_)
              · refine J_iconst (nx := 114) (i := 0) (v := 0) (by decide) dX12_season_113 rfl ?_
                exact Jri dX12_season_114 rfl (Nat.zero_le _) (Nat.zero_le _) (RXi.of (Or.inl ⟨_, (by simp only [bI_is0, bI_is1, Bool.not_eq_true', Bool.not_eq_false'] at b_46 c_59 c_70 c_75; simp only [mxC, b_46, c_59, c_70, c_75, decide_true, decide_false, Bool.not_true, Bool.not_false, Bool.true_or, Bool.false_or, Bool.and_true, Bool.true_and, Bool.false_and, Bool.and_false, cond_true, cond_false]), rfl, rfl⟩))
              · exact absurd c_87 (by decide)
            · exact absurd b_84 (by decide)

