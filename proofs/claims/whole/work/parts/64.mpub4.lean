
/-! the Model: what is called from outside, the fourth part -/
def rgV (x y : Int64) (s : Nat) : Int32 := if ¬ lg_cmp x y = 0 then 0 else 1 <<< (nI s &&& 31)
set_option maxRecDepth 100000 in
set_option maxHeartbeats 4000000 in
theorem lp_m_right (g : GS) (x1 x2 x3 x4 : Int32) (n0 : Nat) : ∀ (k : Nat) (i : Nat), i + k = 32 → J mX12_right (rm 6 0 0) (RXi (fun x g2 => x = orI (fun s => rgV (gB g 75 s) (gB g 73 s) s) 32 ∧ g2 = g)) n0 74 [some (.ref 63), some (.int x1), some (.int x2), some (.int x3), some (.int x4), some (.int (orI (fun s => rgV (gB g 75 s) (gB g 73 s) s) i)), some (.int (nI (i)))] [] (Wd g) 0 0 := by
  intro k
  induction k with
  | zero =>
    intro i hk
    refine J_iload (nx := 76) dX12_right_74 rfl rfl ?_
    refine J_bipush (nx := 78) (i := 32) (v := 32) (by decide) dX12_right_76 rfl ?_
    refine J_icmp_ge (nx := 81) (tgt := 118) dX12_right_78 rfl (by decide) (fun c_78 => ?_) (fun c_78 => ?_)
    · refine J_iload (nx := 120) dX12_right_118 rfl rfl ?_
      exact Jri dX12_right_120 rfl (Nat.zero_le _) (Nat.zero_le _) (RXi.of ⟨by rw [show i = 32 by omega], rfl⟩)
    · exact absurd (show nI 32 ≤ nI i from by rw [show i = 32 by omega]; exact le_self_nI) c_78
  | succ k ih =>
    intro i hk
    refine J_iload (nx := 76) dX12_right_74 rfl rfl ?_
    refine J_bipush (nx := 78) (i := 32) (v := 32) (by decide) dX12_right_76 rfl ?_
    refine J_icmp_ge (nx := 81) (tgt := 118) dX12_right_78 rfl (by decide) (fun c_78 => ?_) (fun c_78 => ?_)
    · exact absurd c_78 (nlt_nI (n := 32) (by omega) (by omega))
    · have hi : i < 32 := by omega
      refine J_iload (nx := 83) dX12_right_81 rfl rfl ?_
      refine J_aload_n (nx := 84) dX12_right_83 rfl rfl ?_
      refine Jg_63_28 (nx := 87) dX12_right_84 rfl fl_X12_52 ?_
      refine J_iload (nx := 89) dX12_right_87 rfl rfl ?_
      refine Ja_75 (nx := 90) dX12_right_89 rfl (vpE (n := i) (Eq.refl (nI (i))) (by omega) (by decide)) ?_
      rw [clE (n := i) (Eq.refl (nI (i))) (by omega)]
      refine J_aload_n (nx := 91) dX12_right_90 rfl rfl ?_
      refine Jg_63_26 (nx := 94) dX12_right_91 rfl fl_X12_46 ?_
      refine J_iload (nx := 96) dX12_right_94 rfl rfl ?_
      refine Ja_73 (nx := 97) dX12_right_96 rfl (vpE (n := i) (Eq.refl (nI (i))) (by omega) (by decide)) ?_
      rw [clE (n := i) (Eq.refl (nI (i))) (by omega)]
      refine J_lcmp (nx := 98) dX12_right_97 rfl ?_
      refine J_if_ne (nx := 101) (tgt := 108) dX12_right_98 rfl (by decide) (fun c_98 => ?_) (fun c_98 => ?_)
      · refine J_iconst (nx := 109) (i := 0) (v := 0) (by decide) dX12_right_108 rfl ?_
        refine J_ior (nx := 110) dX12_right_109 rfl ?_
        refine J_istore (nx := 112) dX12_right_110 rfl rfl (Nat.le_of_ble_eq_true rfl) ?_
        refine J_iinc (nx := 115) dX12_right_112 rfl rfl rfl (Nat.le_of_ble_eq_true rfl) ?_
        refine J_goto (nx := 74) dX12_right_115 (by decide) ?_
        rw [show (nI (i) + Int32.ofInt 1) = nI (i + 1) from (show nI (i) + Int32.ofInt 1 = nI (i + 1) from nI_add (i) 1)]
        refine J.lv (fun v => [some (.ref 63), some (.int x1), some (.int x2), some (.int x3), some (.int x4), some (.int (v)), some (.int (nI (i + 1)))]) (y := orI (fun s => rgV (gB g 75 s) (gB g 73 s) s) (i + 1)) ?_ (ih (i + 1) (by omega))
        refine congrArg (orI (fun s => rgV (gB g 75 s) (gB g 73 s) s) i ||| ·) ?_
        show _ = rgV (gB g 75 i) (gB g 73 i) i
        unfold rgV
        first | rw [if_pos c_98] | rw [if_neg (fun z => z c_98)]
      · refine J_iconst (nx := 102) (i := 1) (v := 1) (by decide) dX12_right_101 rfl ?_
        refine J_iload (nx := 104) dX12_right_102 rfl rfl ?_
        refine J_ishl (nx := 105) dX12_right_104 rfl ?_
        refine J_goto (nx := 109) dX12_right_105 (by decide) ?_
        refine J_ior (nx := 110) dX12_right_109 rfl ?_
        refine J_istore (nx := 112) dX12_right_110 rfl rfl (Nat.le_of_ble_eq_true rfl) ?_
        refine J_iinc (nx := 115) dX12_right_112 rfl rfl rfl (Nat.le_of_ble_eq_true rfl) ?_
        refine J_goto (nx := 74) dX12_right_115 (by decide) ?_
        rw [show (nI (i) + Int32.ofInt 1) = nI (i + 1) from (show nI (i) + Int32.ofInt 1 = nI (i + 1) from nI_add (i) 1)]
        refine J.lv (fun v => [some (.ref 63), some (.int x1), some (.int x2), some (.int x3), some (.int x4), some (.int (v)), some (.int (nI (i + 1)))]) (y := orI (fun s => rgV (gB g 75 s) (gB g 73 s) s) (i + 1)) ?_ (ih (i + 1) (by omega))
        refine congrArg (orI (fun s => rgV (gB g 75 s) (gB g 73 s) s) i ||| ·) ?_
        show _ = rgV (gB g 75 i) (gB g 73 i) i
        unfold rgV
        first | rw [if_pos c_98] | rw [if_neg (fun z => z c_98)]

theorem orI_congr {f f' : Nat → Int32} : ∀ n, (∀ i, i < n → f i = f' i) → orI f n = orI f' n := by
  intro n
  induction n with
  | zero => intro _; rfl
  | succ n ih => intro h; show orI f n ||| f n = orI f' n ||| f' n; rw [ih (fun i hi => h i (by omega)), h n (by omega)]
set_option maxRecDepth 100000 in
set_option maxHeartbeats 4000000 in
theorem ct_m_right (g : GS) (gl : List TxL) (rl : Nat → List TxL) (hM : MOK (gA g 64) gl rl) (jd : Int32) (b : Int32) (k : Int32) (z : Int32) : Ct mX12_right (rm 6 0 0) [.ref 63, .int jd, .int b, .int k, .int z] (Wd g) (PQi g [(wMj (gA g 64) jd && wMs (gA g 64) k && fIn z 0 7, 1), (fMb jd b, 2)] (fun x g2 => x = orI (fun s => rgV (jw (mJP (gA g 64) gl rl (gA g 64 6) (nN k) (nN z) (wTo (gA g 64) (nN k)) 3 0 (mG (gA g 64))) 0 s) (jw (mJP (gA g 64) gl rl (gA g 64 6) (nN k) (nN z) (wTo (gA g 64) (nN k)) jd b (mG (gA g 64))) 0 s) s) 32 ∧ QF g g2)) := by
  have hM2 := hM
  obtain ⟨⟨hG10, hG⟩, ⟨hT1, hT60, hT⟩, ⟨hR4, hR, hrl⟩, ⟨hN6, hN⟩, hgl, hgk⟩ := hM2
  refine Ct.of (by decide +kernel) (Nat.le_of_ble_eq_true rfl) ?_
  show J _ _ _ _ 0 [some (.ref 63), some (.int jd), some (.int b), some (.int k), some (.int z), none, none] [] _ 0 0
  refine J_aload_n (nx := 1) dX12_right_0 rfl rfl ?_
  refine J_iconst (nx := 2) (i := 0) (v := 0) (by decide) dX12_right_1 rfl ?_
  refine Jp_63_0 (nx := 5) dX12_right_2 rfl fl_X12_3 ?_
  refine J_aload_n (nx := 6) dX12_right_5 rfl rfl ?_
  refine J_aload_n (nx := 7) dX12_right_6 rfl rfl ?_
  refine J_iload_n (nx := 8) dX12_right_7 rfl rfl ?_
  refine J_iload_n (nx := 9) dX12_right_8 rfl rfl ?_
  refine J_iload (nx := 11) dX12_right_9 rfl rfl ?_
  refine JcV3 (R' := rm (2) 0 0) (nx := 14) dX12_right_11 rfl ml_X12_isNoFoul lk_X12_341 iv_X12_isNoFoul rfl rfl ⟨(Nat.le_of_ble_eq_true rfl), (Nat.le_of_ble_eq_true rfl)⟩ (Nat.le_of_ble_eq_true rfl) ⟨rfl, rfl⟩ (ct_m_isNoFoul (sF g 63 0 0) (gA g 64) rfl _ _ _) ?_
  refine J_iconst (nx := 15) (i := 1) (v := 1) (by decide) dX12_right_14 rfl ?_
  refine J_thr (nx := 18) dX12_right_15 rfl lk_X12_237 ⟨(Nat.le_of_ble_eq_true rfl), (Nat.le_of_ble_eq_true rfl)⟩ (Nat.le_of_ble_eq_true rfl) (fun b_15 => ?_) (fun b_15 => ?_)
  · refine J_if_ne (nx := 21) (tgt := 35) dX12_right_18 rfl (by decide) (fun c_18 => ?_) (fun c_18 => ?_)
    · refine J_iconst (nx := 36) (i := 0) (v := 0) (by decide) dX12_right_35 rfl ?_
      exact Jri dX12_right_36 rfl (Nat.zero_le _) (Nat.zero_le _) (RXi.of (Or.inl ⟨_, (by simp only [bI_is0, bI_is1, Bool.not_eq_true', Bool.not_eq_false'] at b_15; simp only [mxC, b_15, decide_true, decide_false, Bool.not_true, Bool.not_false, Bool.true_or, Bool.false_or, Bool.and_true, Bool.true_and, Bool.false_and, Bool.and_false, cond_true, cond_false]), rfl, rfl⟩))
    · exact absurd c_18 (by decide)
  · refine J_if_ne (nx := 21) (tgt := 35) dX12_right_18 rfl (by decide) (fun c_18 => ?_) (fun c_18 => ?_)
    · exact absurd c_18 (by decide)
    · refine J_aload_n (nx := 22) dX12_right_21 rfl rfl ?_
      refine J_aload_n (nx := 23) dX12_right_22 rfl rfl ?_
      refine J_iload_n (nx := 24) dX12_right_23 rfl rfl ?_
      refine J_iload_n (nx := 25) dX12_right_24 rfl rfl ?_
      refine JcV2 (R' := rm (1) 0 0) (nx := 28) dX12_right_25 rfl ml_X12_badBar lk_X12_344 iv_X12_badBar rfl rfl ⟨(Nat.le_of_ble_eq_true rfl), (Nat.le_of_ble_eq_true rfl)⟩ (Nat.le_of_ble_eq_true rfl) ⟨rfl, rfl⟩ (ct_m_badBar _ _ _) ?_
      refine J_iconst (nx := 29) (i := 2) (v := 2) (by decide) dX12_right_28 rfl ?_
      refine J_thr (nx := 32) dX12_right_29 rfl lk_X12_237 ⟨(Nat.le_of_ble_eq_true rfl), (Nat.le_of_ble_eq_true rfl)⟩ (Nat.le_of_ble_eq_true rfl) (fun b_29 => ?_) (fun b_29 => ?_)
      · refine J_if_eq (nx := 35) (tgt := 37) dX12_right_32 rfl (by decide) (fun c_32 => ?_) (fun c_32 => ?_)
        · exact absurd c_32 (by decide)
        · refine J_iconst (nx := 36) (i := 0) (v := 0) (by decide) dX12_right_35 rfl ?_
          exact Jri dX12_right_36 rfl (Nat.zero_le _) (Nat.zero_le _) (RXi.of (Or.inl ⟨_, (by simp only [bI_is0, bI_is1, Bool.not_eq_true', Bool.not_eq_false'] at b_15 b_29; simp only [mxC, b_15, b_29, decide_true, decide_false, Bool.not_true, Bool.not_false, Bool.true_or, Bool.false_or, Bool.and_true, Bool.true_and, Bool.false_and, Bool.and_false, cond_true, cond_false]), rfl, rfl⟩))
      · refine J_if_eq (nx := 35) (tgt := 37) dX12_right_32 rfl (by decide) (fun c_32 => ?_) (fun c_32 => ?_)
        · have HC : mxC [(wMj (gA g 64) jd && wMs (gA g 64) k && fIn z 0 7, 1), (fMb jd b, 2)] = none := (by simp only [bI_is0, bI_is1, Bool.not_eq_true', Bool.not_eq_false'] at b_15 b_29; simp only [mxC, b_15, b_29, decide_true, decide_false, Bool.not_true, Bool.not_false, Bool.true_or, Bool.false_or, Bool.and_true, Bool.true_and, Bool.false_and, Bool.and_false, cond_true, cond_false])
          have HG0 := HC
          obtain ⟨hk0, HG1⟩ := gd HG0
          simp only [Bool.and_eq_true] at hk0
          obtain ⟨⟨hk0_0, hk0_1⟩, hk0_2⟩ := hk0
          have hjjd := wMj_ok hM hk0_0
          obtain ⟨qk, hqk, rfl⟩ := wMs_nat hM hk0_1
          try rw [nN_nI (n := qk) (by omega)]
          obtain ⟨qz, hqz, rfl⟩ := fIn_nat (n := 7) (by omega) hk0_2
          try rw [nN_nI (n := qz) (by omega)]
          obtain ⟨hk1, HG2⟩ := gd HG1
          have hk1_0 := hk1
          refine J_aload_n (nx := 38) dX12_right_37 rfl rfl ?_
          refine J_aload_n (nx := 39) dX12_right_38 rfl rfl ?_
          refine Jg_63_1 (nx := 42) dX12_right_39 rfl fl_X12_13 ?_
          refine J_bipush (nx := 44) (i := 6) (v := 6) (by decide) dX12_right_42 rfl ?_
          refine Ja_64 (nx := 45) dX12_right_44 rfl (vpE (n := 6) (nIc 6) (by omega) (by decide)) ?_
          rw [clE (n := 6) (nIc 6) (by omega)]
          rw [show gA (sF g 63 0 0) 64 6 = gA g 64 6 from rfl]
          refine JvV1 (R' := rm (4) 0 0) (nx := 48) dX12_right_45 rfl ml_X12_letsOn lk_X12_296 iv_X12_letsOn rfl rfl ⟨(Nat.le_of_ble_eq_true rfl), (Nat.le_of_ble_eq_true rfl)⟩ (Nat.le_of_ble_eq_true rfl) ⟨rfl, rfl⟩ (ct_m_letsOn (sF g 63 0 0) (gA g 64) (gA g 64 6) gl rfl hgl hgk) (fun g_45 p_45 => ?_)
          have hL : LSt (gA g 64) gl (gA g 64 6) g_45 := LOK.ls (show gA (sF g 63 0 0) 64 = gA g 64 from rfl) p_45
          have hfr1 : Fr fA aQ (sF g 63 0 0) g_45 := Fr.rf.LO p_45.1
          refine J_aload_n (nx := 49) dX12_right_48 rfl rfl ?_
          refine J_iload_n (nx := 50) dX12_right_49 rfl rfl ?_
          refine J_iload (nx := 52) dX12_right_50 rfl rfl ?_
          refine J_aload_n (nx := 53) dX12_right_52 rfl rfl ?_
          refine J_iload_n (nx := 54) dX12_right_53 rfl rfl ?_
          refine JcV1 (R' := rm (1) 0 0) (nx := 57) dX12_right_54 rfl ml_X12_toldCard lk_X12_320 iv_X12_toldCard rfl rfl ⟨(Nat.le_of_ble_eq_true rfl), (Nat.le_of_ble_eq_true rfl)⟩ (Nat.le_of_ble_eq_true rfl) ⟨rfl, rfl⟩ (ct_m_toldCard _ (qk) (by omega)) ?_
          rw [show mSo g_45 qk 0 = wTo (gA g 64) qk from congrFun hL.1 _]
          refine JcV3 (R' := rm (3) 0 0) (nx := 60) dX12_right_57 rfl ml_X12_fouls lk_X12_323 iv_X12_fouls rfl rfl ⟨(Nat.le_of_ble_eq_true rfl), (Nat.le_of_ble_eq_true rfl)⟩ (Nat.le_of_ble_eq_true rfl) ⟨rfl, rfl⟩ (ct_m_fouls g_45 qk qz (by omega) (by omega) (wTo (gA g 64) qk)) ?_
          obtain ⟨gf, hgf⟩ : ∃ gf, gf = mFo g_45 qk qz (wTo (gA g 64) qk) := ⟨_, rfl⟩
          rw [← hgf]
          have hL2 : LSt (gA g 64) gl (gA g 64 6) gf := by rw [hgf]; exact hL.Fo
          have hF2 : FSt (gA g 64) qk qz (wTo (gA g 64) qk) gf := by rw [hgf]; exact FSt.Fo hL.1
          have hfr2 : Fr fA aQ (sF g 63 0 0) gf := by rw [hgf]; exact Fr.mFo hfr1
          refine J_aload_n (nx := 61) dX12_right_60 rfl rfl ?_
          refine J_iload_n (nx := 62) dX12_right_61 rfl rfl ?_
          refine J_iload_n (nx := 63) dX12_right_62 rfl rfl ?_
          refine J_iconst (nx := 64) (i := -1) (v := -1) (by decide) dX12_right_63 rfl ?_
          refine JlV3 (R' := rm (5) 0 0) (nx := 67) dX12_right_64 rfl ml_X12_losesAt lk_X12_355 iv_X12_losesAt rfl rfl ⟨(Nat.le_of_ble_eq_true rfl), (Nat.le_of_ble_eq_true rfl)⟩ (Nat.le_of_ble_eq_true rfl) ⟨rfl, rfl⟩ (ct_m_losesAt gf (gA g 64) gl rl (gA g 64 6) hM hL2 jd b (-1) qk qz (wTo (gA g 64) qk) (by omega) hF2 hjjd) (fun x_64 g_64 p_64 => ?_)
          refine J_pop2 (nx := 68) rfl dX12_right_67 rfl ?_
          refine J_iconst (nx := 69) (i := 0) (v := 0) (by decide) dX12_right_68 rfl ?_
          refine J_istore (nx := 71) dX12_right_69 rfl rfl (Nat.le_of_ble_eq_true rfl) ?_
          refine J_iconst (nx := 72) (i := 0) (v := 0) (by decide) dX12_right_71 rfl ?_
          refine J_istore (nx := 74) dX12_right_72 rfl rfl (Nat.le_of_ble_eq_true rfl) ?_
          refine J.post (lp_m_right g_64 _ _ _ _ _ 32 0 rfl) (fun r es h => ?_)
          obtain ⟨x, g2, hr, he, hx, hf⟩ := h
          refine ⟨x, g2, hr, he, Or.inr ⟨HC, hx.trans (orI_congr 32 (fun s hs => ?_)), QF.of ?_⟩⟩
          · rw [p_64.2.2.1 s hs, p_64.2.2.2.w0 hs]
          · rw [hf]; exact hfr2.K p_64.2.1
        · exact absurd c_32 (by decide)

def ptS (f h : Nat → Int32) (first : Bool) : Nat → Nat → Nat → Int32
  | 0, _, n => bif first then -1 else nI n
  | k + 1, i, n => if f i = h i then ptS f h first k (i + 1) n else bif first then nI i else ptS f h first k (i + 1) (n + 1)
theorem ptS_congr {f f' h h' : Nat → Int32} {b : Bool} {N : Nat} (hf : ∀ i, i < N → f i = f' i) (hh : ∀ i, i < N → h i = h' i) : ∀ (k i n : Nat), i + k = N → ptS f h b k i n = ptS f' h' b k i n := by
  intro k
  induction k with
  | zero => intro i n _; rfl
  | succ k ih =>
    intro i n e
    show (if f i = h i then ptS f h b k (i + 1) n else bif b then nI i else ptS f h b k (i + 1) (n + 1)) = (if f' i = h' i then ptS f' h' b k (i + 1) n else bif b then nI i else ptS f' h' b k (i + 1) (n + 1))
    rw [hf i (by omega), hh i (by omega), ih (i + 1) n (by omega), ih (i + 1) (n + 1) (by omega)]
def a76 (c : Nat) : Bool := Nat.beq c 76
set_option maxRecDepth 100000 in
set_option maxHeartbeats 4000000 in
theorem lp_m_pt1 (Q : Res → List ME → Prop) (g0 : GS) (N : Nat) (hN : N ≤ 352) (x1 x2 x3 x4 x5 : Int32) (fi : Bool) (n0 : Nat) : ∀ (k : Nat) (i : Nat) (g : GS), i + k = N → Fr f0 a76 g0 g → (∀ q, q < i → gA g 76 q = gA g0 74 q) → (∀ g, Fr f0 a76 g0 g → (∀ q, q < N → gA g 76 q = gA g0 74 q) → J mX12_part (rm 6 0 0) Q n0 124 [some (.ref 63), some (.int x1), some (.int x2), some (.int x3), some (.int x4), some (.int x5), some (.int (bI fi)), some (.int (nI (N))), some (.int (nI (N))), none] [] (Wd g) 0 0) → J mX12_part (rm 6 0 0) (Q) n0 97 [some (.ref 63), some (.int x1), some (.int x2), some (.int x3), some (.int x4), some (.int x5), some (.int (bI fi)), some (.int (nI (N))), some (.int (nI (i))), none] [] (Wd g) 0 0 := by
  intro k
  induction k with
  | zero =>
    intro i g hk hfr hI hK
    refine J_iload (nx := 99) dX12_part_97 rfl rfl ?_
    refine J_iload (nx := 101) dX12_part_99 rfl rfl ?_
    refine J_icmp_ge (nx := 104) (tgt := 124) dX12_part_101 rfl (by decide) (fun c_101 => ?_) (fun c_101 => ?_)
    · obtain rfl : i = N := by omega
      exact hK g hfr hI
    · exact absurd (show nI N ≤ nI i from by rw [show i = N by omega]; exact le_self_nI) c_101
  | succ k ih =>
    intro i g hk hfr hI hK
    refine J_iload (nx := 99) dX12_part_97 rfl rfl ?_
    refine J_iload (nx := 101) dX12_part_99 rfl rfl ?_
    refine J_icmp_ge (nx := 104) (tgt := 124) dX12_part_101 rfl (by decide) (fun c_101 => ?_) (fun c_101 => ?_)
    · exact absurd c_101 (nlt_nI (n := N) (by omega) (by omega))
    · have hi : i < N := by omega
      refine J_aload_n (nx := 105) dX12_part_104 rfl rfl ?_
      refine Jg_63_29 (nx := 108) dX12_part_105 rfl fl_X12_55 ?_
      refine J_iload (nx := 110) dX12_part_108 rfl rfl ?_
      refine J_aload_n (nx := 111) dX12_part_110 rfl rfl ?_
      refine Jg_63_27 (nx := 114) dX12_part_111 rfl fl_X12_49 ?_
      refine J_iload (nx := 116) dX12_part_114 rfl rfl ?_
      refine Ja_74 (nx := 117) dX12_part_116 rfl (vpE (n := i) (Eq.refl (nI (i))) (by omega) (by decide)) ?_
      rw [clE (n := i) (Eq.refl (nI (i))) (by omega)]
      refine Jt_76 (nx := 118) dX12_part_117 rfl (vpE (n := i) (Eq.refl (nI (i))) (by omega) (by decide)) ?_
      rw [clE (n := i) (Eq.refl (nI (i))) (by omega)]
      refine J.gen (fun g_117 hg_117 => ?_)
      refine J_iinc (nx := 121) dX12_part_118 rfl rfl rfl (Nat.le_of_ble_eq_true rfl) ?_
      refine J_goto (nx := 97) dX12_part_121 (by decide) ?_
      rw [show (nI (i) + Int32.ofInt 1) = nI (i + 1) from (show nI (i) + Int32.ofInt 1 = nI (i + 1) from nI_add (i) 1)]
      refine ih (i + 1) g_117 (by omega) (by rw [hg_117]; exact hfr.sA rfl) (fun q hq => ?_) hK
      rw [hg_117]
      show upd (gA g 76) i (gA g 74 i) q = gA g0 74 q
      by_cases e : q = i
      · rw [e]; exact (if_pos rfl).trans (congrFun (hfr.2.1 74 rfl) i)
      · exact (if_neg e).trans (hI q (by omega))

set_option maxRecDepth 100000 in
set_option maxHeartbeats 4000000 in
theorem lp_m_pt2 (g : GS) (N : Nat) (hN : N ≤ 352) (x1 x2 x3 x4 x5 : Int32) (fi : Bool) (n0 : Nat) : ∀ (k : Nat) (i n : Nat) (r : Int32), i + k = N → n ≤ i → r = ptS (gA g 76) (gA g 74) fi k i n → J mX12_part (rm 6 0 0) (RXi (fun x g2 => x = r ∧ g2 = g)) n0 142 [some (.ref 63), some (.int x1), some (.int x2), some (.int x3), some (.int x4), some (.int x5), some (.int (bI fi)), some (.int (nI (N))), some (.int (nI (n))), some (.int (nI (i)))] [] (Wd g) 0 0 := by
  intro k
  induction k with
  | zero =>
    intro i n r hk hn hr
    refine J_iload (nx := 144) dX12_part_142 rfl rfl ?_
    refine J_iload (nx := 146) dX12_part_144 rfl rfl ?_
    refine J_icmp_ge (nx := 149) (tgt := 186) dX12_part_146 rfl (by decide) (fun c_146 => ?_) (fun c_146 => ?_)
    · refine J_iload (nx := 188) dX12_part_186 rfl rfl ?_
      refine J_if_eq (nx := 191) (tgt := 195) dX12_part_188 rfl (by decide) (fun c_188 => ?_) (fun c_188 => ?_)
      · refine J_iload (nx := 197) dX12_part_195 rfl rfl ?_
        exact Jri dX12_part_197 rfl (Nat.zero_le _) (Nat.zero_le _) (RXi.of ⟨by rw [hr]; first | (rw [bI_0.mp c_188]; rfl) | (rw [bI_n0.mp c_188]; rfl), rfl⟩)
      · refine J_iconst (nx := 192) (i := -1) (v := -1) (by decide) dX12_part_191 rfl ?_
        refine J_goto (nx := 197) dX12_part_192 (by decide) ?_
        exact Jri dX12_part_197 rfl (Nat.zero_le _) (Nat.zero_le _) (RXi.of ⟨by rw [hr]; first | (rw [bI_0.mp c_188]; rfl) | (rw [bI_n0.mp c_188]; rfl), rfl⟩)
    · exact absurd (show nI N ≤ nI i from by rw [show i = N by omega]; exact le_self_nI) c_146
  | succ k ih =>
    intro i n r hk hn hr
    refine J_iload (nx := 144) dX12_part_142 rfl rfl ?_
    refine J_iload (nx := 146) dX12_part_144 rfl rfl ?_
    refine J_icmp_ge (nx := 149) (tgt := 186) dX12_part_146 rfl (by decide) (fun c_146 => ?_) (fun c_146 => ?_)
    · exact absurd c_146 (nlt_nI (n := N) (by omega) (by omega))
    · have hi : i < N := by omega
      refine J_aload_n (nx := 150) dX12_part_149 rfl rfl ?_
      refine Jg_63_29 (nx := 153) dX12_part_150 rfl fl_X12_55 ?_
      refine J_iload (nx := 155) dX12_part_153 rfl rfl ?_
      refine Ja_76 (nx := 156) dX12_part_155 rfl (vpE (n := i) (Eq.refl (nI (i))) (by omega) (by decide)) ?_
      rw [clE (n := i) (Eq.refl (nI (i))) (by omega)]
      refine J_aload_n (nx := 157) dX12_part_156 rfl rfl ?_
      refine Jg_63_27 (nx := 160) dX12_part_157 rfl fl_X12_49 ?_
      refine J_iload (nx := 162) dX12_part_160 rfl rfl ?_
      refine Ja_74 (nx := 163) dX12_part_162 rfl (vpE (n := i) (Eq.refl (nI (i))) (by omega) (by decide)) ?_
      rw [clE (n := i) (Eq.refl (nI (i))) (by omega)]
      refine J_icmp_ne (nx := 166) (tgt := 169) dX12_part_163 rfl (by decide) (fun c_163 => ?_) (fun c_163 => ?_)
      · refine J_iload (nx := 171) dX12_part_169 rfl rfl ?_
        refine J_if_eq (nx := 174) (tgt := 177) dX12_part_171 rfl (by decide) (fun c_171 => ?_) (fun c_171 => ?_)
        · refine J_iinc (nx := 180) dX12_part_177 rfl rfl rfl (Nat.le_of_ble_eq_true rfl) ?_
          refine J_iinc (nx := 183) dX12_part_180 rfl rfl rfl (Nat.le_of_ble_eq_true rfl) ?_
          refine J_goto (nx := 142) dX12_part_183 (by decide) ?_
          rw [show (nI (n) + Int32.ofInt 1) = nI (n + 1) from (show nI (n) + Int32.ofInt 1 = nI (n + 1) from nI_add (n) 1)]
          rw [show (nI (i) + Int32.ofInt 1) = nI (i + 1) from (show nI (i) + Int32.ofInt 1 = nI (i + 1) from nI_add (i) 1)]
          refine ih (i + 1) (n + 1) r (by omega) (by omega) (hr.trans ?_)
          show (if gA g 76 i = gA g 74 i then _ else _) = _
          rw [if_neg (show ¬ gA g 76 i = gA g 74 i from c_163), bI_0.mp c_171]; rfl
        · refine J_iload (nx := 176) dX12_part_174 rfl rfl ?_
          exact Jri dX12_part_176 rfl (Nat.zero_le _) (Nat.zero_le _) (RXi.of ⟨by rw [hr]; show _ = (if gA g 76 i = gA g 74 i then _ else _); rw [if_neg (show ¬ gA g 76 i = gA g 74 i from c_163), bI_n0.mp c_171]; rfl, rfl⟩)
      · refine J_goto (nx := 180) dX12_part_166 (by decide) ?_
        refine J_iinc (nx := 183) dX12_part_180 rfl rfl rfl (Nat.le_of_ble_eq_true rfl) ?_
        refine J_goto (nx := 142) dX12_part_183 (by decide) ?_
        rw [show (nI (i) + Int32.ofInt 1) = nI (i + 1) from (show nI (i) + Int32.ofInt 1 = nI (i + 1) from nI_add (i) 1)]
        refine ih (i + 1) n r (by omega) (by omega) (hr.trans ?_)
        show (if gA g 76 i = gA g 74 i then _ else _) = _
        rw [if_pos (show gA g 76 i = gA g 74 i from c_163)]

theorem aQ_76 (c : Nat) (h : aQ c = false) : a76 c = false := by
  cases e : a76 c with
  | false => rfl
  | true => unfold a76 at e; rw [Nat.beq_eq] at e; subst e; exact absurd h (by decide)
set_option maxRecDepth 100000 in
set_option maxHeartbeats 4000000 in
theorem ct_m_part (g : GS) (gl : List TxL) (rl : Nat → List TxL) (hM : MOK (gA g 64) gl rl) (jd : Int32) (j2 : Int32) (b : Int32) (k : Int32) (z : Int32) (fi : Bool) : Ct mX12_part (rm 6 0 0) [.ref 63, .int jd, .int j2, .int b, .int k, .int z, .int (bI fi)] (Wd g) (PQi g [(wMj (gA g 64) jd && wMs (gA g 64) k && fIn z 0 7 && wMj (gA g 64) j2, 1), (fMb jd b && fMb j2 b, 2)] (fun x g2 => x = ptS (fun i => ja (mJP (gA g 64) gl rl (gA g 64 6) (nN k) (nN z) (wTo (gA g 64) (nN k)) jd b (mG (gA g 64))) (i / 32) (i % 32)) (fun i => ja (mJP (gA g 64) gl rl (gA g 64 6) (nN k) (nN z) (wTo (gA g 64) (nN k)) j2 b (mG (gA g 64))) (i / 32) (i % 32)) fi (32 * (mG (gA g 64) + 1)) 0 0 ∧ QF g g2)) := by
  have hM2 := hM
  obtain ⟨⟨hG10, hG⟩, ⟨hT1, hT60, hT⟩, ⟨hR4, hR, hrl⟩, ⟨hN6, hN⟩, hgl, hgk⟩ := hM2
  refine Ct.of (by decide +kernel) (Nat.le_of_ble_eq_true rfl) ?_
  show J _ _ _ _ 0 [some (.ref 63), some (.int jd), some (.int j2), some (.int b), some (.int k), some (.int z), some (.int (bI fi)), none, none, none] [] _ 0 0
  refine J_aload_n (nx := 1) dX12_part_0 rfl rfl ?_
  refine J_iconst (nx := 2) (i := 0) (v := 0) (by decide) dX12_part_1 rfl ?_
  refine Jp_63_0 (nx := 5) dX12_part_2 rfl fl_X12_3 ?_
  refine J_aload_n (nx := 6) dX12_part_5 rfl rfl ?_
  refine J_aload_n (nx := 7) dX12_part_6 rfl rfl ?_
  refine J_iload_n (nx := 8) dX12_part_7 rfl rfl ?_
  refine J_iload (nx := 10) dX12_part_8 rfl rfl ?_
  refine J_iload (nx := 12) dX12_part_10 rfl rfl ?_
  refine JcV3 (R' := rm (2) 0 0) (nx := 15) dX12_part_12 rfl ml_X12_isNoFoul lk_X12_341 iv_X12_isNoFoul rfl rfl ⟨(Nat.le_of_ble_eq_true rfl), (Nat.le_of_ble_eq_true rfl)⟩ (Nat.le_of_ble_eq_true rfl) ⟨rfl, rfl⟩ (ct_m_isNoFoul (sF g 63 0 0) (gA g 64) rfl _ _ _) ?_
  refine J_if_ne (nx := 18) (tgt := 26) dX12_part_15 rfl (by decide) (fun c_15 => ?_) (fun c_15 => ?_)
  · refine J_iconst (nx := 27) (i := 1) (v := 1) (by decide) dX12_part_26 rfl ?_
    refine J_goto (nx := 31) dX12_part_27 (by decide) ?_
    refine J_iconst (nx := 32) (i := 1) (v := 1) (by decide) dX12_part_31 rfl ?_
    refine J_thr (b := true) (nx := 35) dX12_part_32 rfl lk_X12_237 ⟨(Nat.le_of_ble_eq_true rfl), (Nat.le_of_ble_eq_true rfl)⟩ (Nat.le_of_ble_eq_true rfl) (fun b_32 => ?_) (fun b_32 => ?_)
    · refine J_if_ne (nx := 38) (tgt := 69) dX12_part_35 rfl (by decide) (fun c_35 => ?_) (fun c_35 => ?_)
      · refine J_iconst (nx := 70) (i := 0) (v := 0) (by decide) dX12_part_69 rfl ?_
        exact Jri dX12_part_70 rfl (Nat.zero_le _) (Nat.zero_le _) (RXi.of (Or.inl ⟨_, (by simp only [bI_is0, bI_is1, Bool.not_eq_true', Bool.not_eq_false'] at c_15; simp only [mxC, c_15, decide_true, decide_false, Bool.not_true, Bool.not_false, Bool.true_or, Bool.false_or, Bool.and_true, Bool.true_and, Bool.false_and, Bool.and_false, cond_true, cond_false]), rfl, rfl⟩))
      · exact absurd c_35 (by decide)
    · exact absurd b_32 (by decide)
  · refine J_aload_n (nx := 19) dX12_part_18 rfl rfl ?_
    refine J_iload_n (nx := 20) dX12_part_19 rfl rfl ?_
    refine JcV1 (R' := rm (1) 0 0) (nx := 23) dX12_part_20 rfl ml_X12_noJudge lk_X12_335 iv_X12_noJudge rfl rfl ⟨(Nat.le_of_ble_eq_true rfl), (Nat.le_of_ble_eq_true rfl)⟩ (Nat.le_of_ble_eq_true rfl) ⟨rfl, rfl⟩ (ct_m_noJudgeW (sF g 63 0 0) (gA g 64) rfl _) ?_
    refine J_if_eq (nx := 26) (tgt := 30) dX12_part_23 rfl (by decide) (fun c_23 => ?_) (fun c_23 => ?_)
    · refine J_iconst (nx := 31) (i := 0) (v := 0) (by decide) dX12_part_30 rfl ?_
      refine J_iconst (nx := 32) (i := 1) (v := 1) (by decide) dX12_part_31 rfl ?_
      refine J_thr (b := false) (nx := 35) dX12_part_32 rfl lk_X12_237 ⟨(Nat.le_of_ble_eq_true rfl), (Nat.le_of_ble_eq_true rfl)⟩ (Nat.le_of_ble_eq_true rfl) (fun b_32 => ?_) (fun b_32 => ?_)
      · exact absurd b_32 (by decide)
      · refine J_if_ne (nx := 38) (tgt := 69) dX12_part_35 rfl (by decide) (fun c_35 => ?_) (fun c_35 => ?_)
        · exact absurd c_35 (by decide)
        · refine J_aload_n (nx := 39) dX12_part_38 rfl rfl ?_
          refine J_aload_n (nx := 40) dX12_part_39 rfl rfl ?_
          refine J_iload_n (nx := 41) dX12_part_40 rfl rfl ?_
          refine J_iload_n (nx := 42) dX12_part_41 rfl rfl ?_
          refine JcV2 (R' := rm (1) 0 0) (nx := 45) dX12_part_42 rfl ml_X12_badBar lk_X12_344 iv_X12_badBar rfl rfl ⟨(Nat.le_of_ble_eq_true rfl), (Nat.le_of_ble_eq_true rfl)⟩ (Nat.le_of_ble_eq_true rfl) ⟨rfl, rfl⟩ (ct_m_badBar _ _ _) ?_
          refine J_if_ne (nx := 48) (tgt := 57) dX12_part_45 rfl (by decide) (fun c_45 => ?_) (fun c_45 => ?_)
          · refine J_iconst (nx := 58) (i := 1) (v := 1) (by decide) dX12_part_57 rfl ?_
            refine J_goto (nx := 62) dX12_part_58 (by decide) ?_
            refine J_iconst (nx := 63) (i := 2) (v := 2) (by decide) dX12_part_62 rfl ?_
            refine J_thr (b := true) (nx := 66) dX12_part_63 rfl lk_X12_237 ⟨(Nat.le_of_ble_eq_true rfl), (Nat.le_of_ble_eq_true rfl)⟩ (Nat.le_of_ble_eq_true rfl) (fun b_63 => ?_) (fun b_63 => ?_)
            · refine J_if_eq (nx := 69) (tgt := 71) dX12_part_66 rfl (by decide) (fun c_66 => ?_) (fun c_66 => ?_)
              · exact absurd c_66 (by decide)
              · refine J_iconst (nx := 70) (i := 0) (v := 0) (by decide) dX12_part_69 rfl ?_
                exact Jri dX12_part_70 rfl (Nat.zero_le _) (Nat.zero_le _) (RXi.of (Or.inl ⟨_, (by simp only [bI_is0, bI_is1, Bool.not_eq_true', Bool.not_eq_false'] at c_15 c_23 c_45; simp only [mxC, c_15, c_23, c_45, decide_true, decide_false, Bool.not_true, Bool.not_false, Bool.true_or, Bool.false_or, Bool.and_true, Bool.true_and, Bool.false_and, Bool.and_false, cond_true, cond_false]), rfl, rfl⟩))
            · exact absurd b_63 (by decide)
          · refine J_aload_n (nx := 49) dX12_part_48 rfl rfl ?_
            refine J_iload_n (nx := 50) dX12_part_49 rfl rfl ?_
            refine J_iload_n (nx := 51) dX12_part_50 rfl rfl ?_
            refine JcV2 (R' := rm (1) 0 0) (nx := 54) dX12_part_51 rfl ml_X12_badBar lk_X12_344 iv_X12_badBar rfl rfl ⟨(Nat.le_of_ble_eq_true rfl), (Nat.le_of_ble_eq_true rfl)⟩ (Nat.le_of_ble_eq_true rfl) ⟨rfl, rfl⟩ (ct_m_badBar _ _ _) ?_
            refine J_if_eq (nx := 57) (tgt := 61) dX12_part_54 rfl (by decide) (fun c_54 => ?_) (fun c_54 => ?_)
            · refine J_iconst (nx := 62) (i := 0) (v := 0) (by decide) dX12_part_61 rfl ?_
              refine J_iconst (nx := 63) (i := 2) (v := 2) (by decide) dX12_part_62 rfl ?_
              refine J_thr (b := false) (nx := 66) dX12_part_63 rfl lk_X12_237 ⟨(Nat.le_of_ble_eq_true rfl), (Nat.le_of_ble_eq_true rfl)⟩ (Nat.le_of_ble_eq_true rfl) (fun b_63 => ?_) (fun b_63 => ?_)
              · exact absurd b_63 (by decide)
              · refine J_if_eq (nx := 69) (tgt := 71) dX12_part_66 rfl (by decide) (fun c_66 => ?_) (fun c_66 => ?_)
                · have HC : mxC [(wMj (gA g 64) jd && wMs (gA g 64) k && fIn z 0 7 && wMj (gA g 64) j2, 1), (fMb jd b && fMb j2 b, 2)] = none := (by simp only [bI_is0, bI_is1, Bool.not_eq_true', Bool.not_eq_false'] at c_15 c_23 c_45 c_54; simp only [mxC, c_15, c_23, c_45, c_54, decide_true, decide_false, Bool.not_true, Bool.not_false, Bool.true_or, Bool.false_or, Bool.and_true, Bool.true_and, Bool.false_and, Bool.and_false, cond_true, cond_false])
                  have HG0 := HC
                  obtain ⟨hk0, HG1⟩ := gd HG0
                  simp only [Bool.and_eq_true] at hk0
                  obtain ⟨⟨⟨hk0_0, hk0_1⟩, hk0_2⟩, hk0_3⟩ := hk0
                  have hjjd := wMj_ok hM hk0_0
                  obtain ⟨qk, hqk, rfl⟩ := wMs_nat hM hk0_1
                  try rw [nN_nI (n := qk) (by omega)]
                  obtain ⟨qz, hqz, rfl⟩ := fIn_nat (n := 7) (by omega) hk0_2
                  try rw [nN_nI (n := qz) (by omega)]
                  have hjj2 := wMj_ok hM hk0_3
                  obtain ⟨hk1, HG2⟩ := gd HG1
                  simp only [Bool.and_eq_true] at hk1
                  obtain ⟨hk1_0, hk1_1⟩ := hk1
                  refine J_aload_n (nx := 72) dX12_part_71 rfl rfl ?_
                  refine J_iload_n (nx := 73) dX12_part_72 rfl rfl ?_
                  refine J_iload_n (nx := 74) dX12_part_73 rfl rfl ?_
                  refine J_iload (nx := 76) dX12_part_74 rfl rfl ?_
                  refine J_iload (nx := 78) dX12_part_76 rfl rfl ?_
                  refine JvV4 (R' := rm (5) 0 0) (nx := 81) dX12_part_78 rfl ml_X12_asks lk_X12_347 iv_X12_asks rfl rfl ⟨(Nat.le_of_ble_eq_true rfl), (Nat.le_of_ble_eq_true rfl)⟩ (Nat.le_of_ble_eq_true rfl) ⟨rfl, rfl⟩ (ct_m_asks (sF g 63 0 0) (gA g 64) gl rl rfl hM jd b qk qz (by omega) (by omega) hjjd) (fun g_78 p_78 => ?_)
                  refine J_bipush (nx := 83) (i := 32) (v := 32) (by decide) dX12_part_81 rfl ?_
                  refine J_aload_n (nx := 84) dX12_part_83 rfl rfl ?_
                  refine Jg_63_1 (nx := 87) dX12_part_84 rfl fl_X12_13 ?_
                  refine J_iconst (nx := 88) (i := 4) (v := 4) (by decide) dX12_part_87 rfl ?_
                  refine Ja_64 (nx := 89) dX12_part_88 rfl (vpE (n := 4) (nIc 4) (by omega) (by decide)) ?_
                  rw [clE (n := 4) (nIc 4) (by omega)]
                  rw [show gA g_78 64 4 = nI (mG (gA g 64)) from (congrFun p_78.2.1.1 4).trans hG]
                  refine J_iconst (nx := 90) (i := 1) (v := 1) (by decide) dX12_part_89 rfl ?_
                  refine J_iadd (nx := 91) dX12_part_90 rfl ?_
                  refine J_imul (nx := 92) dX12_part_91 rfl ?_
                  rw [show ((32 : Int32) * (nI ((mG (gA g 64))) + (1 : Int32))) = nI ((32 * ((mG (gA g 64)) + 1))) from (nIm (nIc 32) (nIa (Eq.refl (nI ((mG (gA g 64))))) (nIc 1)))]
                  refine J_istore (nx := 94) dX12_part_92 rfl rfl (Nat.le_of_ble_eq_true rfl) ?_
                  refine J_iconst (nx := 95) (i := 0) (v := 0) (by decide) dX12_part_94 rfl ?_
                  refine J_istore (nx := 97) dX12_part_95 rfl rfl (Nat.le_of_ble_eq_true rfl) ?_
                  rw [show nI ((32 * ((mG (gA g 64)) + 1))) = nI (32 * (mG (gA g 64) + 1)) from (Eq.refl (nI ((32 * ((mG (gA g 64)) + 1)))))]
                  refine lp_m_pt1 _ g_78 (32 * (mG (gA g 64) + 1)) (by omega) jd j2 b (nI qk) (nI qz) fi _ (32 * (mG (gA g 64) + 1)) 0 g_78 (by omega) Fr.rf (fun q h => absurd h (Nat.not_lt_zero _)) (fun gc hfc hIc => ?_)
                  have hLc : LSt (gA g 64) gl (gA g 64 6) gc := p_78.2.1.fr (hfc.2.1 64 rfl) (hfc.1 63 20 rfl) (hfc.1 63 21 rfl) (hfc.2.2.1 72 rfl)
                  have hFc : FSt (gA g 64) qk qz (wTo (gA g 64) qk) gc := ⟨(hfc.1 63 22 rfl).trans p_78.2.2.1.1, (hfc.1 63 23 rfl).trans p_78.2.2.1.2.1, (hfc.1 63 24 rfl).trans p_78.2.2.1.2.2.1, (hfc.1 63 25 rfl).trans p_78.2.2.1.2.2.2⟩
                  refine J_aload_n (nx := 125) dX12_part_124 rfl rfl ?_
                  refine J_iload_n (nx := 126) dX12_part_125 rfl rfl ?_
                  refine J_iload_n (nx := 127) dX12_part_126 rfl rfl ?_
                  refine J_aload_n (nx := 128) dX12_part_127 rfl rfl ?_
                  refine Jg_63_1 (nx := 131) dX12_part_128 rfl fl_X12_13 ?_
                  refine J_iconst (nx := 132) (i := 4) (v := 4) (by decide) dX12_part_131 rfl ?_
                  refine Ja_64 (nx := 133) dX12_part_132 rfl (vpE (n := 4) (nIc 4) (by omega) (by decide)) ?_
                  rw [clE (n := 4) (nIc 4) (by omega)]
                  rw [show gA gc 64 4 = nI (mG (gA g 64)) from (congrFun hLc.1 4).trans hG]
                  refine JvV3 (R' := rm (4) 0 0) (nx := 136) dX12_part_133 rfl ml_X12_judges lk_X12_338 iv_X12_judges rfl rfl ⟨(Nat.le_of_ble_eq_true rfl), (Nat.le_of_ble_eq_true rfl)⟩ (Nat.le_of_ble_eq_true rfl) ⟨rfl, rfl⟩ (ct_m_judges gc (mJP (gA g 64) gl rl (gA g 64 6) qk qz (wTo (gA g 64) qk) j2 b (mG (gA g 64))) (mJP_ok hM hLc hFc hjj2 hG10 (by omega))) (fun g_133 p_133 => ?_)
                  refine J_iconst (nx := 137) (i := 0) (v := 0) (by decide) dX12_part_136 rfl ?_
                  refine J_istore (nx := 139) dX12_part_137 rfl rfl (Nat.le_of_ble_eq_true rfl) ?_
                  refine J_iconst (nx := 140) (i := 0) (v := 0) (by decide) dX12_part_139 rfl ?_
                  refine J_istore (nx := 142) dX12_part_140 rfl rfl (Nat.le_of_ble_eq_true rfl) ?_
                  refine J.post (lp_m_pt2 g_133 (32 * (mG (gA g 64) + 1)) (by omega) _ _ _ _ _ fi _ (32 * (mG (gA g 64) + 1)) 0 0 _ (by omega) (by omega) rfl) (fun r es h => ?_)
                  obtain ⟨x, g2, hr, he, hx, hf⟩ := h
                  have hA2 := AS.of hLc hFc p_133
                  refine ⟨x, g2, hr, he, Or.inr ⟨HC, hx.trans (ptS_congr (N := 32 * (mG (gA g 64) + 1)) (fun i hi => ?_) (fun i hi => ?_) _ _ _ (by omega)), ?_⟩⟩
                  · rw [p_133.1.2.1 76 rfl, hIc i hi]
                    have := p_78.2.a (j := i / 32) (s := i % 32) (by omega) (by omega)
                    rw [show 32 * (i / 32) + i % 32 = i by omega] at this
                    exact this
                  · have := hA2.a (j := i / 32) (s := i % 32) (by omega) (by omega)
                    rw [show 32 * (i / 32) + i % 32 = i by omega] at this
                    exact this
                  · rw [hf]
                    exact ((QF.of p_78.1).trA (hfc.mono fA_0 aQ_76)).trA (p_133.1.mono fA_0 aQ_J)
                · exact absurd c_66 (by decide)
            · refine J_iconst (nx := 58) (i := 1) (v := 1) (by decide) dX12_part_57 rfl ?_
              refine J_goto (nx := 62) dX12_part_58 (by decide) ?_
              refine J_iconst (nx := 63) (i := 2) (v := 2) (by decide) dX12_part_62 rfl ?_
              refine J_thr (b := true) (nx := 66) dX12_part_63 rfl lk_X12_237 ⟨(Nat.le_of_ble_eq_true rfl), (Nat.le_of_ble_eq_true rfl)⟩ (Nat.le_of_ble_eq_true rfl) (fun b_63 => ?_) (fun b_63 => ?_)
              · refine J_if_eq (nx := 69) (tgt := 71) dX12_part_66 rfl (by decide) (fun c_66 => ?_) (fun c_66 => ?_)
                · exact absurd c_66 (by decide)
                · refine J_iconst (nx := 70) (i := 0) (v := 0) (by decide) dX12_part_69 rfl ?_
                  exact Jri dX12_part_70 rfl (Nat.zero_le _) (Nat.zero_le _) (RXi.of (Or.inl ⟨_, (by simp only [bI_is0, bI_is1, Bool.not_eq_true', Bool.not_eq_false'] at c_15 c_23 c_45 c_54; simp only [mxC, c_15, c_23, c_45, c_54, decide_true, decide_false, Bool.not_true, Bool.not_false, Bool.true_or, Bool.false_or, Bool.and_true, Bool.true_and, Bool.false_and, Bool.and_false, cond_true, cond_false]), rfl, rfl⟩))
              · exact absurd b_63 (by decide)
    · refine J_iconst (nx := 27) (i := 1) (v := 1) (by decide) dX12_part_26 rfl ?_
      refine J_goto (nx := 31) dX12_part_27 (by decide) ?_
      refine J_iconst (nx := 32) (i := 1) (v := 1) (by decide) dX12_part_31 rfl ?_
      refine J_thr (b := true) (nx := 35) dX12_part_32 rfl lk_X12_237 ⟨(Nat.le_of_ble_eq_true rfl), (Nat.le_of_ble_eq_true rfl)⟩ (Nat.le_of_ble_eq_true rfl) (fun b_32 => ?_) (fun b_32 => ?_)
      · refine J_if_ne (nx := 38) (tgt := 69) dX12_part_35 rfl (by decide) (fun c_35 => ?_) (fun c_35 => ?_)
        · refine J_iconst (nx := 70) (i := 0) (v := 0) (by decide) dX12_part_69 rfl ?_
          exact Jri dX12_part_70 rfl (Nat.zero_le _) (Nat.zero_le _) (RXi.of (Or.inl ⟨_, (by simp only [bI_is0, bI_is1, Bool.not_eq_true', Bool.not_eq_false'] at c_15 c_23; simp only [mxC, c_15, c_23, decide_true, decide_false, Bool.not_true, Bool.not_false, Bool.true_or, Bool.false_or, Bool.and_true, Bool.true_and, Bool.false_and, Bool.and_false, cond_true, cond_false]), rfl, rfl⟩))
        · exact absurd c_35 (by decide)
      · exact absurd b_32 (by decide)

def cn8 (W : Nat → Int32) (s : Nat) : Int32 := if 100 - wSt W s - W (18 + 34 * s + s) ≤ 0 then 0 else 1
def ctV (W : Nat → Int32) (w : Int32) : Int32 :=
  if w = 0 then W 0 else if w = 1 then (if ¬ W 3 = 1 then 0 else W (1310 + 861 * 4)) else if w = 2 then W 1 else if w = 3 then W 2 else if w = 4 then W 4 else if w = 5 then W 5 else if w = 6 then W 6 else if w = 7 then W 7 else if w = 8 then sI (cn8 W) 32 else if w = 9 then sI (wRs W) (mN W) else -1
set_option maxRecDepth 100000 in
set_option maxHeartbeats 4000000 in
theorem lp_m_ct8 (g : GS) (w : Int32) (n0 : Nat) : ∀ (k : Nat) (i : Nat), i + k = 32 → J mX12_count (rm 2 0 0) (RXi (fun x g2 => x = sI (cn8 (gA g 64)) 32 ∧ g2 = g)) n0 137 [some (.ref 63), some (.int w), some (.int (sI (cn8 (gA g 64)) i)), some (.int (nI (i)))] [] (Wd g) 0 0 := by
  intro k
  induction k with
  | zero =>
    intro i hk
    refine J_iload_n (nx := 138) dX12_count_137 rfl rfl ?_
    refine J_bipush (nx := 140) (i := 32) (v := 32) (by decide) dX12_count_138 rfl ?_
    refine J_icmp_ge (nx := 143) (tgt := 179) dX12_count_140 rfl (by decide) (fun c_140 => ?_) (fun c_140 => ?_)
    · refine J_iload_n (nx := 180) dX12_count_179 rfl rfl ?_
      exact Jri dX12_count_180 rfl (Nat.zero_le _) (Nat.zero_le _) (RXi.of ⟨by rw [show i = 32 by omega], rfl⟩)
    · exact absurd (show nI 32 ≤ nI i from by rw [show i = 32 by omega]; exact le_self_nI) c_140
  | succ k ih =>
    intro i hk
    refine J_iload_n (nx := 138) dX12_count_137 rfl rfl ?_
    refine J_bipush (nx := 140) (i := 32) (v := 32) (by decide) dX12_count_138 rfl ?_
    refine J_icmp_ge (nx := 143) (tgt := 179) dX12_count_140 rfl (by decide) (fun c_140 => ?_) (fun c_140 => ?_)
    · exact absurd c_140 (nlt_nI (n := 32) (by omega) (by omega))
    · have hi : i < 32 := by omega
      refine J_iload_n (nx := 144) dX12_count_143 rfl rfl ?_
      refine J_bipush (nx := 146) (i := 100) (v := 100) (by decide) dX12_count_144 rfl ?_
      refine J_aload_n (nx := 147) dX12_count_146 rfl rfl ?_
      refine J_iload_n (nx := 148) dX12_count_147 rfl rfl ?_
      refine JcV1 (R' := rm (1) 0 0) (nx := 151) dX12_count_148 rfl ml_X12_staying lk_X12_251 iv_X12_staying rfl rfl ⟨(Nat.le_of_ble_eq_true rfl), (Nat.le_of_ble_eq_true rfl)⟩ (Nat.le_of_ble_eq_true rfl) ⟨rfl, rfl⟩ (ct_m_staying g i (by omega)) ?_
      rw [show mSt g i = wSt (gA g 64) i from rfl]
      refine J_isub (nx := 152) dX12_count_151 rfl ?_
      refine J_aload_n (nx := 153) dX12_count_152 rfl rfl ?_
      refine Jg_63_1 (nx := 156) dX12_count_153 rfl fl_X12_13 ?_
      refine J_iload_n (nx := 157) dX12_count_156 rfl rfl ?_
      refine J_iload_n (nx := 158) dX12_count_157 rfl rfl ?_
      refine JcS2 (R' := rm (0) 0 0) (nx := 161) dX12_count_158 rfl ml_X12_chanceAt lk_X12_248 st_X12_chanceAt ⟨(Nat.le_of_ble_eq_true rfl), (Nat.le_of_ble_eq_true rfl)⟩ (Nat.le_of_ble_eq_true rfl) ⟨rfl, rfl⟩ (ct_m_chanceAt _ (i) (i)) ?_
      refine Ja_64 (nx := 162) dX12_count_161 rfl (vpE (n := (18 + 34 * i + i)) (Eq.refl (nI ((18 + 34 * i + i)))) (by omega) (by decide)) ?_
      rw [clE (n := (18 + 34 * i + i)) (Eq.refl (nI ((18 + 34 * i + i)))) (by omega)]
      refine J_isub (nx := 163) dX12_count_162 rfl ?_
      refine J_if_le (nx := 166) (tgt := 170) dX12_count_163 rfl (by decide) (fun c_163 => ?_) (fun c_163 => ?_)
      · refine J_iconst (nx := 171) (i := 0) (v := 0) (by decide) dX12_count_170 rfl ?_
        refine J_iadd (nx := 172) dX12_count_171 rfl ?_
        refine J_istore_n (nx := 173) dX12_count_172 rfl rfl (Nat.le_of_ble_eq_true rfl) ?_
        refine J_iinc (nx := 176) dX12_count_173 rfl rfl rfl (Nat.le_of_ble_eq_true rfl) ?_
        refine J_goto (nx := 137) dX12_count_176 (by decide) ?_
        rw [show (nI (i) + Int32.ofInt 1) = nI (i + 1) from (show nI (i) + Int32.ofInt 1 = nI (i + 1) from nI_add (i) 1)]
        refine J.lv (fun v => [some (.ref 63), some (.int w), some (.int (v)), some (.int (nI (i + 1)))]) (y := sI (cn8 (gA g 64)) (i + 1)) ?_ (ih (i + 1) (by omega))
        refine congrArg (sI (cn8 (gA g 64)) i + ·) ?_
        show _ = cn8 (gA g 64) i
        unfold cn8
        first | rw [if_pos c_163] | rw [if_neg c_163]
      · refine J_iconst (nx := 167) (i := 1) (v := 1) (by decide) dX12_count_166 rfl ?_
        refine J_goto (nx := 171) dX12_count_167 (by decide) ?_
        refine J_iadd (nx := 172) dX12_count_171 rfl ?_
        refine J_istore_n (nx := 173) dX12_count_172 rfl rfl (Nat.le_of_ble_eq_true rfl) ?_
        refine J_iinc (nx := 176) dX12_count_173 rfl rfl rfl (Nat.le_of_ble_eq_true rfl) ?_
        refine J_goto (nx := 137) dX12_count_176 (by decide) ?_
        rw [show (nI (i) + Int32.ofInt 1) = nI (i + 1) from (show nI (i) + Int32.ofInt 1 = nI (i + 1) from nI_add (i) 1)]
        refine J.lv (fun v => [some (.ref 63), some (.int w), some (.int (v)), some (.int (nI (i + 1)))]) (y := sI (cn8 (gA g 64)) (i + 1)) ?_ (ih (i + 1) (by omega))
        refine congrArg (sI (cn8 (gA g 64)) i + ·) ?_
        show _ = cn8 (gA g 64) i
        unfold cn8
        first | rw [if_pos c_163] | rw [if_neg c_163]

set_option maxRecDepth 100000 in
set_option maxHeartbeats 4000000 in
theorem lp_m_ct9 (g : GS) (w : Int32) (N : Nat) (hN : gA g 64 2 = nI N) (hN6 : N ≤ 6) (n0 : Nat) : ∀ (k : Nat) (i : Nat), i + k = N → J mX12_count (rm 2 0 0) (RXi (fun x g2 => x = sI (wRs (gA g 64)) N ∧ g2 = g)) n0 183 [some (.ref 63), some (.int w), some (.int (sI (wRs (gA g 64)) i)), some (.int (nI (i)))] [] (Wd g) 0 0 := by
  intro k
  induction k with
  | zero =>
    intro i hk
    refine J_iload_n (nx := 184) dX12_count_183 rfl rfl ?_
    refine J_aload_n (nx := 185) dX12_count_184 rfl rfl ?_
    refine Jg_63_1 (nx := 188) dX12_count_185 rfl fl_X12_13 ?_
    refine J_iconst (nx := 189) (i := 2) (v := 2) (by decide) dX12_count_188 rfl ?_
    refine Ja_64 (nx := 190) dX12_count_189 rfl (vpE (n := 2) (nIc 2) (by omega) (by decide)) ?_
    rw [clE (n := 2) (nIc 2) (by omega)]
    rw [hN]
    refine J_icmp_ge (nx := 193) (tgt := 207) dX12_count_190 rfl (by decide) (fun c_190 => ?_) (fun c_190 => ?_)
    · refine J_iload_n (nx := 208) dX12_count_207 rfl rfl ?_
      exact Jri dX12_count_208 rfl (Nat.zero_le _) (Nat.zero_le _) (RXi.of ⟨by rw [show i = N by omega], rfl⟩)
    · exact absurd (show nI N ≤ nI i from by rw [show i = N by omega]; exact le_self_nI) c_190
  | succ k ih =>
    intro i hk
    refine J_iload_n (nx := 184) dX12_count_183 rfl rfl ?_
    refine J_aload_n (nx := 185) dX12_count_184 rfl rfl ?_
    refine Jg_63_1 (nx := 188) dX12_count_185 rfl fl_X12_13 ?_
    refine J_iconst (nx := 189) (i := 2) (v := 2) (by decide) dX12_count_188 rfl ?_
    refine Ja_64 (nx := 190) dX12_count_189 rfl (vpE (n := 2) (nIc 2) (by omega) (by decide)) ?_
    rw [clE (n := 2) (nIc 2) (by omega)]
    rw [hN]
    refine J_icmp_ge (nx := 193) (tgt := 207) dX12_count_190 rfl (by decide) (fun c_190 => ?_) (fun c_190 => ?_)
    · exact absurd c_190 (nlt_nI (n := N) (by omega) (by omega))
    · refine J_iload_n (nx := 194) dX12_count_193 rfl rfl ?_
      refine J_aload_n (nx := 195) dX12_count_194 rfl rfl ?_
      refine J_iload_n (nx := 196) dX12_count_195 rfl rfl ?_
      refine JcV1 (R' := rm (1) 0 0) (nx := 199) dX12_count_196 rfl ml_X12_rates lk_X12_299 iv_X12_rates rfl rfl ⟨(Nat.le_of_ble_eq_true rfl), (Nat.le_of_ble_eq_true rfl)⟩ (Nat.le_of_ble_eq_true rfl) ⟨rfl, rfl⟩ (ct_m_rates g i (by omega)) ?_
      rw [show mRs g i = wRs (gA g 64) i from rfl]
      refine J_iadd (nx := 200) dX12_count_199 rfl ?_
      refine J_istore_n (nx := 201) dX12_count_200 rfl rfl (Nat.le_of_ble_eq_true rfl) ?_
      refine J_iinc (nx := 204) dX12_count_201 rfl rfl rfl (Nat.le_of_ble_eq_true rfl) ?_
      refine J_goto (nx := 183) dX12_count_204 (by decide) ?_
      rw [show (nI (i) + Int32.ofInt 1) = nI (i + 1) from (show nI (i) + Int32.ofInt 1 = nI (i + 1) from nI_add (i) 1)]
      exact ih (i + 1) (by omega)

set_option maxRecDepth 100000 in
set_option maxHeartbeats 4000000 in
theorem ct_m_count (g : GS) (gl : List TxL) (rl : Nat → List TxL) (hM : MOK (gA g 64) gl rl) (w : Int32) : Ct mX12_count (rm 2 0 0) [.ref 63, .int w] (Wd g) (RXi (fun x g2 => x = ctV (gA g 64) w ∧ g2 = (sF g 63 0 0))) := by
  have hM2 := hM
  obtain ⟨⟨hG10, hG⟩, ⟨hT1, hT60, hT⟩, ⟨hR4, hR, hrl⟩, ⟨hN6, hN⟩, hgl, hgk⟩ := hM2
  refine Ct.of (by decide +kernel) (Nat.le_of_ble_eq_true rfl) ?_
  show J _ _ _ _ 0 [some (.ref 63), some (.int w), none, none] [] _ 0 0
  refine J_aload_n (nx := 1) dX12_count_0 rfl rfl ?_
  refine J_iconst (nx := 2) (i := 0) (v := 0) (by decide) dX12_count_1 rfl ?_
  refine Jp_63_0 (nx := 5) dX12_count_2 rfl fl_X12_3 ?_
  refine J_iconst (nx := 6) (i := 0) (v := 0) (by decide) dX12_count_5 rfl ?_
  refine J_istore_n (nx := 7) dX12_count_6 rfl rfl (Nat.le_of_ble_eq_true rfl) ?_
  refine J_iload_n (nx := 8) dX12_count_7 rfl rfl ?_
  by_cases s_8_0 : w = 0
  · refine J_tabIn (nx := 0) (tgt := 64) (off := 56) dX12_count_8 (by rw [s_8_0]; decide) (by rw [s_8_0]; decide) (by rw [s_8_0]; rfl) (by decide) ?_
    refine J_aload_n (nx := 65) dX12_count_64 rfl rfl ?_
    refine Jg_63_1 (nx := 68) dX12_count_65 rfl fl_X12_13 ?_
    refine J_iconst (nx := 69) (i := 0) (v := 0) (by decide) dX12_count_68 rfl ?_
    refine Ja_64 (nx := 70) dX12_count_69 rfl (vpE (n := 0) (nIc 0) (by omega) (by decide)) ?_
    rw [clE (n := 0) (nIc 0) (by omega)]
    exact Jri dX12_count_70 rfl (Nat.zero_le _) (Nat.zero_le _) (RXi.of ⟨by unfold ctV; rw [if_pos s_8_0]; rfl, rfl⟩)
  by_cases s_8_1 : w = 1
  · refine J_tabIn (nx := 0) (tgt := 71) (off := 63) dX12_count_8 (by rw [s_8_1]; decide) (by rw [s_8_1]; decide) (by rw [s_8_1]; rfl) (by decide) ?_
    refine J_aload_n (nx := 72) dX12_count_71 rfl rfl ?_
    refine Jg_63_1 (nx := 75) dX12_count_72 rfl fl_X12_13 ?_
    refine J_iconst (nx := 76) (i := 3) (v := 3) (by decide) dX12_count_75 rfl ?_
    refine Ja_64 (nx := 77) dX12_count_76 rfl (vpE (n := 3) (nIc 3) (by omega) (by decide)) ?_
    rw [clE (n := 3) (nIc 3) (by omega)]
    refine J_iconst (nx := 78) (i := 1) (v := 1) (by decide) dX12_count_77 rfl ?_
    refine J_icmp_ne (nx := 81) (tgt := 89) dX12_count_78 rfl (by decide) (fun c_78 => ?_) (fun c_78 => ?_)
    · refine J_iconst (nx := 90) (i := 0) (v := 0) (by decide) dX12_count_89 rfl ?_
      exact Jri dX12_count_90 rfl (Nat.zero_le _) (Nat.zero_le _) (RXi.of ⟨by unfold ctV; rw [if_neg s_8_0, if_pos s_8_1]; rw [show gA (sF g 63 0 0) 64 3 = gA g 64 3 from rfl] at c_78; first | (rw [if_pos c_78]) | (rw [if_neg (fun z => z c_78)]; rfl), rfl⟩)
    · refine J_aload_n (nx := 82) dX12_count_81 rfl rfl ?_
      refine J_iconst (nx := 83) (i := 4) (v := 4) (by decide) dX12_count_82 rfl ?_
      refine JcV1 (R' := rm (1) 0 0) (nx := 86) dX12_count_83 rfl ml_X12_lines lk_X12_265 iv_X12_lines rfl rfl ⟨(Nat.le_of_ble_eq_true rfl), (Nat.le_of_ble_eq_true rfl)⟩ (Nat.le_of_ble_eq_true rfl) ⟨rfl, rfl⟩ (ct_m_lines _ (4) (by omega)) ?_
      refine J_goto (nx := 90) dX12_count_86 (by decide) ?_
      exact Jri dX12_count_90 rfl (Nat.zero_le _) (Nat.zero_le _) (RXi.of ⟨by unfold ctV; rw [if_neg s_8_0, if_pos s_8_1]; rw [show gA (sF g 63 0 0) 64 3 = gA g 64 3 from rfl] at c_78; first | (rw [if_pos c_78]) | (rw [if_neg (fun z => z c_78)]; rfl), rfl⟩)
  by_cases s_8_2 : w = 2
  · refine J_tabIn (nx := 0) (tgt := 91) (off := 83) dX12_count_8 (by rw [s_8_2]; decide) (by rw [s_8_2]; decide) (by rw [s_8_2]; rfl) (by decide) ?_
    refine J_aload_n (nx := 92) dX12_count_91 rfl rfl ?_
    refine Jg_63_1 (nx := 95) dX12_count_92 rfl fl_X12_13 ?_
    refine J_iconst (nx := 96) (i := 1) (v := 1) (by decide) dX12_count_95 rfl ?_
    refine Ja_64 (nx := 97) dX12_count_96 rfl (vpE (n := 1) (nIc 1) (by omega) (by decide)) ?_
    rw [clE (n := 1) (nIc 1) (by omega)]
    exact Jri dX12_count_97 rfl (Nat.zero_le _) (Nat.zero_le _) (RXi.of ⟨by unfold ctV; rw [if_neg s_8_0, if_neg s_8_1, if_pos s_8_2]; rfl, rfl⟩)
  by_cases s_8_3 : w = 3
  · refine J_tabIn (nx := 0) (tgt := 98) (off := 90) dX12_count_8 (by rw [s_8_3]; decide) (by rw [s_8_3]; decide) (by rw [s_8_3]; rfl) (by decide) ?_
    refine J_aload_n (nx := 99) dX12_count_98 rfl rfl ?_
    refine Jg_63_1 (nx := 102) dX12_count_99 rfl fl_X12_13 ?_
    refine J_iconst (nx := 103) (i := 2) (v := 2) (by decide) dX12_count_102 rfl ?_
    refine Ja_64 (nx := 104) dX12_count_103 rfl (vpE (n := 2) (nIc 2) (by omega) (by decide)) ?_
    rw [clE (n := 2) (nIc 2) (by omega)]
    exact Jri dX12_count_104 rfl (Nat.zero_le _) (Nat.zero_le _) (RXi.of ⟨by unfold ctV; rw [if_neg s_8_0, if_neg s_8_1, if_neg s_8_2, if_pos s_8_3]; rfl, rfl⟩)
  by_cases s_8_4 : w = 4
  · refine J_tabIn (nx := 0) (tgt := 105) (off := 97) dX12_count_8 (by rw [s_8_4]; decide) (by rw [s_8_4]; decide) (by rw [s_8_4]; rfl) (by decide) ?_
    refine J_aload_n (nx := 106) dX12_count_105 rfl rfl ?_
    refine Jg_63_1 (nx := 109) dX12_count_106 rfl fl_X12_13 ?_
    refine J_iconst (nx := 110) (i := 4) (v := 4) (by decide) dX12_count_109 rfl ?_
    refine Ja_64 (nx := 111) dX12_count_110 rfl (vpE (n := 4) (nIc 4) (by omega) (by decide)) ?_
    rw [clE (n := 4) (nIc 4) (by omega)]
    exact Jri dX12_count_111 rfl (Nat.zero_le _) (Nat.zero_le _) (RXi.of ⟨by unfold ctV; rw [if_neg s_8_0, if_neg s_8_1, if_neg s_8_2, if_neg s_8_3, if_pos s_8_4]; rfl, rfl⟩)
  by_cases s_8_5 : w = 5
  · refine J_tabIn (nx := 0) (tgt := 112) (off := 104) dX12_count_8 (by rw [s_8_5]; decide) (by rw [s_8_5]; decide) (by rw [s_8_5]; rfl) (by decide) ?_
    refine J_aload_n (nx := 113) dX12_count_112 rfl rfl ?_
    refine Jg_63_1 (nx := 116) dX12_count_113 rfl fl_X12_13 ?_
    refine J_iconst (nx := 117) (i := 5) (v := 5) (by decide) dX12_count_116 rfl ?_
    refine Ja_64 (nx := 118) dX12_count_117 rfl (vpE (n := 5) (nIc 5) (by omega) (by decide)) ?_
    rw [clE (n := 5) (nIc 5) (by omega)]
    exact Jri dX12_count_118 rfl (Nat.zero_le _) (Nat.zero_le _) (RXi.of ⟨by unfold ctV; rw [if_neg s_8_0, if_neg s_8_1, if_neg s_8_2, if_neg s_8_3, if_neg s_8_4, if_pos s_8_5]; rfl, rfl⟩)
  by_cases s_8_6 : w = 6
  · refine J_tabIn (nx := 0) (tgt := 119) (off := 111) dX12_count_8 (by rw [s_8_6]; decide) (by rw [s_8_6]; decide) (by rw [s_8_6]; rfl) (by decide) ?_
    refine J_aload_n (nx := 120) dX12_count_119 rfl rfl ?_
    refine Jg_63_1 (nx := 123) dX12_count_120 rfl fl_X12_13 ?_
    refine J_bipush (nx := 125) (i := 6) (v := 6) (by decide) dX12_count_123 rfl ?_
    refine Ja_64 (nx := 126) dX12_count_125 rfl (vpE (n := 6) (nIc 6) (by omega) (by decide)) ?_
    rw [clE (n := 6) (nIc 6) (by omega)]
    exact Jri dX12_count_126 rfl (Nat.zero_le _) (Nat.zero_le _) (RXi.of ⟨by unfold ctV; rw [if_neg s_8_0, if_neg s_8_1, if_neg s_8_2, if_neg s_8_3, if_neg s_8_4, if_neg s_8_5, if_pos s_8_6]; rfl, rfl⟩)
  by_cases s_8_7 : w = 7
  · refine J_tabIn (nx := 0) (tgt := 127) (off := 119) dX12_count_8 (by rw [s_8_7]; decide) (by rw [s_8_7]; decide) (by rw [s_8_7]; rfl) (by decide) ?_
    refine J_aload_n (nx := 128) dX12_count_127 rfl rfl ?_
    refine Jg_63_1 (nx := 131) dX12_count_128 rfl fl_X12_13 ?_
    refine J_bipush (nx := 133) (i := 7) (v := 7) (by decide) dX12_count_131 rfl ?_
    refine Ja_64 (nx := 134) dX12_count_133 rfl (vpE (n := 7) (nIc 7) (by omega) (by decide)) ?_
    rw [clE (n := 7) (nIc 7) (by omega)]
    exact Jri dX12_count_134 rfl (Nat.zero_le _) (Nat.zero_le _) (RXi.of ⟨by unfold ctV; rw [if_neg s_8_0, if_neg s_8_1, if_neg s_8_2, if_neg s_8_3, if_neg s_8_4, if_neg s_8_5, if_neg s_8_6, if_pos s_8_7]; rfl, rfl⟩)
  by_cases s_8_8 : w = 8
  · refine J_tabIn (nx := 0) (tgt := 135) (off := 127) dX12_count_8 (by rw [s_8_8]; decide) (by rw [s_8_8]; decide) (by rw [s_8_8]; rfl) (by decide) ?_
    refine J_iconst (nx := 136) (i := 0) (v := 0) (by decide) dX12_count_135 rfl ?_
    refine J_istore_n (nx := 137) dX12_count_136 rfl rfl (Nat.le_of_ble_eq_true rfl) ?_
    refine J.post (lp_m_ct8 (sF g 63 0 0) w _ 32 0 rfl) (fun r es h => ?_)
    obtain ⟨x, g2, hr, he, hx, hf⟩ := h
    exact ⟨x, g2, hr, he, hx.trans (by unfold ctV; rw [if_neg s_8_0, if_neg s_8_1, if_neg s_8_2, if_neg s_8_3, if_neg s_8_4, if_neg s_8_5, if_neg s_8_6, if_neg s_8_7, if_pos s_8_8]; rfl), hf⟩
  by_cases s_8_9 : w = 9
  · refine J_tabIn (nx := 0) (tgt := 181) (off := 173) dX12_count_8 (by rw [s_8_9]; decide) (by rw [s_8_9]; decide) (by rw [s_8_9]; rfl) (by decide) ?_
    refine J_iconst (nx := 182) (i := 0) (v := 0) (by decide) dX12_count_181 rfl ?_
    refine J_istore_n (nx := 183) dX12_count_182 rfl rfl (Nat.le_of_ble_eq_true rfl) ?_
    refine J.post (lp_m_ct9 (sF g 63 0 0) w (mN (gA g 64)) hN hN6 _ (mN (gA g 64)) 0 (by omega)) (fun r es h => ?_)
    obtain ⟨x, g2, hr, he, hx, hf⟩ := h
    exact ⟨x, g2, hr, he, hx.trans (by unfold ctV; rw [if_neg s_8_0, if_neg s_8_1, if_neg s_8_2, if_neg s_8_3, if_neg s_8_4, if_neg s_8_5, if_neg s_8_6, if_neg s_8_7, if_neg s_8_8, if_pos s_8_9]; rfl), hf⟩
  refine J_tabOut (nx := 0) (tgt := 209) dX12_count_8 (by have e0 : ¬ (w).toInt = 0 := fun z => s_8_0 (Int32.toInt_inj.mp (z.trans (by decide))); have e1 : ¬ (w).toInt = 1 := fun z => s_8_1 (Int32.toInt_inj.mp (z.trans (by decide))); have e2 : ¬ (w).toInt = 2 := fun z => s_8_2 (Int32.toInt_inj.mp (z.trans (by decide))); have e3 : ¬ (w).toInt = 3 := fun z => s_8_3 (Int32.toInt_inj.mp (z.trans (by decide))); have e4 : ¬ (w).toInt = 4 := fun z => s_8_4 (Int32.toInt_inj.mp (z.trans (by decide))); have e5 : ¬ (w).toInt = 5 := fun z => s_8_5 (Int32.toInt_inj.mp (z.trans (by decide))); have e6 : ¬ (w).toInt = 6 := fun z => s_8_6 (Int32.toInt_inj.mp (z.trans (by decide))); have e7 : ¬ (w).toInt = 7 := fun z => s_8_7 (Int32.toInt_inj.mp (z.trans (by decide))); have e8 : ¬ (w).toInt = 8 := fun z => s_8_8 (Int32.toInt_inj.mp (z.trans (by decide))); have e9 : ¬ (w).toInt = 9 := fun z => s_8_9 (Int32.toInt_inj.mp (z.trans (by decide))); omega) (by decide) ?_
  refine J_iconst (nx := 210) (i := -1) (v := -1) (by decide) dX12_count_209 rfl ?_
  exact Jri dX12_count_210 rfl (Nat.zero_le _) (Nat.zero_le _) (RXi.of ⟨by unfold ctV; rw [if_neg s_8_0, if_neg s_8_1, if_neg s_8_2, if_neg s_8_3, if_neg s_8_4, if_neg s_8_5, if_neg s_8_6, if_neg s_8_7, if_neg s_8_8, if_neg s_8_9], rfl⟩)

