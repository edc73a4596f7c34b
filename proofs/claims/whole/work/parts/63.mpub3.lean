
/-! the Model: what is called from outside, the third part -/
def mtM (W : Nat → Int32) (gl : List TxL) (rl : Nat → List TxL) (m jd b stp : Int32) : Int64 := acL 0 (mtT W gl rl m jd b stp) (32 * mN W)
set_option maxRecDepth 100000 in
set_option maxHeartbeats 4000000 in
theorem lp_m_match (g : GS) (gl : List TxL) (rl : Nat → List TxL) (hM : MOK (gA g 64) gl rl) (jd b stp : Int32) (hjd : jdOK (gA g 64) jd) (n0 : Nat) : ∀ (k : Nat) (i : Nat) (gc : GS), i + k = 9 → Fr fA aQ (sF g 63 0 0) gc → J mX12_match (rm 6 0 0) (RXl (fun x g2 => x = fdL (acL 0 (fun i => mtM (gA g 64) gl rl (nI (10 * i)) jd b 0) 9) 9 ∧ Fr fA aQ (sF g 63 0 0) g2)) n0 59 [some (.ref 63), some (.int jd), some (.int b), some (.int stp), some (.long (acL 0 (fun i => mtM (gA g 64) gl rl (nI (10 * i)) jd b 0) i)), none, some (.int (nI (10 * i)))] [] (Wd gc) 0 0 := by
  intro k
  induction k with
  | zero =>
    intro i gc hk hfr
    refine J_iload (nx := 61) dX12_match_59 rfl rfl ?_
    refine J_bipush (nx := 63) (i := 90) (v := 90) (by decide) dX12_match_61 rfl ?_
    refine J_icmp_ge (nx := 66) (tgt := 86) dX12_match_63 rfl (by decide) (fun c_63 => ?_) (fun c_63 => ?_)
    · refine J_lload (nx := 88) dX12_match_86 rfl rfl ?_
      refine J_ldc2 (nx := 91) cn_X12_367 dX12_match_88 rfl ?_
      refine JcS2 (R' := rm (0) 0 0) (nx := 94) dX12_match_91 rfl ml_J9_floorDiv_f86c9 lk_X12_293 st_J9_floorDiv_f86c9 ⟨(Nat.le_of_ble_eq_true rfl), (Nat.le_of_ble_eq_true rfl)⟩ (Nat.le_of_ble_eq_true rfl) ⟨rfl, rfl⟩ (ct_floorDivL _ _ _ (by decide)) ?_
      exact Jrl dX12_match_94 rfl (Nat.zero_le _) (Nat.zero_le _) (RXl.of ⟨by rw [show i = 9 by omega], hfr⟩)
    · exact absurd (show nI 90 ≤ nI (10 * i) from by rw [show i = 9 by omega]; exact le_self_nI) c_63
  | succ k ih =>
    intro i gc hk hfr
    refine J_iload (nx := 61) dX12_match_59 rfl rfl ?_
    refine J_bipush (nx := 63) (i := 90) (v := 90) (by decide) dX12_match_61 rfl ?_
    refine J_icmp_ge (nx := 66) (tgt := 86) dX12_match_63 rfl (by decide) (fun c_63 => ?_) (fun c_63 => ?_)
    · exact absurd c_63 (nlt_nI (n := 90) (by omega) (by omega))
    · refine J_lload (nx := 68) dX12_match_66 rfl rfl ?_
      refine J_aload_n (nx := 69) dX12_match_68 rfl rfl ?_
      refine J_iload_n (nx := 70) dX12_match_69 rfl rfl ?_
      refine J_iload_n (nx := 71) dX12_match_70 rfl rfl ?_
      refine J_iload (nx := 73) dX12_match_71 rfl rfl ?_
      refine J_iconst (nx := 74) (i := 0) (v := 0) (by decide) dX12_match_73 rfl ?_
      refine JlV4 (R' := rm (5) 0 0) (nx := 77) dX12_match_74 rfl ml_X12_matchIn lk_X12_363 iv_X12_matchIn rfl rfl ⟨(Nat.le_of_ble_eq_true rfl), (Nat.le_of_ble_eq_true rfl)⟩ (Nat.le_of_ble_eq_true rfl) ⟨rfl, rfl⟩ (ct_m_matchIn gc (gA g 64) gl rl (hfr.2.1 64 rfl) hM jd b (nI (10 * i)) 0 hjd) (fun x_74 g_74 p_74 => ?_)
      refine J_ladd (nx := 78) dX12_match_77 rfl ?_
      refine J_lstore (nx := 80) dX12_match_78 rfl rfl (Nat.le_of_ble_eq_true rfl) ?_
      refine J_iinc (nx := 83) dX12_match_80 rfl rfl rfl (Nat.le_of_ble_eq_true rfl) ?_
      refine J_goto (nx := 59) dX12_match_83 (by decide) ?_
      rw [show (nI ((10 * i)) + Int32.ofInt 10) = nI (10 * (i + 1)) from (show nI ((10 * i)) + Int32.ofInt 10 = nI ((10 * i) + 10) from nI_add ((10 * i)) 10), p_74.1]
      exact ih (i + 1) g_74 (by omega) (hfr.tr p_74.2.1)

set_option maxRecDepth 100000 in
set_option maxHeartbeats 4000000 in
theorem ct_m_match (g : GS) (gl : List TxL) (rl : Nat → List TxL) (hM : MOK (gA g 64) gl rl) (jd : Int32) (b : Int32) (stopped : Bool) : Ct mX12_match (rm 6 0 0) [.ref 63, .int jd, .int b, .int (bI stopped)] (Wd g) (PQl g [(wMj (gA g 64) jd, 1), (fMb jd b, 2)] (fun x g2 => x = (bif stopped then mtM (gA g 64) gl rl (gA g 64 6) jd b 1 else fdL (acL 0 (fun i => mtM (gA g 64) gl rl (nI (10 * i)) jd b 0) 9) 9) ∧ QF g g2)) := by
  have hM2 := hM
  obtain ⟨⟨hG10, hG⟩, ⟨hT1, hT60, hT⟩, ⟨hR4, hR, hrl⟩, ⟨hN6, hN⟩, hgl, hgk⟩ := hM2
  refine Ct.of (by decide +kernel) (Nat.le_of_ble_eq_true rfl) ?_
  show J _ _ _ _ 0 [some (.ref 63), some (.int jd), some (.int b), some (.int (bI stopped)), none, none, none] [] _ 0 0
  refine J_aload_n (nx := 1) dX12_match_0 rfl rfl ?_
  refine J_iconst (nx := 2) (i := 0) (v := 0) (by decide) dX12_match_1 rfl ?_
  refine Jp_63_0 (nx := 5) dX12_match_2 rfl fl_X12_3 ?_
  refine J_aload_n (nx := 6) dX12_match_5 rfl rfl ?_
  refine J_aload_n (nx := 7) dX12_match_6 rfl rfl ?_
  refine J_iload_n (nx := 8) dX12_match_7 rfl rfl ?_
  refine JcV1 (R' := rm (1) 0 0) (nx := 11) dX12_match_8 rfl ml_X12_noJudge lk_X12_335 iv_X12_noJudge rfl rfl ⟨(Nat.le_of_ble_eq_true rfl), (Nat.le_of_ble_eq_true rfl)⟩ (Nat.le_of_ble_eq_true rfl) ⟨rfl, rfl⟩ (ct_m_noJudgeW (sF g 63 0 0) (gA g 64) rfl _) ?_
  refine J_iconst (nx := 12) (i := 1) (v := 1) (by decide) dX12_match_11 rfl ?_
  refine J_thr (nx := 15) dX12_match_12 rfl lk_X12_237 ⟨(Nat.le_of_ble_eq_true rfl), (Nat.le_of_ble_eq_true rfl)⟩ (Nat.le_of_ble_eq_true rfl) (fun b_12 => ?_) (fun b_12 => ?_)
  · refine J_if_ne (nx := 18) (tgt := 32) dX12_match_15 rfl (by decide) (fun c_15 => ?_) (fun c_15 => ?_)
    · refine J_lconst (nx := 33) (i := 0) (v := 0) (by decide) dX12_match_32 rfl ?_
      exact Jrl dX12_match_33 rfl (Nat.zero_le _) (Nat.zero_le _) (RXl.of (Or.inl ⟨_, (by simp only [bI_is0, bI_is1, Bool.not_eq_true', Bool.not_eq_false'] at b_12; simp only [mxC, b_12, decide_true, decide_false, Bool.not_true, Bool.not_false, Bool.true_or, Bool.false_or, Bool.and_true, Bool.true_and, Bool.false_and, Bool.and_false, cond_true, cond_false]), rfl, rfl⟩))
    · exact absurd c_15 (by decide)
  · refine J_if_ne (nx := 18) (tgt := 32) dX12_match_15 rfl (by decide) (fun c_15 => ?_) (fun c_15 => ?_)
    · exact absurd c_15 (by decide)
    · refine J_aload_n (nx := 19) dX12_match_18 rfl rfl ?_
      refine J_aload_n (nx := 20) dX12_match_19 rfl rfl ?_
      refine J_iload_n (nx := 21) dX12_match_20 rfl rfl ?_
      refine J_iload_n (nx := 22) dX12_match_21 rfl rfl ?_
      refine JcV2 (R' := rm (1) 0 0) (nx := 25) dX12_match_22 rfl ml_X12_badBar lk_X12_344 iv_X12_badBar rfl rfl ⟨(Nat.le_of_ble_eq_true rfl), (Nat.le_of_ble_eq_true rfl)⟩ (Nat.le_of_ble_eq_true rfl) ⟨rfl, rfl⟩ (ct_m_badBar _ _ _) ?_
      refine J_iconst (nx := 26) (i := 2) (v := 2) (by decide) dX12_match_25 rfl ?_
      refine J_thr (nx := 29) dX12_match_26 rfl lk_X12_237 ⟨(Nat.le_of_ble_eq_true rfl), (Nat.le_of_ble_eq_true rfl)⟩ (Nat.le_of_ble_eq_true rfl) (fun b_26 => ?_) (fun b_26 => ?_)
      · refine J_if_eq (nx := 32) (tgt := 34) dX12_match_29 rfl (by decide) (fun c_29 => ?_) (fun c_29 => ?_)
        · exact absurd c_29 (by decide)
        · refine J_lconst (nx := 33) (i := 0) (v := 0) (by decide) dX12_match_32 rfl ?_
          exact Jrl dX12_match_33 rfl (Nat.zero_le _) (Nat.zero_le _) (RXl.of (Or.inl ⟨_, (by simp only [bI_is0, bI_is1, Bool.not_eq_true', Bool.not_eq_false'] at b_12 b_26; simp only [mxC, b_12, b_26, decide_true, decide_false, Bool.not_true, Bool.not_false, Bool.true_or, Bool.false_or, Bool.and_true, Bool.true_and, Bool.false_and, Bool.and_false, cond_true, cond_false]), rfl, rfl⟩))
      · refine J_if_eq (nx := 32) (tgt := 34) dX12_match_29 rfl (by decide) (fun c_29 => ?_) (fun c_29 => ?_)
        · have HC : mxC [(wMj (gA g 64) jd, 1), (fMb jd b, 2)] = none := (by simp only [bI_is0, bI_is1, Bool.not_eq_true', Bool.not_eq_false'] at b_12 b_26; simp only [mxC, b_12, b_26, decide_true, decide_false, Bool.not_true, Bool.not_false, Bool.true_or, Bool.false_or, Bool.and_true, Bool.true_and, Bool.false_and, Bool.and_false, cond_true, cond_false])
          have HG0 := HC
          obtain ⟨hk0, HG1⟩ := gd HG0
          have hk0_0 := hk0
          have hjjd := wMj_ok hM hk0_0
          obtain ⟨hk1, HG2⟩ := gd HG1
          have hk1_0 := hk1
          refine J_iload_n (nx := 35) dX12_match_34 rfl rfl ?_
          refine J_if_eq (nx := 38) (tgt := 53) dX12_match_35 rfl (by decide) (fun c_35 => ?_) (fun c_35 => ?_)
          · refine J_lconst (nx := 54) (i := 0) (v := 0) (by decide) dX12_match_53 rfl ?_
            refine J_lstore (nx := 56) dX12_match_54 rfl rfl (Nat.le_of_ble_eq_true rfl) ?_
            refine J_iconst (nx := 57) (i := 0) (v := 0) (by decide) dX12_match_56 rfl ?_
            refine J_istore (nx := 59) dX12_match_57 rfl rfl (Nat.le_of_ble_eq_true rfl) ?_
            refine J.post (lp_m_match g gl rl hM jd b _ hjjd _ 9 0 _ rfl Fr.rf) (fun r es h => ?_)
            obtain ⟨x, g2, hr, he, hx, hf⟩ := h
            exact ⟨x, g2, hr, he, Or.inr ⟨HC, by rw [bI_0.mp c_35]; exact hx, QF.of hf⟩⟩
          · refine J_aload_n (nx := 39) dX12_match_38 rfl rfl ?_
            refine J_iload_n (nx := 40) dX12_match_39 rfl rfl ?_
            refine J_iload_n (nx := 41) dX12_match_40 rfl rfl ?_
            refine J_aload_n (nx := 42) dX12_match_41 rfl rfl ?_
            refine Jg_63_1 (nx := 45) dX12_match_42 rfl fl_X12_13 ?_
            refine J_bipush (nx := 47) (i := 6) (v := 6) (by decide) dX12_match_45 rfl ?_
            refine Ja_64 (nx := 48) dX12_match_47 rfl (vpE (n := 6) (nIc 6) (by omega) (by decide)) ?_
            rw [clE (n := 6) (nIc 6) (by omega)]
            refine J_iconst (nx := 49) (i := 1) (v := 1) (by decide) dX12_match_48 rfl ?_
            rw [show gA (sF g 63 0 0) 64 6 = gA g 64 6 from rfl]
            refine JlV4 (R' := rm (5) 0 0) (nx := 52) dX12_match_49 rfl ml_X12_matchIn lk_X12_363 iv_X12_matchIn rfl rfl ⟨(Nat.le_of_ble_eq_true rfl), (Nat.le_of_ble_eq_true rfl)⟩ (Nat.le_of_ble_eq_true rfl) ⟨rfl, rfl⟩ (ct_m_matchIn (sF g 63 0 0) (gA g 64) gl rl rfl hM jd b (gA g 64 6) 1 hjjd) (fun x_49 g_49 p_49 => ?_)
            exact Jrl dX12_match_52 rfl (Nat.zero_le _) (Nat.zero_le _) (RXl.of (Or.inr ⟨HC, by rw [bI_n0.mp c_35]; exact p_49.1, QF.of p_49.2.1⟩))
        · exact absurd c_29 (by decide)

def mtwW (a b : Int32) : Int32 := if a ≤ b then (if b ≤ a then 0 else 2) else 1
def mtwV (a b : Int32) (v : Int64) : Int64 := if ¬ mtwW a b = 0 then (if ¬ mtwW a b = 2 then v else (-b).toInt64) else 0
set_option maxRecDepth 100000 in
set_option maxHeartbeats 4000000 in
theorem ct_m_two (g : GS) (gl : List TxL) (rl : Nat → List TxL) (hM : MOK (gA g 64) gl rl) (a : Int32) (z : Int32) (c : Int32) (y : Int32) (s : Int32) (worth : Bool) : Ct mX12_two (rm 6 0 0) [.ref 63, .int a, .int z, .int c, .int y, .int s, .int (bI worth)] (Wd g) (PQl g [(wMs (gA g 64) a && fIn z 0 7 && wMs (gA g 64) c && fIn y 0 7 && fIn s 0 31, 1)] (fun x g2 => x = (bif worth then mtwV (wSw (gA g 64) (nN a) (nN z) (wTo (gA g 64) (nN a))) (wSw (gA g 64) (nN c) (nN y) (wTo (gA g 64) (nN c))) (jw (mJP (gA g 64) gl rl (gA g 64 6) (nN a) (nN z) (wTo (gA g 64) (nN a)) 3 0 (mG (gA g 64))) 0 (nN s)) else (mtwW (wSw (gA g 64) (nN a) (nN z) (wTo (gA g 64) (nN a))) (wSw (gA g 64) (nN c) (nN y) (wTo (gA g 64) (nN c)))).toInt64) ∧ QF g g2)) := by
  have hM2 := hM
  obtain ⟨⟨hG10, hG⟩, ⟨hT1, hT60, hT⟩, ⟨hR4, hR, hrl⟩, ⟨hN6, hN⟩, hgl, hgk⟩ := hM2
  refine Ct.of (by decide +kernel) (Nat.le_of_ble_eq_true rfl) ?_
  show J _ _ _ _ 0 [some (.ref 63), some (.int a), some (.int z), some (.int c), some (.int y), some (.int s), some (.int (bI worth)), none, none] [] _ 0 0
  refine J_aload_n (nx := 1) dX12_two_0 rfl rfl ?_
  refine J_iconst (nx := 2) (i := 0) (v := 0) (by decide) dX12_two_1 rfl ?_
  refine Jp_63_0 (nx := 5) dX12_two_2 rfl fl_X12_3 ?_
  refine J_aload_n (nx := 6) dX12_two_5 rfl rfl ?_
  refine J_aload_n (nx := 7) dX12_two_6 rfl rfl ?_
  refine J_iload_n (nx := 8) dX12_two_7 rfl rfl ?_
  refine JcV1 (R' := rm (1) 0 0) (nx := 11) dX12_two_8 rfl ml_X12_noSort lk_X12_317 iv_X12_noSort rfl rfl ⟨(Nat.le_of_ble_eq_true rfl), (Nat.le_of_ble_eq_true rfl)⟩ (Nat.le_of_ble_eq_true rfl) ⟨rfl, rfl⟩ (ct_m_noSortW (sF g 63 0 0) (gA g 64) rfl _) ?_
  refine J_if_ne (nx := 14) (tgt := 45) dX12_two_11 rfl (by decide) (fun c_11 => ?_) (fun c_11 => ?_)
  · refine J_iconst (nx := 46) (i := 1) (v := 1) (by decide) dX12_two_45 rfl ?_
    refine J_goto (nx := 50) dX12_two_46 (by decide) ?_
    refine J_iconst (nx := 51) (i := 1) (v := 1) (by decide) dX12_two_50 rfl ?_
    refine J_thr (b := true) (nx := 54) dX12_two_51 rfl lk_X12_237 ⟨(Nat.le_of_ble_eq_true rfl), (Nat.le_of_ble_eq_true rfl)⟩ (Nat.le_of_ble_eq_true rfl) (fun b_51 => ?_) (fun b_51 => ?_)
    · refine J_if_eq (nx := 57) (tgt := 59) dX12_two_54 rfl (by decide) (fun c_54 => ?_) (fun c_54 => ?_)
      · exact absurd c_54 (by decide)
      · refine J_lconst (nx := 58) (i := 0) (v := 0) (by decide) dX12_two_57 rfl ?_
        exact Jrl dX12_two_58 rfl (Nat.zero_le _) (Nat.zero_le _) (RXl.of (Or.inl ⟨_, (by simp only [bI_is0, bI_is1, Bool.not_eq_true', Bool.not_eq_false'] at c_11; simp only [mxC, c_11, decide_true, decide_false, Bool.not_true, Bool.not_false, Bool.true_or, Bool.false_or, Bool.and_true, Bool.true_and, Bool.false_and, Bool.and_false, cond_true, cond_false]), rfl, rfl⟩))
    · exact absurd b_51 (by decide)
  · refine J_iload_n (nx := 15) dX12_two_14 rfl rfl ?_
    refine JcS1 (R' := rm (1) 0 0) (nx := 18) dX12_two_15 rfl ml_X12_noZone lk_X12_254 st_X12_noZone ⟨(Nat.le_of_ble_eq_true rfl), (Nat.le_of_ble_eq_true rfl)⟩ (Nat.le_of_ble_eq_true rfl) ⟨rfl, rfl⟩ (ct_m_noZone _ _) ?_
    refine J_if_ne (nx := 21) (tgt := 45) dX12_two_18 rfl (by decide) (fun c_18 => ?_) (fun c_18 => ?_)
    · refine J_iconst (nx := 46) (i := 1) (v := 1) (by decide) dX12_two_45 rfl ?_
      refine J_goto (nx := 50) dX12_two_46 (by decide) ?_
      refine J_iconst (nx := 51) (i := 1) (v := 1) (by decide) dX12_two_50 rfl ?_
      refine J_thr (b := true) (nx := 54) dX12_two_51 rfl lk_X12_237 ⟨(Nat.le_of_ble_eq_true rfl), (Nat.le_of_ble_eq_true rfl)⟩ (Nat.le_of_ble_eq_true rfl) (fun b_51 => ?_) (fun b_51 => ?_)
      · refine J_if_eq (nx := 57) (tgt := 59) dX12_two_54 rfl (by decide) (fun c_54 => ?_) (fun c_54 => ?_)
        · exact absurd c_54 (by decide)
        · refine J_lconst (nx := 58) (i := 0) (v := 0) (by decide) dX12_two_57 rfl ?_
          exact Jrl dX12_two_58 rfl (Nat.zero_le _) (Nat.zero_le _) (RXl.of (Or.inl ⟨_, (by simp only [bI_is0, bI_is1, Bool.not_eq_true', Bool.not_eq_false'] at c_11 c_18; simp only [mxC, c_11, c_18, decide_true, decide_false, Bool.not_true, Bool.not_false, Bool.true_or, Bool.false_or, Bool.and_true, Bool.true_and, Bool.false_and, Bool.and_false, cond_true, cond_false]), rfl, rfl⟩))
      · exact absurd b_51 (by decide)
    · refine J_aload_n (nx := 22) dX12_two_21 rfl rfl ?_
      refine J_iload_n (nx := 23) dX12_two_22 rfl rfl ?_
      refine JcV1 (R' := rm (1) 0 0) (nx := 26) dX12_two_23 rfl ml_X12_noSort lk_X12_317 iv_X12_noSort rfl rfl ⟨(Nat.le_of_ble_eq_true rfl), (Nat.le_of_ble_eq_true rfl)⟩ (Nat.le_of_ble_eq_true rfl) ⟨rfl, rfl⟩ (ct_m_noSortW (sF g 63 0 0) (gA g 64) rfl _) ?_
      refine J_if_ne (nx := 29) (tgt := 45) dX12_two_26 rfl (by decide) (fun c_26 => ?_) (fun c_26 => ?_)
      · refine J_iconst (nx := 46) (i := 1) (v := 1) (by decide) dX12_two_45 rfl ?_
        refine J_goto (nx := 50) dX12_two_46 (by decide) ?_
        refine J_iconst (nx := 51) (i := 1) (v := 1) (by decide) dX12_two_50 rfl ?_
        refine J_thr (b := true) (nx := 54) dX12_two_51 rfl lk_X12_237 ⟨(Nat.le_of_ble_eq_true rfl), (Nat.le_of_ble_eq_true rfl)⟩ (Nat.le_of_ble_eq_true rfl) (fun b_51 => ?_) (fun b_51 => ?_)
        · refine J_if_eq (nx := 57) (tgt := 59) dX12_two_54 rfl (by decide) (fun c_54 => ?_) (fun c_54 => ?_)
          · exact absurd c_54 (by decide)
          · refine J_lconst (nx := 58) (i := 0) (v := 0) (by decide) dX12_two_57 rfl ?_
            exact Jrl dX12_two_58 rfl (Nat.zero_le _) (Nat.zero_le _) (RXl.of (Or.inl ⟨_, (by simp only [bI_is0, bI_is1, Bool.not_eq_true', Bool.not_eq_false'] at c_11 c_18 c_26; simp only [mxC, c_11, c_18, c_26, decide_true, decide_false, Bool.not_true, Bool.not_false, Bool.true_or, Bool.false_or, Bool.and_true, Bool.true_and, Bool.false_and, Bool.and_false, cond_true, cond_false]), rfl, rfl⟩))
        · exact absurd b_51 (by decide)
      · refine J_iload (nx := 31) dX12_two_29 rfl rfl ?_
        refine JcS1 (R' := rm (1) 0 0) (nx := 34) dX12_two_31 rfl ml_X12_noZone lk_X12_254 st_X12_noZone ⟨(Nat.le_of_ble_eq_true rfl), (Nat.le_of_ble_eq_true rfl)⟩ (Nat.le_of_ble_eq_true rfl) ⟨rfl, rfl⟩ (ct_m_noZone _ _) ?_
        refine J_if_ne (nx := 37) (tgt := 45) dX12_two_34 rfl (by decide) (fun c_34 => ?_) (fun c_34 => ?_)
        · refine J_iconst (nx := 46) (i := 1) (v := 1) (by decide) dX12_two_45 rfl ?_
          refine J_goto (nx := 50) dX12_two_46 (by decide) ?_
          refine J_iconst (nx := 51) (i := 1) (v := 1) (by decide) dX12_two_50 rfl ?_
          refine J_thr (b := true) (nx := 54) dX12_two_51 rfl lk_X12_237 ⟨(Nat.le_of_ble_eq_true rfl), (Nat.le_of_ble_eq_true rfl)⟩ (Nat.le_of_ble_eq_true rfl) (fun b_51 => ?_) (fun b_51 => ?_)
          · refine J_if_eq (nx := 57) (tgt := 59) dX12_two_54 rfl (by decide) (fun c_54 => ?_) (fun c_54 => ?_)
            · exact absurd c_54 (by decide)
            · refine J_lconst (nx := 58) (i := 0) (v := 0) (by decide) dX12_two_57 rfl ?_
              exact Jrl dX12_two_58 rfl (Nat.zero_le _) (Nat.zero_le _) (RXl.of (Or.inl ⟨_, (by simp only [bI_is0, bI_is1, Bool.not_eq_true', Bool.not_eq_false'] at c_11 c_18 c_26 c_34; simp only [mxC, c_11, c_18, c_26, c_34, decide_true, decide_false, Bool.not_true, Bool.not_false, Bool.true_or, Bool.false_or, Bool.and_true, Bool.true_and, Bool.false_and, Bool.and_false, cond_true, cond_false]), rfl, rfl⟩))
          · exact absurd b_51 (by decide)
        · refine J_iload (nx := 39) dX12_two_37 rfl rfl ?_
          refine JcS1 (R' := rm (1) 0 0) (nx := 42) dX12_two_39 rfl ml_X12_noState lk_X12_245 st_X12_noState ⟨(Nat.le_of_ble_eq_true rfl), (Nat.le_of_ble_eq_true rfl)⟩ (Nat.le_of_ble_eq_true rfl) ⟨rfl, rfl⟩ (ct_m_noState _ _) ?_
          refine J_if_eq (nx := 45) (tgt := 49) dX12_two_42 rfl (by decide) (fun c_42 => ?_) (fun c_42 => ?_)
          · refine J_iconst (nx := 50) (i := 0) (v := 0) (by decide) dX12_two_49 rfl ?_
            refine J_iconst (nx := 51) (i := 1) (v := 1) (by decide) dX12_two_50 rfl ?_
            refine J_thr (b := false) (nx := 54) dX12_two_51 rfl lk_X12_237 ⟨(Nat.le_of_ble_eq_true rfl), (Nat.le_of_ble_eq_true rfl)⟩ (Nat.le_of_ble_eq_true rfl) (fun b_51 => ?_) (fun b_51 => ?_)
            · exact absurd b_51 (by decide)
            · refine J_if_eq (nx := 57) (tgt := 59) dX12_two_54 rfl (by decide) (fun c_54 => ?_) (fun c_54 => ?_)
              · have HC : mxC [(wMs (gA g 64) a && fIn z 0 7 && wMs (gA g 64) c && fIn y 0 7 && fIn s 0 31, 1)] = none := (by simp only [bI_is0, bI_is1, Bool.not_eq_true', Bool.not_eq_false'] at c_11 c_18 c_26 c_34 c_42; simp only [mxC, c_11, c_18, c_26, c_34, c_42, decide_true, decide_false, Bool.not_true, Bool.not_false, Bool.true_or, Bool.false_or, Bool.and_true, Bool.true_and, Bool.false_and, Bool.and_false, cond_true, cond_false])
                have HG0 := HC
                obtain ⟨hk0, HG1⟩ := gd HG0
                simp only [Bool.and_eq_true] at hk0
                obtain ⟨⟨⟨⟨hk0_0, hk0_1⟩, hk0_2⟩, hk0_3⟩, hk0_4⟩ := hk0
                obtain ⟨qa, hqa, rfl⟩ := wMs_nat hM hk0_0
                try rw [nN_nI (n := qa) (by omega)]
                obtain ⟨qz, hqz, rfl⟩ := fIn_nat (n := 7) (by omega) hk0_1
                try rw [nN_nI (n := qz) (by omega)]
                obtain ⟨qc, hqc, rfl⟩ := wMs_nat hM hk0_2
                try rw [nN_nI (n := qc) (by omega)]
                obtain ⟨qy, hqy, rfl⟩ := fIn_nat (n := 7) (by omega) hk0_3
                try rw [nN_nI (n := qy) (by omega)]
                obtain ⟨qs, hqs, rfl⟩ := fIn_nat (n := 31) (by omega) hk0_4
                try rw [nN_nI (n := qs) (by omega)]
                refine J_aload_n (nx := 60) dX12_two_59 rfl rfl ?_
                refine J_iload_n (nx := 61) dX12_two_60 rfl rfl ?_
                refine J_iload (nx := 63) dX12_two_61 rfl rfl ?_
                refine J_aload_n (nx := 64) dX12_two_63 rfl rfl ?_
                refine J_iload_n (nx := 65) dX12_two_64 rfl rfl ?_
                refine JcV1 (R' := rm (1) 0 0) (nx := 68) dX12_two_65 rfl ml_X12_toldCard lk_X12_320 iv_X12_toldCard rfl rfl ⟨(Nat.le_of_ble_eq_true rfl), (Nat.le_of_ble_eq_true rfl)⟩ (Nat.le_of_ble_eq_true rfl) ⟨rfl, rfl⟩ (ct_m_toldCard _ (qc) (by omega)) ?_
                rw [show mSo (sF g 63 0 0) qc 0 = wTo (gA g 64) qc from rfl]
                refine JcV3 (R' := rm (3) 0 0) (nx := 71) dX12_two_68 rfl ml_X12_fouls lk_X12_323 iv_X12_fouls rfl rfl ⟨(Nat.le_of_ble_eq_true rfl), (Nat.le_of_ble_eq_true rfl)⟩ (Nat.le_of_ble_eq_true rfl) ⟨rfl, rfl⟩ (ct_m_fouls (sF g 63 0 0) qc qy (by omega) (by omega) (wTo (gA g 64) qc)) ?_
                obtain ⟨gf, hgf⟩ : ∃ gf, gf = mFo (sF g 63 0 0) qc qy (wTo (gA g 64) qc) := ⟨_, rfl⟩
                rw [← hgf]
                have hFb : FSt (gA g 64) qc qy (wTo (gA g 64) qc) gf := by rw [hgf]; exact FSt.Fo rfl
                have hWb : gA gf 64 = gA g 64 := by rw [hgf]; rfl
                have hfr1 : Fr fA aQ (sF g 63 0 0) gf := by rw [hgf]; exact Fr.mFo Fr.rf
                refine J_aload_n (nx := 72) dX12_two_71 rfl rfl ?_
                refine Jg_63_22 (nx := 75) dX12_two_72 rfl fl_X12_308 ?_
                rw [hFb.1]
                refine J_istore (nx := 77) dX12_two_75 rfl rfl (Nat.le_of_ble_eq_true rfl) ?_
                refine J_aload_n (nx := 78) dX12_two_77 rfl rfl ?_
                refine J_iload_n (nx := 79) dX12_two_78 rfl rfl ?_
                refine J_iload_n (nx := 80) dX12_two_79 rfl rfl ?_
                refine J_aload_n (nx := 81) dX12_two_80 rfl rfl ?_
                refine J_iload_n (nx := 82) dX12_two_81 rfl rfl ?_
                refine JcV1 (R' := rm (1) 0 0) (nx := 85) dX12_two_82 rfl ml_X12_toldCard lk_X12_320 iv_X12_toldCard rfl rfl ⟨(Nat.le_of_ble_eq_true rfl), (Nat.le_of_ble_eq_true rfl)⟩ (Nat.le_of_ble_eq_true rfl) ⟨rfl, rfl⟩ (ct_m_toldCard _ (qa) (by omega)) ?_
                rw [show mSo gf qa 0 = wTo (gA g 64) qa from congrFun hWb _]
                refine JcV3 (R' := rm (3) 0 0) (nx := 88) dX12_two_85 rfl ml_X12_fouls lk_X12_323 iv_X12_fouls rfl rfl ⟨(Nat.le_of_ble_eq_true rfl), (Nat.le_of_ble_eq_true rfl)⟩ (Nat.le_of_ble_eq_true rfl) ⟨rfl, rfl⟩ (ct_m_fouls gf qa qz (by omega) (by omega) (wTo (gA g 64) qa)) ?_
                obtain ⟨ge, hge⟩ : ∃ ge, ge = mFo gf qa qz (wTo (gA g 64) qa) := ⟨_, rfl⟩
                rw [← hge]
                have hF2 : FSt (gA g 64) qa qz (wTo (gA g 64) qa) ge := by rw [hge]; exact FSt.Fo hWb
                have hW2 : gA ge 64 = gA g 64 := by rw [hge]; exact hWb
                have hfr2 : Fr fA aQ (sF g 63 0 0) ge := by rw [hge]; exact Fr.mFo hfr1
                refine J_aload_n (nx := 89) dX12_two_88 rfl rfl ?_
                refine Jg_63_22 (nx := 92) dX12_two_89 rfl fl_X12_308 ?_
                rw [hF2.1]
                refine J_iload (nx := 94) dX12_two_92 rfl rfl ?_
                refine J_icmp_le (nx := 97) (tgt := 101) dX12_two_94 rfl (by decide) (fun c_94 => ?_) (fun c_94 => ?_)
                · refine J_iload (nx := 103) dX12_two_101 rfl rfl ?_
                  refine J_aload_n (nx := 104) dX12_two_103 rfl rfl ?_
                  refine Jg_63_22 (nx := 107) dX12_two_104 rfl fl_X12_308 ?_
                  rw [hF2.1]
                  refine J_icmp_le (nx := 110) (tgt := 114) dX12_two_107 rfl (by decide) (fun c_107 => ?_) (fun c_107 => ?_)
                  · refine J_iconst (nx := 115) (i := 0) (v := 0) (by decide) dX12_two_114 rfl ?_
                    refine J_istore (nx := 117) dX12_two_115 rfl rfl (Nat.le_of_ble_eq_true rfl) ?_
                    have htw : mtwW (wSw (gA g 64) qa qz (wTo (gA g 64) qa)) (wSw (gA g 64) qc qy (wTo (gA g 64) qc)) = 0 := by unfold mtwW; first | (rw [if_pos c_94, if_pos c_107]) | (rw [if_pos c_94, if_neg c_107]) | (rw [if_neg c_94])
                    refine J_iload (nx := 119) dX12_two_117 rfl rfl ?_
                    refine J_if_ne (nx := 122) (tgt := 126) dX12_two_119 rfl (by decide) (fun c_119 => ?_) (fun c_119 => ?_)
                    · refine J_iload (nx := 128) dX12_two_126 rfl rfl ?_
                      refine J_if_ne (nx := 131) (tgt := 135) dX12_two_128 rfl (by decide) (fun c_128 => ?_) (fun c_128 => ?_)
                      · exact absurd c_128 (by decide)
                      · refine J_lconst (nx := 132) (i := 0) (v := 0) (by decide) dX12_two_131 rfl ?_
                        refine J_goto (nx := 162) dX12_two_132 (by decide) ?_
                        exact Jrl dX12_two_162 rfl (Nat.zero_le _) (Nat.zero_le _) (RXl.of (Or.inr ⟨HC, by rw [bI_n0.mp c_119]; show _ = mtwV _ _ _; unfold mtwV; rw [if_neg (by rw [htw]; decide)], QF.of hfr2⟩))
                    · refine J_iload (nx := 124) dX12_two_122 rfl rfl ?_
                      refine J_i2l (nx := 125) dX12_two_124 rfl ?_
                      exact Jrl dX12_two_125 rfl (Nat.zero_le _) (Nat.zero_le _) (RXl.of (Or.inr ⟨HC, by rw [bI_0.mp c_119, htw]; rfl, QF.of hfr2⟩))
                  · refine J_iconst (nx := 111) (i := 2) (v := 2) (by decide) dX12_two_110 rfl ?_
                    refine J_goto (nx := 115) dX12_two_111 (by decide) ?_
                    refine J_istore (nx := 117) dX12_two_115 rfl rfl (Nat.le_of_ble_eq_true rfl) ?_
                    have htw : mtwW (wSw (gA g 64) qa qz (wTo (gA g 64) qa)) (wSw (gA g 64) qc qy (wTo (gA g 64) qc)) = 2 := by unfold mtwW; first | (rw [if_pos c_94, if_pos c_107]) | (rw [if_pos c_94, if_neg c_107]) | (rw [if_neg c_94])
                    refine J_iload (nx := 119) dX12_two_117 rfl rfl ?_
                    refine J_if_ne (nx := 122) (tgt := 126) dX12_two_119 rfl (by decide) (fun c_119 => ?_) (fun c_119 => ?_)
                    · refine J_iload (nx := 128) dX12_two_126 rfl rfl ?_
                      refine J_if_ne (nx := 131) (tgt := 135) dX12_two_128 rfl (by decide) (fun c_128 => ?_) (fun c_128 => ?_)
                      · refine J_iload (nx := 137) dX12_two_135 rfl rfl ?_
                        refine J_iconst (nx := 138) (i := 2) (v := 2) (by decide) dX12_two_137 rfl ?_
                        refine J_icmp_ne (nx := 141) (tgt := 148) dX12_two_138 rfl (by decide) (fun c_138 => ?_) (fun c_138 => ?_)
                        · exact absurd c_138 (by decide)
                        · refine J_iload (nx := 143) dX12_two_141 rfl rfl ?_
                          refine J_ineg (nx := 144) dX12_two_143 rfl ?_
                          refine J_i2l (nx := 145) dX12_two_144 rfl ?_
                          refine J_goto (nx := 162) dX12_two_145 (by decide) ?_
                          exact Jrl dX12_two_162 rfl (Nat.zero_le _) (Nat.zero_le _) (RXl.of (Or.inr ⟨HC, by rw [bI_n0.mp c_119]; show _ = mtwV _ _ _; unfold mtwV; rw [if_pos (by rw [htw]; decide), if_neg (by rw [htw]; decide)], QF.of hfr2⟩))
                      · exact absurd c_128 (by decide)
                    · refine J_iload (nx := 124) dX12_two_122 rfl rfl ?_
                      refine J_i2l (nx := 125) dX12_two_124 rfl ?_
                      exact Jrl dX12_two_125 rfl (Nat.zero_le _) (Nat.zero_le _) (RXl.of (Or.inr ⟨HC, by rw [bI_0.mp c_119, htw]; rfl, QF.of hfr2⟩))
                · refine J_iconst (nx := 98) (i := 1) (v := 1) (by decide) dX12_two_97 rfl ?_
                  refine J_goto (nx := 115) dX12_two_98 (by decide) ?_
                  refine J_istore (nx := 117) dX12_two_115 rfl rfl (Nat.le_of_ble_eq_true rfl) ?_
                  have htw : mtwW (wSw (gA g 64) qa qz (wTo (gA g 64) qa)) (wSw (gA g 64) qc qy (wTo (gA g 64) qc)) = 1 := by unfold mtwW; first | (rw [if_pos c_94, if_pos c_107]) | (rw [if_pos c_94, if_neg c_107]) | (rw [if_neg c_94])
                  refine J_iload (nx := 119) dX12_two_117 rfl rfl ?_
                  refine J_if_ne (nx := 122) (tgt := 126) dX12_two_119 rfl (by decide) (fun c_119 => ?_) (fun c_119 => ?_)
                  · refine J_iload (nx := 128) dX12_two_126 rfl rfl ?_
                    refine J_if_ne (nx := 131) (tgt := 135) dX12_two_128 rfl (by decide) (fun c_128 => ?_) (fun c_128 => ?_)
                    · refine J_iload (nx := 137) dX12_two_135 rfl rfl ?_
                      refine J_iconst (nx := 138) (i := 2) (v := 2) (by decide) dX12_two_137 rfl ?_
                      refine J_icmp_ne (nx := 141) (tgt := 148) dX12_two_138 rfl (by decide) (fun c_138 => ?_) (fun c_138 => ?_)
                      · refine J_aload_n (nx := 149) dX12_two_148 rfl rfl ?_
                        refine J_iload_n (nx := 150) dX12_two_149 rfl rfl ?_
                        refine J_iload_n (nx := 151) dX12_two_150 rfl rfl ?_
                        refine J_iload (nx := 153) dX12_two_151 rfl rfl ?_
                        refine J_aload_n (nx := 154) dX12_two_153 rfl rfl ?_
                        refine Jg_63_1 (nx := 157) dX12_two_154 rfl fl_X12_13 ?_
                        refine J_iconst (nx := 158) (i := 4) (v := 4) (by decide) dX12_two_157 rfl ?_
                        refine Ja_64 (nx := 159) dX12_two_158 rfl (vpE (n := 4) (nIc 4) (by omega) (by decide)) ?_
                        rw [clE (n := 4) (nIc 4) (by omega)]
                        rw [show gA ge 64 4 = nI (mG (gA g 64)) from (congrFun hW2 4).trans hG]
                        refine JlV4 (R' := rm (5) 0 0) (nx := 162) dX12_two_159 rfl ml_X12_bestBy lk_X12_351 iv_X12_bestBy rfl rfl ⟨(Nat.le_of_ble_eq_true rfl), (Nat.le_of_ble_eq_true rfl)⟩ (Nat.le_of_ble_eq_true rfl) ⟨rfl, rfl⟩ (ct_m_bestBy ge (gA g 64) gl rl hW2 hM qa qz qs (mG (gA g 64)) (by omega) (by omega) (by omega) hG10) (fun x_159 g_159 p_159 => ?_)
                        exact Jrl dX12_two_162 rfl (Nat.zero_le _) (Nat.zero_le _) (RXl.of (Or.inr ⟨HC, by rw [bI_n0.mp c_119]; show _ = mtwV _ _ _; unfold mtwV; rw [if_pos (by rw [htw]; decide), if_pos (by rw [htw]; decide), p_159.1], QF.of (hfr2.tr p_159.2)⟩))
                      · exact absurd c_138 (by decide)
                    · exact absurd c_128 (by decide)
                  · refine J_iload (nx := 124) dX12_two_122 rfl rfl ?_
                    refine J_i2l (nx := 125) dX12_two_124 rfl ?_
                    exact Jrl dX12_two_125 rfl (Nat.zero_le _) (Nat.zero_le _) (RXl.of (Or.inr ⟨HC, by rw [bI_0.mp c_119, htw]; rfl, QF.of hfr2⟩))
              · exact absurd c_54 (by decide)
          · refine J_iconst (nx := 46) (i := 1) (v := 1) (by decide) dX12_two_45 rfl ?_
            refine J_goto (nx := 50) dX12_two_46 (by decide) ?_
            refine J_iconst (nx := 51) (i := 1) (v := 1) (by decide) dX12_two_50 rfl ?_
            refine J_thr (b := true) (nx := 54) dX12_two_51 rfl lk_X12_237 ⟨(Nat.le_of_ble_eq_true rfl), (Nat.le_of_ble_eq_true rfl)⟩ (Nat.le_of_ble_eq_true rfl) (fun b_51 => ?_) (fun b_51 => ?_)
            · refine J_if_eq (nx := 57) (tgt := 59) dX12_two_54 rfl (by decide) (fun c_54 => ?_) (fun c_54 => ?_)
              · exact absurd c_54 (by decide)
              · refine J_lconst (nx := 58) (i := 0) (v := 0) (by decide) dX12_two_57 rfl ?_
                exact Jrl dX12_two_58 rfl (Nat.zero_le _) (Nat.zero_le _) (RXl.of (Or.inl ⟨_, (by simp only [bI_is0, bI_is1, Bool.not_eq_true', Bool.not_eq_false'] at c_11 c_18 c_26 c_34 c_42; simp only [mxC, c_11, c_18, c_26, c_34, c_42, decide_true, decide_false, Bool.not_true, Bool.not_false, Bool.true_or, Bool.false_or, Bool.and_true, Bool.true_and, Bool.false_and, Bool.and_false, cond_true, cond_false]), rfl, rfl⟩))
            · exact absurd b_51 (by decide)

def mlnV (a c t k : Nat) : Int64 := chV a (nI k) * chV c (nI t - nI k)
set_option maxRecDepth 100000 in
set_option maxHeartbeats 4000000 in
theorem lp_m_leans (g : GS) (a c t k0 : Nat) (ha : a ≤ 30) (hc : c ≤ 30) (ht : t ≤ 60) (hk0 : k0 ≤ a) (x2 x4 x5 : Int32) (n0 : Nat) : ∀ (k : Nat) (n : Nat), k0 + n + k = a + 1 → J mX12_leans (rm 2 0 0) (RXl (fun x g2 => x = acL 0 (fun n => mlnV a c t (k0 + n)) (a + 1 - k0) ∧ g2 = g)) n0 80 [some (.ref 63), some (.int (nI (a))), some (.int x2), some (.int (nI (c))), some (.int x4), some (.int x5), some (.int (nI (t))), some (.long (acL 0 (fun n => mlnV a c t (k0 + n)) n)), none, some (.int (nI (k0 + n)))] [] (Wd g) 0 0 := by
  intro k
  induction k with
  | zero =>
    intro n hk
    refine J_iload (nx := 82) dX12_leans_80 rfl rfl ?_
    refine J_iload_n (nx := 83) dX12_leans_82 rfl rfl ?_
    refine J_icmp_gt (nx := 86) (tgt := 113) dX12_leans_83 rfl (by decide) (fun c_83 => ?_) (fun c_83 => ?_)
    · refine J_lload (nx := 115) dX12_leans_113 rfl rfl ?_
      exact Jrl dX12_leans_115 rfl (Nat.zero_le _) (Nat.zero_le _) (RXl.of ⟨by rw [show a + 1 - k0 = n by omega], rfl⟩)
    · exact absurd (nI_ltn (a := a) (b := k0 + n) (by omega) (by omega)) c_83
  | succ k ih =>
    intro n hk
    refine J_iload (nx := 82) dX12_leans_80 rfl rfl ?_
    refine J_iload_n (nx := 83) dX12_leans_82 rfl rfl ?_
    refine J_icmp_gt (nx := 86) (tgt := 113) dX12_leans_83 rfl (by decide) (fun c_83 => ?_) (fun c_83 => ?_)
    · exact absurd (nI_ltd (a := a) (b := k0 + n) (by omega) (by omega) c_83) (by omega)
    · refine J_lload (nx := 88) dX12_leans_86 rfl rfl ?_
      refine J_iload_n (nx := 89) dX12_leans_88 rfl rfl ?_
      refine J_iload (nx := 91) dX12_leans_89 rfl rfl ?_
      refine JcS2 (R' := rm (0) 0 0) (nx := 94) dX12_leans_91 rfl ml_X12_choices lk_X12_374 st_X12_choices ⟨(Nat.le_of_ble_eq_true rfl), (Nat.le_of_ble_eq_true rfl)⟩ (Nat.le_of_ble_eq_true rfl) ⟨rfl, rfl⟩ (ct_m_choices _ a (nI (k0 + n)) (by omega)) ?_
      refine J_iload_n (nx := 95) dX12_leans_94 rfl rfl ?_
      refine J_iload (nx := 97) dX12_leans_95 rfl rfl ?_
      refine J_iload (nx := 99) dX12_leans_97 rfl rfl ?_
      refine J_isub (nx := 100) dX12_leans_99 rfl ?_
      skip
      refine JcS2 (R' := rm (0) 0 0) (nx := 103) dX12_leans_100 rfl ml_X12_choices lk_X12_374 st_X12_choices ⟨(Nat.le_of_ble_eq_true rfl), (Nat.le_of_ble_eq_true rfl)⟩ (Nat.le_of_ble_eq_true rfl) ⟨rfl, rfl⟩ (ct_m_choices _ c (nI t - nI (k0 + n)) (by omega)) ?_
      refine J_lmul (nx := 104) dX12_leans_103 rfl ?_
      refine J_ladd (nx := 105) dX12_leans_104 rfl ?_
      refine J_lstore (nx := 107) dX12_leans_105 rfl rfl (Nat.le_of_ble_eq_true rfl) ?_
      refine J_iinc (nx := 110) dX12_leans_107 rfl rfl rfl (Nat.le_of_ble_eq_true rfl) ?_
      refine J_goto (nx := 80) dX12_leans_110 (by decide) ?_
      rw [show (nI ((k0 + n)) + Int32.ofInt 1) = nI (k0 + (n + 1)) from (show nI ((k0 + n)) + Int32.ofInt 1 = nI ((k0 + n) + 1) from nI_add ((k0 + n)) 1)]
      exact ih (n + 1) (by omega)

set_option maxRecDepth 100000 in
set_option maxHeartbeats 4000000 in
theorem ct_m_leans (g : GS) (a : Int32) (i : Int32) (c : Int32) (j : Int32) (al : Bool) : Ct mX12_leans (rm 2 0 0) [.ref 63, .int a, .int i, .int c, .int j, .int (bI al)] (Wd g) (PQl g [(fIn a 0 30 && fIn c 0 30 && fIn i 0 a && fIn j 0 c, 1)] (fun x g2 => x = acL 0 (fun n => mlnV (nN a) (nN c) (nN i + nN j) ((bif al then 0 else nN i) + n)) (nN a + 1 - (bif al then 0 else nN i)) ∧ g2 = (sF g 63 0 0))) := by
  refine Ct.of (by decide +kernel) (Nat.le_of_ble_eq_true rfl) ?_
  show J _ _ _ _ 0 [some (.ref 63), some (.int a), some (.int i), some (.int c), some (.int j), some (.int (bI al)), none, none, none, none] [] _ 0 0
  refine J_aload_n (nx := 1) dX12_leans_0 rfl rfl ?_
  refine J_iconst (nx := 2) (i := 0) (v := 0) (by decide) dX12_leans_1 rfl ?_
  refine Jp_63_0 (nx := 5) dX12_leans_2 rfl fl_X12_3 ?_
  refine J_aload_n (nx := 6) dX12_leans_5 rfl rfl ?_
  refine J_iload_n (nx := 7) dX12_leans_6 rfl rfl ?_
  refine J_iconst (nx := 8) (i := 0) (v := 0) (by decide) dX12_leans_7 rfl ?_
  refine J_bipush (nx := 10) (i := 30) (v := 30) (by decide) dX12_leans_8 rfl ?_
  refine JcS3 (R' := rm (0) 0 0) (nx := 13) dX12_leans_10 rfl ml_X12_in lk_X12_77 st_X12_in ⟨(Nat.le_of_ble_eq_true rfl), (Nat.le_of_ble_eq_true rfl)⟩ (Nat.le_of_ble_eq_true rfl) ⟨rfl, rfl⟩ (ct_m_in _ _ _ _) ?_
  refine J_if_eq (nx := 16) (tgt := 45) dX12_leans_13 rfl (by decide) (fun c_13 => ?_) (fun c_13 => ?_)
  · refine J_iconst (nx := 46) (i := 1) (v := 1) (by decide) dX12_leans_45 rfl ?_
    refine J_goto (nx := 50) dX12_leans_46 (by decide) ?_
    refine J_iconst (nx := 51) (i := 1) (v := 1) (by decide) dX12_leans_50 rfl ?_
    refine J_thr (b := true) (nx := 54) dX12_leans_51 rfl lk_X12_237 ⟨(Nat.le_of_ble_eq_true rfl), (Nat.le_of_ble_eq_true rfl)⟩ (Nat.le_of_ble_eq_true rfl) (fun b_51 => ?_) (fun b_51 => ?_)
    · refine J_if_eq (nx := 57) (tgt := 59) dX12_leans_54 rfl (by decide) (fun c_54 => ?_) (fun c_54 => ?_)
      · exact absurd c_54 (by decide)
      · refine J_lconst (nx := 58) (i := 0) (v := 0) (by decide) dX12_leans_57 rfl ?_
        exact Jrl dX12_leans_58 rfl (Nat.zero_le _) (Nat.zero_le _) (RXl.of (Or.inl ⟨_, (by simp only [bI_is0, bI_is1, Bool.not_eq_true', Bool.not_eq_false'] at c_13; simp only [mxC, c_13, decide_true, decide_false, Bool.not_true, Bool.not_false, Bool.true_or, Bool.false_or, Bool.and_true, Bool.true_and, Bool.false_and, Bool.and_false, cond_true, cond_false]), rfl, rfl⟩))
    · exact absurd b_51 (by decide)
  · refine J_iload_n (nx := 17) dX12_leans_16 rfl rfl ?_
    refine J_iconst (nx := 18) (i := 0) (v := 0) (by decide) dX12_leans_17 rfl ?_
    refine J_bipush (nx := 20) (i := 30) (v := 30) (by decide) dX12_leans_18 rfl ?_
    refine JcS3 (R' := rm (0) 0 0) (nx := 23) dX12_leans_20 rfl ml_X12_in lk_X12_77 st_X12_in ⟨(Nat.le_of_ble_eq_true rfl), (Nat.le_of_ble_eq_true rfl)⟩ (Nat.le_of_ble_eq_true rfl) ⟨rfl, rfl⟩ (ct_m_in _ _ _ _) ?_
    refine J_if_eq (nx := 26) (tgt := 45) dX12_leans_23 rfl (by decide) (fun c_23 => ?_) (fun c_23 => ?_)
    · refine J_iconst (nx := 46) (i := 1) (v := 1) (by decide) dX12_leans_45 rfl ?_
      refine J_goto (nx := 50) dX12_leans_46 (by decide) ?_
      refine J_iconst (nx := 51) (i := 1) (v := 1) (by decide) dX12_leans_50 rfl ?_
      refine J_thr (b := true) (nx := 54) dX12_leans_51 rfl lk_X12_237 ⟨(Nat.le_of_ble_eq_true rfl), (Nat.le_of_ble_eq_true rfl)⟩ (Nat.le_of_ble_eq_true rfl) (fun b_51 => ?_) (fun b_51 => ?_)
      · refine J_if_eq (nx := 57) (tgt := 59) dX12_leans_54 rfl (by decide) (fun c_54 => ?_) (fun c_54 => ?_)
        · exact absurd c_54 (by decide)
        · refine J_lconst (nx := 58) (i := 0) (v := 0) (by decide) dX12_leans_57 rfl ?_
          exact Jrl dX12_leans_58 rfl (Nat.zero_le _) (Nat.zero_le _) (RXl.of (Or.inl ⟨_, (by simp only [bI_is0, bI_is1, Bool.not_eq_true', Bool.not_eq_false'] at c_13 c_23; simp only [mxC, c_13, c_23, decide_true, decide_false, Bool.not_true, Bool.not_false, Bool.true_or, Bool.false_or, Bool.and_true, Bool.true_and, Bool.false_and, Bool.and_false, cond_true, cond_false]), rfl, rfl⟩))
      · exact absurd b_51 (by decide)
    · refine J_iload_n (nx := 27) dX12_leans_26 rfl rfl ?_
      refine J_iconst (nx := 28) (i := 0) (v := 0) (by decide) dX12_leans_27 rfl ?_
      refine J_iload_n (nx := 29) dX12_leans_28 rfl rfl ?_
      refine JcS3 (R' := rm (0) 0 0) (nx := 32) dX12_leans_29 rfl ml_X12_in lk_X12_77 st_X12_in ⟨(Nat.le_of_ble_eq_true rfl), (Nat.le_of_ble_eq_true rfl)⟩ (Nat.le_of_ble_eq_true rfl) ⟨rfl, rfl⟩ (ct_m_in _ _ _ _) ?_
      refine J_if_eq (nx := 35) (tgt := 45) dX12_leans_32 rfl (by decide) (fun c_32 => ?_) (fun c_32 => ?_)
      · refine J_iconst (nx := 46) (i := 1) (v := 1) (by decide) dX12_leans_45 rfl ?_
        refine J_goto (nx := 50) dX12_leans_46 (by decide) ?_
        refine J_iconst (nx := 51) (i := 1) (v := 1) (by decide) dX12_leans_50 rfl ?_
        refine J_thr (b := true) (nx := 54) dX12_leans_51 rfl lk_X12_237 ⟨(Nat.le_of_ble_eq_true rfl), (Nat.le_of_ble_eq_true rfl)⟩ (Nat.le_of_ble_eq_true rfl) (fun b_51 => ?_) (fun b_51 => ?_)
        · refine J_if_eq (nx := 57) (tgt := 59) dX12_leans_54 rfl (by decide) (fun c_54 => ?_) (fun c_54 => ?_)
          · exact absurd c_54 (by decide)
          · refine J_lconst (nx := 58) (i := 0) (v := 0) (by decide) dX12_leans_57 rfl ?_
            exact Jrl dX12_leans_58 rfl (Nat.zero_le _) (Nat.zero_le _) (RXl.of (Or.inl ⟨_, (by simp only [bI_is0, bI_is1, Bool.not_eq_true', Bool.not_eq_false'] at c_13 c_23 c_32; simp only [mxC, c_13, c_23, c_32, decide_true, decide_false, Bool.not_true, Bool.not_false, Bool.true_or, Bool.false_or, Bool.and_true, Bool.true_and, Bool.false_and, Bool.and_false, cond_true, cond_false]), rfl, rfl⟩))
        · exact absurd b_51 (by decide)
      · refine J_iload (nx := 37) dX12_leans_35 rfl rfl ?_
        refine J_iconst (nx := 38) (i := 0) (v := 0) (by decide) dX12_leans_37 rfl ?_
        refine J_iload_n (nx := 39) dX12_leans_38 rfl rfl ?_
        refine JcS3 (R' := rm (0) 0 0) (nx := 42) dX12_leans_39 rfl ml_X12_in lk_X12_77 st_X12_in ⟨(Nat.le_of_ble_eq_true rfl), (Nat.le_of_ble_eq_true rfl)⟩ (Nat.le_of_ble_eq_true rfl) ⟨rfl, rfl⟩ (ct_m_in _ _ _ _) ?_
        refine J_if_ne (nx := 45) (tgt := 49) dX12_leans_42 rfl (by decide) (fun c_42 => ?_) (fun c_42 => ?_)
        · refine J_iconst (nx := 50) (i := 0) (v := 0) (by decide) dX12_leans_49 rfl ?_
          refine J_iconst (nx := 51) (i := 1) (v := 1) (by decide) dX12_leans_50 rfl ?_
          refine J_thr (b := false) (nx := 54) dX12_leans_51 rfl lk_X12_237 ⟨(Nat.le_of_ble_eq_true rfl), (Nat.le_of_ble_eq_true rfl)⟩ (Nat.le_of_ble_eq_true rfl) (fun b_51 => ?_) (fun b_51 => ?_)
          · exact absurd b_51 (by decide)
          · refine J_if_eq (nx := 57) (tgt := 59) dX12_leans_54 rfl (by decide) (fun c_54 => ?_) (fun c_54 => ?_)
            · have HC : mxC [(fIn a 0 30 && fIn c 0 30 && fIn i 0 a && fIn j 0 c, 1)] = none := (by simp only [bI_is0, bI_is1, Bool.not_eq_true', Bool.not_eq_false'] at c_13 c_23 c_32 c_42; simp only [mxC, c_13, c_23, c_32, c_42, decide_true, decide_false, Bool.not_true, Bool.not_false, Bool.true_or, Bool.false_or, Bool.and_true, Bool.true_and, Bool.false_and, Bool.and_false, cond_true, cond_false])
              have HG0 := HC
              obtain ⟨hk0, HG1⟩ := gd HG0
              simp only [Bool.and_eq_true] at hk0
              obtain ⟨⟨⟨hk0_0, hk0_1⟩, hk0_2⟩, hk0_3⟩ := hk0
              obtain ⟨qa, hqa, rfl⟩ := fIn_nat (n := 30) (by omega) hk0_0
              try rw [nN_nI (n := qa) (by omega)]
              obtain ⟨qc, hqc, rfl⟩ := fIn_nat (n := 30) (by omega) hk0_1
              try rw [nN_nI (n := qc) (by omega)]
              obtain ⟨qi, hqi, rfl⟩ := fIn_nat (n := qa) (by omega) hk0_2
              try rw [nN_nI (n := qi) (by omega)]
              obtain ⟨qj, hqj, rfl⟩ := fIn_nat (n := qc) (by omega) hk0_3
              try rw [nN_nI (n := qj) (by omega)]
              refine J_iload_n (nx := 60) dX12_leans_59 rfl rfl ?_
              refine J_iload (nx := 62) dX12_leans_60 rfl rfl ?_
              refine J_iadd (nx := 63) dX12_leans_62 rfl ?_
              rw [show (nI (qi) + nI (qj)) = nI ((qi + qj)) from (nIa (Eq.refl (nI (qi))) (Eq.refl (nI (qj))))]
              refine J_istore (nx := 65) dX12_leans_63 rfl rfl (Nat.le_of_ble_eq_true rfl) ?_
              refine J_lconst (nx := 66) (i := 0) (v := 0) (by decide) dX12_leans_65 rfl ?_
              refine J_lstore (nx := 68) dX12_leans_66 rfl rfl (Nat.le_of_ble_eq_true rfl) ?_
              refine J_iload (nx := 70) dX12_leans_68 rfl rfl ?_
              refine J_if_eq (nx := 73) (tgt := 77) dX12_leans_70 rfl (by decide) (fun c_70 => ?_) (fun c_70 => ?_)
              · refine J_iload_n (nx := 78) dX12_leans_77 rfl rfl ?_
                refine J_istore (nx := 80) dX12_leans_78 rfl rfl (Nat.le_of_ble_eq_true rfl) ?_
                rw [show nI ((qi + qj)) = nI (qi + qj) from (Eq.refl (nI ((qi + qj))))]
                refine J.post (lp_m_leans (sF g 63 0 0) qa qc (qi + qj) qi (by omega) (by omega) (by omega) (by omega) _ _ _ _ (qa + 1 - qi) 0 (by omega)) (fun r es h => ?_)
                obtain ⟨x, g2, hr, he, hx, hf⟩ := h
                exact ⟨x, g2, hr, he, Or.inr ⟨HC, by rw [bI_0.mp c_70]; exact hx, hf⟩⟩
              · refine J_iconst (nx := 74) (i := 0) (v := 0) (by decide) dX12_leans_73 rfl ?_
                refine J_goto (nx := 78) dX12_leans_74 (by decide) ?_
                refine J_istore (nx := 80) dX12_leans_78 rfl rfl (Nat.le_of_ble_eq_true rfl) ?_
                rw [show nI ((qi + qj)) = nI (qi + qj) from (Eq.refl (nI ((qi + qj))))]
                refine J.post (lp_m_leans (sF g 63 0 0) qa qc (qi + qj) 0 (by omega) (by omega) (by omega) (by omega) _ _ _ _ (qa + 1 - 0) 0 (by omega)) (fun r es h => ?_)
                obtain ⟨x, g2, hr, he, hx, hf⟩ := h
                exact ⟨x, g2, hr, he, Or.inr ⟨HC, by rw [bI_n0.mp c_70]; exact hx, hf⟩⟩
            · exact absurd c_54 (by decide)
        · refine J_iconst (nx := 46) (i := 1) (v := 1) (by decide) dX12_leans_45 rfl ?_
          refine J_goto (nx := 50) dX12_leans_46 (by decide) ?_
          refine J_iconst (nx := 51) (i := 1) (v := 1) (by decide) dX12_leans_50 rfl ?_
          refine J_thr (b := true) (nx := 54) dX12_leans_51 rfl lk_X12_237 ⟨(Nat.le_of_ble_eq_true rfl), (Nat.le_of_ble_eq_true rfl)⟩ (Nat.le_of_ble_eq_true rfl) (fun b_51 => ?_) (fun b_51 => ?_)
          · refine J_if_eq (nx := 57) (tgt := 59) dX12_leans_54 rfl (by decide) (fun c_54 => ?_) (fun c_54 => ?_)
            · exact absurd c_54 (by decide)
            · refine J_lconst (nx := 58) (i := 0) (v := 0) (by decide) dX12_leans_57 rfl ?_
              exact Jrl dX12_leans_58 rfl (Nat.zero_le _) (Nat.zero_le _) (RXl.of (Or.inl ⟨_, (by simp only [bI_is0, bI_is1, Bool.not_eq_true', Bool.not_eq_false'] at c_13 c_23 c_32 c_42; simp only [mxC, c_13, c_23, c_32, c_42, decide_true, decide_false, Bool.not_true, Bool.not_false, Bool.true_or, Bool.false_or, Bool.and_true, Bool.true_and, Bool.false_and, Bool.and_false, cond_true, cond_false]), rfl, rfl⟩))
          · exact absurd b_51 (by decide)


def KOK (W : Nat → Int32) (rl : Nat → List TxL) : Prop := ∀ r, r < mR W → ∀ l, l ∈ rl r → l.1 = 0 ∨ l.1 = 1 ∨ l.1 = 2
theorem txDo_kind {F : Nat → Int32} : ∀ (ls : List TxL), (∀ l, l ∈ ls → l.1 = 0 ∨ l.1 = 1 ∨ l.1 = 2) → txDo F ls = 0 ∨ txDo F ls = 1 ∨ txDo F ls = 2 := by
  intro ls
  induction ls with
  | nil => intro _; exact Or.inr (Or.inr rfl)
  | cons l r ih =>
    intro h
    show (if txH F l.2.2.2 = false then txDo F r else l.1) = 0 ∨ (if txH F l.2.2.2 = false then txDo F r else l.1) = 1 ∨ (if txH F l.2.2.2 = false then txDo F r else l.1) = 2
    by_cases c : txH F l.2.2.2 = false
    · rw [if_pos c]; exact ih (fun l hl => h l (by simp [hl]))
    · rw [if_neg c]; exact h l (by simp)
theorem mA0_kind {jd b sy : Int32} {s : Nat} (h : jd < 100 → ¬ jd < 5 → sy = 0 ∨ sy = 1 ∨ sy = 2) : mA0 jd b s sy = 0 ∨ mA0 jd b s sy = 1 ∨ mA0 jd b s sy = 2 := by
  unfold mA0
  split
  · split
    · split
      · split
        · rename_i h1
          split
          · exact Or.inr (Or.inr rfl)
          · rename_i h2; exact h h1 h2
        · split
          · exact Or.inl rfl
          · split
            · exact Or.inr (Or.inr rfl)
            · exact Or.inl rfl
      · split
        · exact Or.inl rfl
        · exact Or.inr (Or.inr rfl)
    · exact Or.inr (Or.inl rfl)
  · exact Or.inl rfl
theorem mA1_kind {jd sw a : Int32} {o1 wt : Int64} (h : a = 0 ∨ a = 1 ∨ a = 2) : mA1 jd sw o1 wt a = 0 ∨ mA1 jd sw o1 wt a = 1 ∨ mA1 jd sw o1 wt a = 2 := by
  unfold mA1
  split
  · exact h
  · split
    · split
      · exact Or.inr (Or.inr rfl)
      · exact Or.inr (Or.inl rfl)
    · split
      · split
        · exact Or.inr (Or.inr rfl)
        · exact Or.inr (Or.inl rfl)
      · exact Or.inl rfl
theorem mA2_kind {jd sw a : Int32} {e : Bool} {o1 : Int64} (h : a = 0 ∨ a = 1 ∨ a = 2) : mA2 jd sw e o1 a = 0 ∨ mA2 jd sw e o1 a = 1 ∨ mA2 jd sw e o1 a = 2 := by
  unfold mA2
  split
  · exact h
  · split
    · exact h
    · split
      · exact Or.inr (Or.inl rfl)
      · exact Or.inl rfl
theorem ja_kind {W : Nat → Int32} {gl : List TxL} {rl : Nat → List TxL} {m : Int32} {k z : Nat} {told jd b : Int32} {G : Nat} (hR : mR W ≤ 4) (hj : jdOK W jd) (hk : KOK W rl) (j s : Nat) (e : Bool) (wt : Int64) : mA2 jd (wSw W k z told) e (jO1 (mJP W gl rl m k z told jd b G) j s) (mA1 jd (wSw W k z told) (jO1 (mJP W gl rl m k z told jd b G) j s) wt (mA0 jd b s (mSy W rl m k z jd j s))) = 0 ∨ mA2 jd (wSw W k z told) e (jO1 (mJP W gl rl m k z told jd b G) j s) (mA1 jd (wSw W k z told) (jO1 (mJP W gl rl m k z told jd b G) j s) wt (mA0 jd b s (mSy W rl m k z jd j s))) = 1 ∨ mA2 jd (wSw W k z told) e (jO1 (mJP W gl rl m k z told jd b G) j s) (mA1 jd (wSw W k z told) (jO1 (mJP W gl rl m k z told jd b G) j s) wt (mA0 jd b s (mSy W rl m k z jd j s))) = 2 := by
  refine mA2_kind (mA1_kind (mA0_kind (fun h1 h2 => ?_)))
  obtain ⟨r, hr, he⟩ := hj h1 h2
  unfold mSy
  rw [he]
  refine txDo_kind _ (hk _ ?_)
  rw [nI_clamp (by omega)]; exact hr
theorem ja_end {W : Nat → Int32} {gl : List TxL} {rl : Nat → List TxL} {m : Int32} {k z : Nat} {told jd b : Int32} {G : Nat} (hR : mR W ≤ 4) (hj : jdOK W jd) (hk : KOK W rl) (s : Nat) : ja (mJP W gl rl m k z told jd b G) G s = 0 ∨ ja (mJP W gl rl m k z told jd b G) G s = 1 := by
  have e : ja (mJP W gl rl m k z told jd b G) G s = mA3 true (mA2 jd (wSw W k z told) true (jO1 (mJP W gl rl m k z told jd b G) G s) (mA1 jd (wSw W k z told) (jO1 (mJP W gl rl m k z told jd b G) G s) (jWt (mJP W gl rl m k z told jd b G) 0 s) (mA0 jd b s (mSy W rl m k z jd G s)))) := by
    unfold ja
    rw [show jG (mJP W gl rl m k z told jd b G) - G = 0 from Nat.sub_self G]
    rfl
  rw [e]
  unfold mA3
  rw [if_neg (show ¬ bI true = 0 by decide)]
  rcases ja_kind (gl := gl) (m := m) (k := k) (z := z) (told := told) (b := b) (G := G) hR hj hk G s true (jWt (mJP W gl rl m k z told jd b G) 0 s) with h | h | h
  · rw [h]; exact Or.inl rfl
  · rw [h]; exact Or.inr rfl
  · rw [h]; exact Or.inr rfl

theorem aQ_789 (c : Nat) (h : aQ c = false) : a789 c = false := by
  cases e : a789 c with
  | false => rfl
  | true => unfold a789 at e; rw [Bool.or_eq_true, Nat.beq_eq, Nat.beq_eq] at e; rcases e with rfl | rfl <;> exact absurd h (by decide)
theorem fQ_31 (c k : Nat) (h : fQ c k = false) : f31 c k = false := by
  unfold fQ at h; unfold f31; revert h
  cases Nat.beq c 63 <;> cases Nat.beq k 0 <;> cases Nat.beq k 31 <;> simp
theorem QF.tr31 {g g1 g2 : GS} (h : QF g g1) (h2 : Fr f31 aNo g1 g2) : QF g g2 := ⟨h.1.tr (h2.mono fQ_31 (fun _ _ => rfl)), (h2.1 63 0 rfl).trans h.2⟩
theorem QF.s31 {g g1 : GS} {v : Int32} (h : QF g g1) : QF g (sF g1 63 31 v) := ⟨Fr.sF h.1 rfl, h.2⟩
theorem QF.trA {g g1 g2 : GS} (h : QF g g1) (h2 : Fr fA aQ g1 g2) : QF g g2 := ⟨h.1.tr (h2.mono fQ_A (fun _ h => h)), (h2.1 63 0 rfl).trans h.2⟩
theorem jA_end {W : Nat → Int32} {gl : List TxL} {rl : Nat → List TxL} {m : Int32} {k z : Nat} {told jd b : Int32} (hM : MOK W gl rl) (hj : jdOK W jd) (hk : KOK W rl) : ∀ s, s < 32 → ja (mJP W gl rl m k z told jd b (mG W)) (mG W) s = 0 ∨ ja (mJP W gl rl m k z told jd b (mG W)) (mG W) s = 1 := fun s _ => ja_end hM.2.2.1.1 hj hk s
set_option maxRecDepth 100000 in
set_option maxHeartbeats 4000000 in
theorem ct_m_played (g : GS) (gl : List TxL) (rl : Nat → List TxL) (hM : MOK (gA g 64) gl rl) (hkd : KOK (gA g 64) rl) (jd : Int32) (b : Int32) (k : Int32) (z : Int32) (s : Int32) (seed : Int32) : Ct mX12_played (rm 6 0 0) [.ref 63, .int jd, .int b, .int k, .int z, .int s, .int seed] (Wd g) (PQi g [(wMj (gA g 64) jd && wMs (gA g 64) k && fIn z 0 7 && fIn s 0 31, 1), (fMb jd b, 2)] (fun x g2 => x = (mpF (gA g 64) (ja (mJP (gA g 64) gl rl (gA g 64 6) (nN k) (nN z) (wTo (gA g 64) (nN k)) jd b (mG (gA g 64)))) (mT (gA g 64)) 0 (nN s) false seed).1 ∧ QF g g2)) := by
  have hM2 := hM
  obtain ⟨⟨hG10, hG⟩, ⟨hT1, hT60, hT⟩, ⟨hR4, hR, hrl⟩, ⟨hN6, hN⟩, hgl, hgk⟩ := hM2
  refine Ct.of (by decide +kernel) (Nat.le_of_ble_eq_true rfl) ?_
  show J _ _ _ _ 0 [some (.ref 63), some (.int jd), some (.int b), some (.int k), some (.int z), some (.int s), some (.int seed)] [] _ 0 0
  refine J_aload_n (nx := 1) dX12_played_0 rfl rfl ?_
  refine J_iconst (nx := 2) (i := 0) (v := 0) (by decide) dX12_played_1 rfl ?_
  refine Jp_63_0 (nx := 5) dX12_played_2 rfl fl_X12_3 ?_
  refine J_aload_n (nx := 6) dX12_played_5 rfl rfl ?_
  refine J_aload_n (nx := 7) dX12_played_6 rfl rfl ?_
  refine J_iload_n (nx := 8) dX12_played_7 rfl rfl ?_
  refine J_iload_n (nx := 9) dX12_played_8 rfl rfl ?_
  refine J_iload (nx := 11) dX12_played_9 rfl rfl ?_
  refine JcV3 (R' := rm (2) 0 0) (nx := 14) dX12_played_11 rfl ml_X12_isNoFoul lk_X12_341 iv_X12_isNoFoul rfl rfl ⟨(Nat.le_of_ble_eq_true rfl), (Nat.le_of_ble_eq_true rfl)⟩ (Nat.le_of_ble_eq_true rfl) ⟨rfl, rfl⟩ (ct_m_isNoFoul (sF g 63 0 0) (gA g 64) rfl _ _ _) ?_
  refine J_if_ne (nx := 17) (tgt := 25) dX12_played_14 rfl (by decide) (fun c_14 => ?_) (fun c_14 => ?_)
  · refine J_iconst (nx := 26) (i := 1) (v := 1) (by decide) dX12_played_25 rfl ?_
    refine J_goto (nx := 30) dX12_played_26 (by decide) ?_
    refine J_iconst (nx := 31) (i := 1) (v := 1) (by decide) dX12_played_30 rfl ?_
    refine J_thr (b := true) (nx := 34) dX12_played_31 rfl lk_X12_237 ⟨(Nat.le_of_ble_eq_true rfl), (Nat.le_of_ble_eq_true rfl)⟩ (Nat.le_of_ble_eq_true rfl) (fun b_31 => ?_) (fun b_31 => ?_)
    · refine J_if_ne (nx := 37) (tgt := 51) dX12_played_34 rfl (by decide) (fun c_34 => ?_) (fun c_34 => ?_)
      · refine J_iconst (nx := 52) (i := 0) (v := 0) (by decide) dX12_played_51 rfl ?_
        exact Jri dX12_played_52 rfl (Nat.zero_le _) (Nat.zero_le _) (RXi.of (Or.inl ⟨_, (by simp only [bI_is0, bI_is1, Bool.not_eq_true', Bool.not_eq_false'] at c_14; simp only [mxC, c_14, decide_true, decide_false, Bool.not_true, Bool.not_false, Bool.true_or, Bool.false_or, Bool.and_true, Bool.true_and, Bool.false_and, Bool.and_false, cond_true, cond_false]), rfl, rfl⟩))
      · exact absurd c_34 (by decide)
    · exact absurd b_31 (by decide)
  · refine J_iload (nx := 19) dX12_played_17 rfl rfl ?_
    refine JcS1 (R' := rm (1) 0 0) (nx := 22) dX12_played_19 rfl ml_X12_noState lk_X12_245 st_X12_noState ⟨(Nat.le_of_ble_eq_true rfl), (Nat.le_of_ble_eq_true rfl)⟩ (Nat.le_of_ble_eq_true rfl) ⟨rfl, rfl⟩ (ct_m_noState _ _) ?_
    refine J_if_eq (nx := 25) (tgt := 29) dX12_played_22 rfl (by decide) (fun c_22 => ?_) (fun c_22 => ?_)
    · refine J_iconst (nx := 30) (i := 0) (v := 0) (by decide) dX12_played_29 rfl ?_
      refine J_iconst (nx := 31) (i := 1) (v := 1) (by decide) dX12_played_30 rfl ?_
      refine J_thr (b := false) (nx := 34) dX12_played_31 rfl lk_X12_237 ⟨(Nat.le_of_ble_eq_true rfl), (Nat.le_of_ble_eq_true rfl)⟩ (Nat.le_of_ble_eq_true rfl) (fun b_31 => ?_) (fun b_31 => ?_)
      · exact absurd b_31 (by decide)
      · refine J_if_ne (nx := 37) (tgt := 51) dX12_played_34 rfl (by decide) (fun c_34 => ?_) (fun c_34 => ?_)
        · exact absurd c_34 (by decide)
        · refine J_aload_n (nx := 38) dX12_played_37 rfl rfl ?_
          refine J_aload_n (nx := 39) dX12_played_38 rfl rfl ?_
          refine J_iload_n (nx := 40) dX12_played_39 rfl rfl ?_
          refine J_iload_n (nx := 41) dX12_played_40 rfl rfl ?_
          refine JcV2 (R' := rm (1) 0 0) (nx := 44) dX12_played_41 rfl ml_X12_badBar lk_X12_344 iv_X12_badBar rfl rfl ⟨(Nat.le_of_ble_eq_true rfl), (Nat.le_of_ble_eq_true rfl)⟩ (Nat.le_of_ble_eq_true rfl) ⟨rfl, rfl⟩ (ct_m_badBar _ _ _) ?_
          refine J_iconst (nx := 45) (i := 2) (v := 2) (by decide) dX12_played_44 rfl ?_
          refine J_thr (nx := 48) dX12_played_45 rfl lk_X12_237 ⟨(Nat.le_of_ble_eq_true rfl), (Nat.le_of_ble_eq_true rfl)⟩ (Nat.le_of_ble_eq_true rfl) (fun b_45 => ?_) (fun b_45 => ?_)
          · refine J_if_eq (nx := 51) (tgt := 53) dX12_played_48 rfl (by decide) (fun c_48 => ?_) (fun c_48 => ?_)
            · exact absurd c_48 (by decide)
            · refine J_iconst (nx := 52) (i := 0) (v := 0) (by decide) dX12_played_51 rfl ?_
              exact Jri dX12_played_52 rfl (Nat.zero_le _) (Nat.zero_le _) (RXi.of (Or.inl ⟨_, (by simp only [bI_is0, bI_is1, Bool.not_eq_true', Bool.not_eq_false'] at c_14 c_22 b_45; simp only [mxC, c_14, c_22, b_45, decide_true, decide_false, Bool.not_true, Bool.not_false, Bool.true_or, Bool.false_or, Bool.and_true, Bool.true_and, Bool.false_and, Bool.and_false, cond_true, cond_false]), rfl, rfl⟩))
          · refine J_if_eq (nx := 51) (tgt := 53) dX12_played_48 rfl (by decide) (fun c_48 => ?_) (fun c_48 => ?_)
            · have HC : mxC [(wMj (gA g 64) jd && wMs (gA g 64) k && fIn z 0 7 && fIn s 0 31, 1), (fMb jd b, 2)] = none := (by simp only [bI_is0, bI_is1, Bool.not_eq_true', Bool.not_eq_false'] at c_14 c_22 b_45; simp only [mxC, c_14, c_22, b_45, decide_true, decide_false, Bool.not_true, Bool.not_false, Bool.true_or, Bool.false_or, Bool.and_true, Bool.true_and, Bool.false_and, Bool.and_false, cond_true, cond_false])
              have HG0 := HC
              obtain ⟨hk0, HG1⟩ := gd HG0
              simp only [Bool.and_eq_true] at hk0
              obtain ⟨⟨⟨hk0_0, hk0_1⟩, hk0_2⟩, hk0_3⟩ := hk0
              have hjjd := wMj_ok hM hk0_0
              obtain ⟨qk, hqk, rfl⟩ := wMs_nat hM hk0_1
              try rw [nN_nI (n := qk) (by omega)]
              obtain ⟨qz, hqz, rfl⟩ := fIn_nat (n := 7) (by omega) hk0_2
              try rw [nN_nI (n := qz) (by omega)]
              obtain ⟨qs, hqs, rfl⟩ := fIn_nat (n := 31) (by omega) hk0_3
              try rw [nN_nI (n := qs) (by omega)]
              obtain ⟨hk1, HG2⟩ := gd HG1
              have hk1_0 := hk1
              refine J_aload_n (nx := 54) dX12_played_53 rfl rfl ?_
              refine J_iload_n (nx := 55) dX12_played_54 rfl rfl ?_
              refine J_iload_n (nx := 56) dX12_played_55 rfl rfl ?_
              refine J_iload_n (nx := 57) dX12_played_56 rfl rfl ?_
              refine J_iload (nx := 59) dX12_played_57 rfl rfl ?_
              refine JvV4 (R' := rm (5) 0 0) (nx := 62) dX12_played_59 rfl ml_X12_asks lk_X12_347 iv_X12_asks rfl rfl ⟨(Nat.le_of_ble_eq_true rfl), (Nat.le_of_ble_eq_true rfl)⟩ (Nat.le_of_ble_eq_true rfl) ⟨rfl, rfl⟩ (ct_m_asks (sF g 63 0 0) (gA g 64) gl rl rfl hM jd b qk qz (by omega) (by omega) hjjd) (fun g_59 p_59 => ?_)
              refine J_aload_n (nx := 63) dX12_played_62 rfl rfl ?_
              refine J_iload (nx := 65) dX12_played_63 rfl rfl ?_
              refine Jp_63_31 (nx := 68) dX12_played_65 rfl fl_X12_378 ?_
              refine J_aload_n (nx := 69) dX12_played_68 rfl rfl ?_
              refine J_iload (nx := 71) dX12_played_69 rfl rfl ?_
              refine JiV1 (R' := rm (2) 0 0) (nx := 74) dX12_played_71 rfl ml_X12_plays lk_X12_387 iv_X12_plays rfl rfl ⟨(Nat.le_of_ble_eq_true rfl), (Nat.le_of_ble_eq_true rfl)⟩ (Nat.le_of_ble_eq_true rfl) ⟨rfl, rfl⟩ (ct_m_plays (sF g_59 63 31 seed) (gA g 64) p_59.2.1.1 (mT (gA g 64)) (mG (gA g 64)) hT hT60 hG10 (ja (mJP (gA g 64) gl rl (gA g 64 6) qk qz (wTo (gA g 64) qk) jd b (mG (gA g 64)))) (fun j s hj hs => p_59.2.a hj hs) (jA_end hM hjjd hkd) qs (by omega)) (fun x_71 g_71 p_71 => ?_)
              exact Jri dX12_played_74 rfl (Nat.zero_le _) (Nat.zero_le _) (RXi.of (Or.inr ⟨HC, p_71.1, (QF.of p_59.1).s31.tr31 p_71.2.1⟩))
            · exact absurd c_48 (by decide)
    · refine J_iconst (nx := 26) (i := 1) (v := 1) (by decide) dX12_played_25 rfl ?_
      refine J_goto (nx := 30) dX12_played_26 (by decide) ?_
      refine J_iconst (nx := 31) (i := 1) (v := 1) (by decide) dX12_played_30 rfl ?_
      refine J_thr (b := true) (nx := 34) dX12_played_31 rfl lk_X12_237 ⟨(Nat.le_of_ble_eq_true rfl), (Nat.le_of_ble_eq_true rfl)⟩ (Nat.le_of_ble_eq_true rfl) (fun b_31 => ?_) (fun b_31 => ?_)
      · refine J_if_ne (nx := 37) (tgt := 51) dX12_played_34 rfl (by decide) (fun c_34 => ?_) (fun c_34 => ?_)
        · refine J_iconst (nx := 52) (i := 0) (v := 0) (by decide) dX12_played_51 rfl ?_
          exact Jri dX12_played_52 rfl (Nat.zero_le _) (Nat.zero_le _) (RXi.of (Or.inl ⟨_, (by simp only [bI_is0, bI_is1, Bool.not_eq_true', Bool.not_eq_false'] at c_14 c_22; simp only [mxC, c_14, c_22, decide_true, decide_false, Bool.not_true, Bool.not_false, Bool.true_or, Bool.false_or, Bool.and_true, Bool.true_and, Bool.false_and, Bool.and_false, cond_true, cond_false]), rfl, rfl⟩))
        · exact absurd c_34 (by decide)
      · exact absurd b_31 (by decide)

set_option maxRecDepth 100000 in
set_option maxHeartbeats 4000000 in
theorem ct_m_ends (g : GS) (gl : List TxL) (rl : Nat → List TxL) (hM : MOK (gA g 64) gl rl) (hkd : KOK (gA g 64) rl) (jd : Int32) (b : Int32) (k : Int32) (z : Int32) (s : Int32) (what : Int32) : Ct mX12_ends (rm 6 0 0) [.ref 63, .int jd, .int b, .int k, .int z, .int s, .int what] (Wd g) (PQi g [(wMj (gA g 64) jd && wMs (gA g 64) k && fIn z 0 7 && fIn s 0 31, 1), (fMb jd b, 2), (fIn what 0 2, 3)] (fun x g2 => x = (eW (gA g 64) (ja (mJP (gA g 64) gl rl (gA g 64 6) (nN k) (nN z) (wTo (gA g 64) (nN k)) jd b (mG (gA g 64)))) what (mT (gA g 64)) (mT (gA g 64)) (nN s)).toInt32 ∧ QF g g2)) := by
  have hM2 := hM
  obtain ⟨⟨hG10, hG⟩, ⟨hT1, hT60, hT⟩, ⟨hR4, hR, hrl⟩, ⟨hN6, hN⟩, hgl, hgk⟩ := hM2
  refine Ct.of (by decide +kernel) (Nat.le_of_ble_eq_true rfl) ?_
  show J _ _ _ _ 0 [some (.ref 63), some (.int jd), some (.int b), some (.int k), some (.int z), some (.int s), some (.int what)] [] _ 0 0
  refine J_aload_n (nx := 1) dX12_ends_0 rfl rfl ?_
  refine J_iconst (nx := 2) (i := 0) (v := 0) (by decide) dX12_ends_1 rfl ?_
  refine Jp_63_0 (nx := 5) dX12_ends_2 rfl fl_X12_3 ?_
  refine J_aload_n (nx := 6) dX12_ends_5 rfl rfl ?_
  refine J_aload_n (nx := 7) dX12_ends_6 rfl rfl ?_
  refine J_iload_n (nx := 8) dX12_ends_7 rfl rfl ?_
  refine J_iload_n (nx := 9) dX12_ends_8 rfl rfl ?_
  refine J_iload (nx := 11) dX12_ends_9 rfl rfl ?_
  refine JcV3 (R' := rm (2) 0 0) (nx := 14) dX12_ends_11 rfl ml_X12_isNoFoul lk_X12_341 iv_X12_isNoFoul rfl rfl ⟨(Nat.le_of_ble_eq_true rfl), (Nat.le_of_ble_eq_true rfl)⟩ (Nat.le_of_ble_eq_true rfl) ⟨rfl, rfl⟩ (ct_m_isNoFoul (sF g 63 0 0) (gA g 64) rfl _ _ _) ?_
  refine J_if_ne (nx := 17) (tgt := 25) dX12_ends_14 rfl (by decide) (fun c_14 => ?_) (fun c_14 => ?_)
  · refine J_iconst (nx := 26) (i := 1) (v := 1) (by decide) dX12_ends_25 rfl ?_
    refine J_goto (nx := 30) dX12_ends_26 (by decide) ?_
    refine J_iconst (nx := 31) (i := 1) (v := 1) (by decide) dX12_ends_30 rfl ?_
    refine J_thr (b := true) (nx := 34) dX12_ends_31 rfl lk_X12_237 ⟨(Nat.le_of_ble_eq_true rfl), (Nat.le_of_ble_eq_true rfl)⟩ (Nat.le_of_ble_eq_true rfl) (fun b_31 => ?_) (fun b_31 => ?_)
    · refine J_if_ne (nx := 37) (tgt := 74) dX12_ends_34 rfl (by decide) (fun c_34 => ?_) (fun c_34 => ?_)
      · refine J_iconst (nx := 75) (i := 0) (v := 0) (by decide) dX12_ends_74 rfl ?_
        exact Jri dX12_ends_75 rfl (Nat.zero_le _) (Nat.zero_le _) (RXi.of (Or.inl ⟨_, (by simp only [bI_is0, bI_is1, Bool.not_eq_true', Bool.not_eq_false'] at c_14; simp only [mxC, c_14, decide_true, decide_false, Bool.not_true, Bool.not_false, Bool.true_or, Bool.false_or, Bool.and_true, Bool.true_and, Bool.false_and, Bool.and_false, cond_true, cond_false]), rfl, rfl⟩))
      · exact absurd c_34 (by decide)
    · exact absurd b_31 (by decide)
  · refine J_iload (nx := 19) dX12_ends_17 rfl rfl ?_
    refine JcS1 (R' := rm (1) 0 0) (nx := 22) dX12_ends_19 rfl ml_X12_noState lk_X12_245 st_X12_noState ⟨(Nat.le_of_ble_eq_true rfl), (Nat.le_of_ble_eq_true rfl)⟩ (Nat.le_of_ble_eq_true rfl) ⟨rfl, rfl⟩ (ct_m_noState _ _) ?_
    refine J_if_eq (nx := 25) (tgt := 29) dX12_ends_22 rfl (by decide) (fun c_22 => ?_) (fun c_22 => ?_)
    · refine J_iconst (nx := 30) (i := 0) (v := 0) (by decide) dX12_ends_29 rfl ?_
      refine J_iconst (nx := 31) (i := 1) (v := 1) (by decide) dX12_ends_30 rfl ?_
      refine J_thr (b := false) (nx := 34) dX12_ends_31 rfl lk_X12_237 ⟨(Nat.le_of_ble_eq_true rfl), (Nat.le_of_ble_eq_true rfl)⟩ (Nat.le_of_ble_eq_true rfl) (fun b_31 => ?_) (fun b_31 => ?_)
      · exact absurd b_31 (by decide)
      · refine J_if_ne (nx := 37) (tgt := 74) dX12_ends_34 rfl (by decide) (fun c_34 => ?_) (fun c_34 => ?_)
        · exact absurd c_34 (by decide)
        · refine J_aload_n (nx := 38) dX12_ends_37 rfl rfl ?_
          refine J_aload_n (nx := 39) dX12_ends_38 rfl rfl ?_
          refine J_iload_n (nx := 40) dX12_ends_39 rfl rfl ?_
          refine J_iload_n (nx := 41) dX12_ends_40 rfl rfl ?_
          refine JcV2 (R' := rm (1) 0 0) (nx := 44) dX12_ends_41 rfl ml_X12_badBar lk_X12_344 iv_X12_badBar rfl rfl ⟨(Nat.le_of_ble_eq_true rfl), (Nat.le_of_ble_eq_true rfl)⟩ (Nat.le_of_ble_eq_true rfl) ⟨rfl, rfl⟩ (ct_m_badBar _ _ _) ?_
          refine J_iconst (nx := 45) (i := 2) (v := 2) (by decide) dX12_ends_44 rfl ?_
          refine J_thr (nx := 48) dX12_ends_45 rfl lk_X12_237 ⟨(Nat.le_of_ble_eq_true rfl), (Nat.le_of_ble_eq_true rfl)⟩ (Nat.le_of_ble_eq_true rfl) (fun b_45 => ?_) (fun b_45 => ?_)
          · refine J_if_ne (nx := 51) (tgt := 74) dX12_ends_48 rfl (by decide) (fun c_48 => ?_) (fun c_48 => ?_)
            · refine J_iconst (nx := 75) (i := 0) (v := 0) (by decide) dX12_ends_74 rfl ?_
              exact Jri dX12_ends_75 rfl (Nat.zero_le _) (Nat.zero_le _) (RXi.of (Or.inl ⟨_, (by simp only [bI_is0, bI_is1, Bool.not_eq_true', Bool.not_eq_false'] at c_14 c_22 b_45; simp only [mxC, c_14, c_22, b_45, decide_true, decide_false, Bool.not_true, Bool.not_false, Bool.true_or, Bool.false_or, Bool.and_true, Bool.true_and, Bool.false_and, Bool.and_false, cond_true, cond_false]), rfl, rfl⟩))
            · exact absurd c_48 (by decide)
          · refine J_if_ne (nx := 51) (tgt := 74) dX12_ends_48 rfl (by decide) (fun c_48 => ?_) (fun c_48 => ?_)
            · exact absurd c_48 (by decide)
            · refine J_aload_n (nx := 52) dX12_ends_51 rfl rfl ?_
              refine J_iload (nx := 54) dX12_ends_52 rfl rfl ?_
              refine J_iconst (nx := 55) (i := 0) (v := 0) (by decide) dX12_ends_54 rfl ?_
              refine J_iconst (nx := 56) (i := 2) (v := 2) (by decide) dX12_ends_55 rfl ?_
              refine JcS3 (R' := rm (0) 0 0) (nx := 59) dX12_ends_56 rfl ml_X12_in lk_X12_77 st_X12_in ⟨(Nat.le_of_ble_eq_true rfl), (Nat.le_of_ble_eq_true rfl)⟩ (Nat.le_of_ble_eq_true rfl) ⟨rfl, rfl⟩ (ct_m_in _ _ _ _) ?_
              refine J_if_ne (nx := 62) (tgt := 66) dX12_ends_59 rfl (by decide) (fun c_59 => ?_) (fun c_59 => ?_)
              · refine J_iconst (nx := 67) (i := 0) (v := 0) (by decide) dX12_ends_66 rfl ?_
                refine J_iconst (nx := 68) (i := 3) (v := 3) (by decide) dX12_ends_67 rfl ?_
                refine J_thr (b := false) (nx := 71) dX12_ends_68 rfl lk_X12_237 ⟨(Nat.le_of_ble_eq_true rfl), (Nat.le_of_ble_eq_true rfl)⟩ (Nat.le_of_ble_eq_true rfl) (fun b_68 => ?_) (fun b_68 => ?_)
                · exact absurd b_68 (by decide)
                · refine J_if_eq (nx := 74) (tgt := 76) dX12_ends_71 rfl (by decide) (fun c_71 => ?_) (fun c_71 => ?_)
                  · have HC : mxC [(wMj (gA g 64) jd && wMs (gA g 64) k && fIn z 0 7 && fIn s 0 31, 1), (fMb jd b, 2), (fIn what 0 2, 3)] = none := (by simp only [bI_is0, bI_is1, Bool.not_eq_true', Bool.not_eq_false'] at c_14 c_22 b_45 c_59; simp only [mxC, c_14, c_22, b_45, c_59, decide_true, decide_false, Bool.not_true, Bool.not_false, Bool.true_or, Bool.false_or, Bool.and_true, Bool.true_and, Bool.false_and, Bool.and_false, cond_true, cond_false])
                    have HG0 := HC
                    obtain ⟨hk0, HG1⟩ := gd HG0
                    simp only [Bool.and_eq_true] at hk0
                    obtain ⟨⟨⟨hk0_0, hk0_1⟩, hk0_2⟩, hk0_3⟩ := hk0
                    have hjjd := wMj_ok hM hk0_0
                    obtain ⟨qk, hqk, rfl⟩ := wMs_nat hM hk0_1
                    try rw [nN_nI (n := qk) (by omega)]
                    obtain ⟨qz, hqz, rfl⟩ := fIn_nat (n := 7) (by omega) hk0_2
                    try rw [nN_nI (n := qz) (by omega)]
                    obtain ⟨qs, hqs, rfl⟩ := fIn_nat (n := 31) (by omega) hk0_3
                    try rw [nN_nI (n := qs) (by omega)]
                    obtain ⟨hk1, HG2⟩ := gd HG1
                    have hk1_0 := hk1
                    obtain ⟨hk2, HG3⟩ := gd HG2
                    have hk2_0 := hk2
                    refine J_aload_n (nx := 77) dX12_ends_76 rfl rfl ?_
                    refine J_iload_n (nx := 78) dX12_ends_77 rfl rfl ?_
                    refine J_iload_n (nx := 79) dX12_ends_78 rfl rfl ?_
                    refine J_iload_n (nx := 80) dX12_ends_79 rfl rfl ?_
                    refine J_iload (nx := 82) dX12_ends_80 rfl rfl ?_
                    refine JvV4 (R' := rm (5) 0 0) (nx := 85) dX12_ends_82 rfl ml_X12_asks lk_X12_347 iv_X12_asks rfl rfl ⟨(Nat.le_of_ble_eq_true rfl), (Nat.le_of_ble_eq_true rfl)⟩ (Nat.le_of_ble_eq_true rfl) ⟨rfl, rfl⟩ (ct_m_asks (sF g 63 0 0) (gA g 64) gl rl rfl hM jd b qk qz (by omega) (by omega) hjjd) (fun g_82 p_82 => ?_)
                    refine J_aload_n (nx := 86) dX12_ends_85 rfl rfl ?_
                    refine J_iload (nx := 88) dX12_ends_86 rfl rfl ?_
                    refine JvV1 (R' := rm (4) 0 0) (nx := 91) dX12_ends_88 rfl ml_X12_tellsEnds lk_X12_395 iv_X12_tellsEnds rfl rfl ⟨(Nat.le_of_ble_eq_true rfl), (Nat.le_of_ble_eq_true rfl)⟩ (Nat.le_of_ble_eq_true rfl) ⟨rfl, rfl⟩ (ct_m_tellsEnds g_82 (gA g 64) (mT (gA g 64)) (mG (gA g 64)) hT hT60 hG hG10 (ja (mJP (gA g 64) gl rl (gA g 64 6) qk qz (wTo (gA g 64) qk) jd b (mG (gA g 64)))) (jA_end hM hjjd hkd) what p_82.2.1.1 (fun j s hj hs => p_82.2.a hj hs)) (fun g_88 p_88 => ?_)
                    refine J_aload_n (nx := 92) dX12_ends_91 rfl rfl ?_
                    refine Jg_63_33 (nx := 95) dX12_ends_92 rfl fl_X12_64 ?_
                    refine J_iload (nx := 97) dX12_ends_95 rfl rfl ?_
                    refine Ja_79 (nx := 98) dX12_ends_97 rfl (vpE (n := qs) (Eq.refl (nI (qs))) (by omega) (by decide)) ?_
                    rw [clE (n := qs) (Eq.refl (nI (qs))) (by omega)]
                    refine J_l2i (nx := 99) dX12_ends_98 rfl ?_
                    exact Jri dX12_ends_99 rfl (Nat.zero_le _) (Nat.zero_le _) (RXi.of (Or.inr ⟨HC, by rw [p_88.2 qs (by omega)], (QF.of p_82.1).trA (p_88.1.mono fA_0 aQ_789)⟩))
                  · exact absurd c_71 (by decide)
              · refine J_iconst (nx := 63) (i := 1) (v := 1) (by decide) dX12_ends_62 rfl ?_
                refine J_goto (nx := 67) dX12_ends_63 (by decide) ?_
                refine J_iconst (nx := 68) (i := 3) (v := 3) (by decide) dX12_ends_67 rfl ?_
                refine J_thr (b := true) (nx := 71) dX12_ends_68 rfl lk_X12_237 ⟨(Nat.le_of_ble_eq_true rfl), (Nat.le_of_ble_eq_true rfl)⟩ (Nat.le_of_ble_eq_true rfl) (fun b_68 => ?_) (fun b_68 => ?_)
                · refine J_if_eq (nx := 74) (tgt := 76) dX12_ends_71 rfl (by decide) (fun c_71 => ?_) (fun c_71 => ?_)
                  · exact absurd c_71 (by decide)
                  · refine J_iconst (nx := 75) (i := 0) (v := 0) (by decide) dX12_ends_74 rfl ?_
                    exact Jri dX12_ends_75 rfl (Nat.zero_le _) (Nat.zero_le _) (RXi.of (Or.inl ⟨_, (by simp only [bI_is0, bI_is1, Bool.not_eq_true', Bool.not_eq_false'] at c_14 c_22 b_45 c_59; simp only [mxC, c_14, c_22, b_45, c_59, decide_true, decide_false, Bool.not_true, Bool.not_false, Bool.true_or, Bool.false_or, Bool.and_true, Bool.true_and, Bool.false_and, Bool.and_false, cond_true, cond_false]), rfl, rfl⟩))
                · exact absurd b_68 (by decide)
    · refine J_iconst (nx := 26) (i := 1) (v := 1) (by decide) dX12_ends_25 rfl ?_
      refine J_goto (nx := 30) dX12_ends_26 (by decide) ?_
      refine J_iconst (nx := 31) (i := 1) (v := 1) (by decide) dX12_ends_30 rfl ?_
      refine J_thr (b := true) (nx := 34) dX12_ends_31 rfl lk_X12_237 ⟨(Nat.le_of_ble_eq_true rfl), (Nat.le_of_ble_eq_true rfl)⟩ (Nat.le_of_ble_eq_true rfl) (fun b_31 => ?_) (fun b_31 => ?_)
      · refine J_if_ne (nx := 37) (tgt := 74) dX12_ends_34 rfl (by decide) (fun c_34 => ?_) (fun c_34 => ?_)
        · refine J_iconst (nx := 75) (i := 0) (v := 0) (by decide) dX12_ends_74 rfl ?_
          exact Jri dX12_ends_75 rfl (Nat.zero_le _) (Nat.zero_le _) (RXi.of (Or.inl ⟨_, (by simp only [bI_is0, bI_is1, Bool.not_eq_true', Bool.not_eq_false'] at c_14 c_22; simp only [mxC, c_14, c_22, decide_true, decide_false, Bool.not_true, Bool.not_false, Bool.true_or, Bool.false_or, Bool.and_true, Bool.true_and, Bool.false_and, Bool.and_false, cond_true, cond_false]), rfl, rfl⟩))
        · exact absurd c_34 (by decide)
      · exact absurd b_31 (by decide)

