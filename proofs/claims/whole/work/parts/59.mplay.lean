
/-! the Model: a match; drawing; how fouls end -/
set_option maxRecDepth 100000 in
set_option maxHeartbeats 4000000 in
theorem lp_m_mt1 (Q : Res → List ME → Prop) (g : GS) (W : Nat → Int32) (gl : List TxL) (rl : Nat → List TxL) (m jd b stp : Int32) (q z : Nat) (hq : q < 6) (hz : z < 8) (hA : AS W gl rl m q z (wTo W q) jd b (mG W) g) (n0 : Nat) : ∀ (k : Nat) (i : Nat), i + k = 4 → J mX12_matchIn (rm 5 0 0) Q n0 132 [some (.ref 63), some (.int jd), some (.int b), some (.int m), some (.int stp), some (.long (acL 0 (mtT W gl rl m jd b stp) (32 * q + (4 * z + 4)))), none, some (.int (nI (q))), some (.int (nI (z))), some (.int (nI (4 * z + 4)))] [] (Wd g) 0 0 → J mX12_matchIn (rm 5 0 0) (Q) n0 64 [some (.ref 63), some (.int jd), some (.int b), some (.int m), some (.int stp), some (.long (acL 0 (mtT W gl rl m jd b stp) (32 * q + (4 * z + i)))), none, some (.int (nI (q))), some (.int (nI (z))), some (.int (nI (4 * z + i)))] [] (Wd g) 0 0 := by
  intro k
  induction k with
  | zero =>
    intro i hk hK
    refine J_iload (nx := 66) dX12_matchIn_64 rfl rfl ?_
    refine J_iconst (nx := 67) (i := 4) (v := 4) (by decide) dX12_matchIn_66 rfl ?_
    refine J_iload (nx := 69) dX12_matchIn_67 rfl rfl ?_
    refine J_imul (nx := 70) dX12_matchIn_69 rfl ?_
    refine J_iconst (nx := 71) (i := 4) (v := 4) (by decide) dX12_matchIn_70 rfl ?_
    refine J_iadd (nx := 72) dX12_matchIn_71 rfl ?_
    rw [show (((4 : Int32) * nI (z)) + (4 : Int32)) = nI (((4 * z) + 4)) from (nIa (nIm (nIc 4) (Eq.refl (nI (z)))) (nIc 4))]
    refine J_icmp_ge (nx := 75) (tgt := 132) dX12_matchIn_72 rfl (by decide) (fun c_72 => ?_) (fun c_72 => ?_)
    · obtain rfl : i = 4 := by omega
      exact hK
    · exact absurd (show nI (4 * z + 4) ≤ nI (4 * z + i) from by rw [show i = 4 by omega]; exact le_self_nI) c_72
  | succ k ih =>
    intro i hk hK
    refine J_iload (nx := 66) dX12_matchIn_64 rfl rfl ?_
    refine J_iconst (nx := 67) (i := 4) (v := 4) (by decide) dX12_matchIn_66 rfl ?_
    refine J_iload (nx := 69) dX12_matchIn_67 rfl rfl ?_
    refine J_imul (nx := 70) dX12_matchIn_69 rfl ?_
    refine J_iconst (nx := 71) (i := 4) (v := 4) (by decide) dX12_matchIn_70 rfl ?_
    refine J_iadd (nx := 72) dX12_matchIn_71 rfl ?_
    rw [show (((4 : Int32) * nI (z)) + (4 : Int32)) = nI (((4 * z) + 4)) from (nIa (nIm (nIc 4) (Eq.refl (nI (z)))) (nIc 4))]
    refine J_icmp_ge (nx := 75) (tgt := 132) dX12_matchIn_72 rfl (by decide) (fun c_72 => ?_) (fun c_72 => ?_)
    · exact absurd c_72 (nI_le4 (by omega) hz)
    · have hi : i < 4 := by omega
      refine J_lload (nx := 77) dX12_matchIn_75 rfl rfl ?_
      refine J_aload_n (nx := 78) dX12_matchIn_77 rfl rfl ?_
      refine Jg_63_1 (nx := 81) dX12_matchIn_78 rfl fl_X12_13 ?_
      refine J_iload (nx := 83) dX12_matchIn_81 rfl rfl ?_
      refine J_iconst (nx := 84) (i := 2) (v := 2) (by decide) dX12_matchIn_83 rfl ?_
      refine J_iload (nx := 86) dX12_matchIn_84 rfl rfl ?_
      refine J_iadd (nx := 87) dX12_matchIn_86 rfl ?_
      rw [show ((2 : Int32) + nI ((4 * z + i))) = nI ((2 + (4 * z + i))) from (nIa (nIc 2) (Eq.refl (nI ((4 * z + i)))))]
      refine JcS2 (R' := rm (0) 0 0) (nx := 90) dX12_matchIn_87 rfl ml_X12_sortAt lk_X12_282 st_X12_sortAt ⟨(Nat.le_of_ble_eq_true rfl), (Nat.le_of_ble_eq_true rfl)⟩ (Nat.le_of_ble_eq_true rfl) ⟨rfl, rfl⟩ (ct_m_sortAt _ (q) ((2 + (4 * z + i)))) ?_
      refine Ja_64 (nx := 91) dX12_matchIn_90 rfl (vpE (n := (1106 + 34 * q + (2 + (4 * z + i)))) (Eq.refl (nI ((1106 + 34 * q + (2 + (4 * z + i)))))) (by omega) (by decide)) ?_
      rw [clE (n := (1106 + 34 * q + (2 + (4 * z + i)))) (Eq.refl (nI ((1106 + 34 * q + (2 + (4 * z + i)))))) (by omega)]
      refine J_i2l (nx := 92) dX12_matchIn_91 rfl ?_
      refine J_iload (nx := 94) dX12_matchIn_92 rfl rfl ?_
      refine J_if_ne (nx := 97) (tgt := 107) dX12_matchIn_94 rfl (by decide) (fun c_94 => ?_) (fun c_94 => ?_)
      · refine J_aload_n (nx := 108) dX12_matchIn_107 rfl rfl ?_
        refine Jg_63_27 (nx := 111) dX12_matchIn_108 rfl fl_X12_49 ?_
        refine J_iload (nx := 113) dX12_matchIn_111 rfl rfl ?_
        refine Ja_74 (nx := 114) dX12_matchIn_113 rfl (vpE (n := (4 * z + i)) (Eq.refl (nI ((4 * z + i)))) (by omega) (by decide)) ?_
        rw [clE (n := (4 * z + i)) (Eq.refl (nI ((4 * z + i)))) (by omega)]
        refine J_if_ne (nx := 117) (tgt := 121) dX12_matchIn_114 rfl (by decide) (fun c_114 => ?_) (fun c_114 => ?_)
        · refine J_lconst (nx := 122) (i := 0) (v := 0) (by decide) dX12_matchIn_121 rfl ?_
          refine J_lmul (nx := 123) dX12_matchIn_122 rfl ?_
          refine J_ladd (nx := 124) dX12_matchIn_123 rfl ?_
          refine J_lstore (nx := 126) dX12_matchIn_124 rfl rfl (Nat.le_of_ble_eq_true rfl) ?_
          refine J_iinc (nx := 129) dX12_matchIn_126 rfl rfl rfl (Nat.le_of_ble_eq_true rfl) ?_
          refine J_goto (nx := 64) dX12_matchIn_129 (by decide) ?_
          rw [show (nI ((4 * z + i)) + Int32.ofInt 1) = nI (4 * z + (i + 1)) from (show nI ((4 * z + i)) + Int32.ofInt 1 = nI ((4 * z + i) + 1) from nI_add ((4 * z + i)) 1)]
          refine J.lv (fun v => [some (.ref 63), some (.int jd), some (.int b), some (.int m), some (.int stp), some (.long (v)), none, some (.int (nI (q))), some (.int (nI (z))), some (.int (nI (4 * z + (i + 1))))]) ?_ (ih (i + 1) (by omega) hK)
          refine congrArg (acL 0 (mtT W gl rl m jd b stp) (32 * q + (4 * z + i)) + ·) ?_
          show _ = mtT W gl rl m jd b stp (32 * q + (4 * z + i))
          unfold mtT
          rw [show (32 * q + (4 * z + i)) / 32 = q by omega, show (32 * q + (4 * z + i)) % 32 = 4 * z + i by omega, show (4 * z + i) / 4 = z by omega, ← hA.w0 (s := 4 * z + i) (by omega), ← hA.a0 (s := 4 * z + i) (by omega), show gA g 64 = W from hA.1.1]
          unfold mtV
          (try (first | rw [if_pos (show ¬ stp = 0 from c_94)] | rw [if_neg (show ¬ ¬ stp = 0 from fun z => z c_94)])); (try (first | rw [if_pos (show ¬ gA g 74 (4 * z + i) = 0 from c_114)] | rw [if_neg (show ¬ ¬ gA g 74 (4 * z + i) = 0 from fun z => z c_114)]))
        · refine J_lconst (nx := 118) (i := 1) (v := 1) (by decide) dX12_matchIn_117 rfl ?_
          refine J_goto (nx := 122) dX12_matchIn_118 (by decide) ?_
          refine J_lmul (nx := 123) dX12_matchIn_122 rfl ?_
          refine J_ladd (nx := 124) dX12_matchIn_123 rfl ?_
          refine J_lstore (nx := 126) dX12_matchIn_124 rfl rfl (Nat.le_of_ble_eq_true rfl) ?_
          refine J_iinc (nx := 129) dX12_matchIn_126 rfl rfl rfl (Nat.le_of_ble_eq_true rfl) ?_
          refine J_goto (nx := 64) dX12_matchIn_129 (by decide) ?_
          rw [show (nI ((4 * z + i)) + Int32.ofInt 1) = nI (4 * z + (i + 1)) from (show nI ((4 * z + i)) + Int32.ofInt 1 = nI ((4 * z + i) + 1) from nI_add ((4 * z + i)) 1)]
          refine J.lv (fun v => [some (.ref 63), some (.int jd), some (.int b), some (.int m), some (.int stp), some (.long (v)), none, some (.int (nI (q))), some (.int (nI (z))), some (.int (nI (4 * z + (i + 1))))]) ?_ (ih (i + 1) (by omega) hK)
          refine congrArg (acL 0 (mtT W gl rl m jd b stp) (32 * q + (4 * z + i)) + ·) ?_
          show _ = mtT W gl rl m jd b stp (32 * q + (4 * z + i))
          unfold mtT
          rw [show (32 * q + (4 * z + i)) / 32 = q by omega, show (32 * q + (4 * z + i)) % 32 = 4 * z + i by omega, show (4 * z + i) / 4 = z by omega, ← hA.w0 (s := 4 * z + i) (by omega), ← hA.a0 (s := 4 * z + i) (by omega), show gA g 64 = W from hA.1.1]
          unfold mtV
          (try (first | rw [if_pos (show ¬ stp = 0 from c_94)] | rw [if_neg (show ¬ ¬ stp = 0 from fun z => z c_94)])); (try (first | rw [if_pos (show ¬ gA g 74 (4 * z + i) = 0 from c_114)] | rw [if_neg (show ¬ ¬ gA g 74 (4 * z + i) = 0 from fun z => z c_114)]))
      · refine J_aload_n (nx := 98) dX12_matchIn_97 rfl rfl ?_
        refine Jg_63_26 (nx := 101) dX12_matchIn_98 rfl fl_X12_46 ?_
        refine J_iload (nx := 103) dX12_matchIn_101 rfl rfl ?_
        refine Ja_73 (nx := 104) dX12_matchIn_103 rfl (vpE (n := (4 * z + i)) (Eq.refl (nI ((4 * z + i)))) (by omega) (by decide)) ?_
        rw [clE (n := (4 * z + i)) (Eq.refl (nI ((4 * z + i)))) (by omega)]
        refine J_goto (nx := 122) dX12_matchIn_104 (by decide) ?_
        refine J_lmul (nx := 123) dX12_matchIn_122 rfl ?_
        refine J_ladd (nx := 124) dX12_matchIn_123 rfl ?_
        refine J_lstore (nx := 126) dX12_matchIn_124 rfl rfl (Nat.le_of_ble_eq_true rfl) ?_
        refine J_iinc (nx := 129) dX12_matchIn_126 rfl rfl rfl (Nat.le_of_ble_eq_true rfl) ?_
        refine J_goto (nx := 64) dX12_matchIn_129 (by decide) ?_
        rw [show (nI ((4 * z + i)) + Int32.ofInt 1) = nI (4 * z + (i + 1)) from (show nI ((4 * z + i)) + Int32.ofInt 1 = nI ((4 * z + i) + 1) from nI_add ((4 * z + i)) 1)]
        refine J.lv (fun v => [some (.ref 63), some (.int jd), some (.int b), some (.int m), some (.int stp), some (.long (v)), none, some (.int (nI (q))), some (.int (nI (z))), some (.int (nI (4 * z + (i + 1))))]) ?_ (ih (i + 1) (by omega) hK)
        refine congrArg (acL 0 (mtT W gl rl m jd b stp) (32 * q + (4 * z + i)) + ·) ?_
        show _ = mtT W gl rl m jd b stp (32 * q + (4 * z + i))
        unfold mtT
        rw [show (32 * q + (4 * z + i)) / 32 = q by omega, show (32 * q + (4 * z + i)) % 32 = 4 * z + i by omega, show (4 * z + i) / 4 = z by omega, ← hA.w0 (s := 4 * z + i) (by omega), ← hA.a0 (s := 4 * z + i) (by omega), show gA g 64 = W from hA.1.1]
        unfold mtV
        (try (first | rw [if_pos (show ¬ stp = 0 from c_94)] | rw [if_neg (show ¬ ¬ stp = 0 from fun z => z c_94)])); (try (first | rw [if_pos (show ¬ gA g 74 (4 * z + i) = 0 from c_114)] | rw [if_neg (show ¬ ¬ gA g 74 (4 * z + i) = 0 from fun z => z c_114)]))

set_option maxRecDepth 100000 in
set_option maxHeartbeats 4000000 in
theorem lp_m_mt2 (Q : Res → List ME → Prop) (g0 : GS) (W : Nat → Int32) (gl : List TxL) (rl : Nat → List TxL) (m jd b stp : Int32) (hM : MOK W gl rl) (hjd : jdOK W jd) (q : Nat) (hq : q < 6) (n0 : Nat) : ∀ (k : Nat) (z : Nat) (g : GS), z + k = 8 → Fr fA aQ g0 g → LSt W gl m g → (∀ g, Fr fA aQ g0 g → LSt W gl m g → J mX12_matchIn (rm 5 0 0) Q n0 138 [some (.ref 63), some (.int jd), some (.int b), some (.int m), some (.int stp), some (.long (acL 0 (mtT W gl rl m jd b stp) (32 * q + 32))), none, some (.int (nI (q))), some (.int (nI 8)), none] [] (Wd g) 0 0) → J mX12_matchIn (rm 5 0 0) (Q) n0 25 [some (.ref 63), some (.int jd), some (.int b), some (.int m), some (.int stp), some (.long (acL 0 (mtT W gl rl m jd b stp) (32 * q + 4 * z))), none, some (.int (nI (q))), some (.int (nI (z))), none] [] (Wd g) 0 0 := by
  intro k
  induction k with
  | zero =>
    intro z g hk hfr hL hK
    refine J_iload (nx := 27) dX12_matchIn_25 rfl rfl ?_
    refine J_bipush (nx := 29) (i := 8) (v := 8) (by decide) dX12_matchIn_27 rfl ?_
    refine J_icmp_ge (nx := 32) (tgt := 138) dX12_matchIn_29 rfl (by decide) (fun c_29 => ?_) (fun c_29 => ?_)
    · obtain rfl : z = 8 := by omega
      exact hK g hfr hL
    · exact absurd (show nI 8 ≤ nI z from by rw [show z = 8 by omega]; exact le_self_nI) c_29
  | succ k ih =>
    intro z g hk hfr hL hK
    have hM2 := hM
    obtain ⟨⟨hG10, hG⟩, ⟨hT1, hT60, hT⟩, ⟨hR4, hR, hrl⟩, ⟨hN6, hN⟩, hgl, hgk⟩ := hM2
    refine J_iload (nx := 27) dX12_matchIn_25 rfl rfl ?_
    refine J_bipush (nx := 29) (i := 8) (v := 8) (by decide) dX12_matchIn_27 rfl ?_
    refine J_icmp_ge (nx := 32) (tgt := 138) dX12_matchIn_29 rfl (by decide) (fun c_29 => ?_) (fun c_29 => ?_)
    · exact absurd c_29 (nlt_nI (n := 8) (by omega) (by omega))
    · have hz : z < 8 := by omega
      refine J_aload_n (nx := 33) dX12_matchIn_32 rfl rfl ?_
      refine J_iload (nx := 35) dX12_matchIn_33 rfl rfl ?_
      refine J_iload (nx := 37) dX12_matchIn_35 rfl rfl ?_
      refine J_aload_n (nx := 38) dX12_matchIn_37 rfl rfl ?_
      refine J_iload (nx := 40) dX12_matchIn_38 rfl rfl ?_
      skip
      refine JcV1 (R' := rm (1) 0 0) (nx := 43) dX12_matchIn_40 rfl ml_X12_toldCard lk_X12_320 iv_X12_toldCard rfl rfl ⟨(Nat.le_of_ble_eq_true rfl), (Nat.le_of_ble_eq_true rfl)⟩ (Nat.le_of_ble_eq_true rfl) ⟨rfl, rfl⟩ (ct_m_toldCard _ (q) (by omega)) ?_
      rw [show mSo g q 0 = wTo W q from congrFun hL.1 _]
      refine JcV3 (R' := rm (3) 0 0) (nx := 46) dX12_matchIn_43 rfl ml_X12_fouls lk_X12_323 iv_X12_fouls rfl rfl ⟨(Nat.le_of_ble_eq_true rfl), (Nat.le_of_ble_eq_true rfl)⟩ (Nat.le_of_ble_eq_true rfl) ⟨rfl, rfl⟩ (ct_m_fouls g q z hq hz (wTo W q)) ?_
      refine J.gen (fun g_43 hg_43 => ?_)
      refine J_aload_n (nx := 47) dX12_matchIn_46 rfl rfl ?_
      refine J_iload_n (nx := 48) dX12_matchIn_47 rfl rfl ?_
      refine J_iload_n (nx := 49) dX12_matchIn_48 rfl rfl ?_
      refine J_aload_n (nx := 50) dX12_matchIn_49 rfl rfl ?_
      refine Jg_63_1 (nx := 53) dX12_matchIn_50 rfl fl_X12_13 ?_
      refine J_iconst (nx := 54) (i := 4) (v := 4) (by decide) dX12_matchIn_53 rfl ?_
      refine Ja_64 (nx := 55) dX12_matchIn_54 rfl (vpE (n := 4) (nIc 4) (by omega) (by decide)) ?_
      rw [clE (n := 4) (nIc 4) (by omega)]
      have hL2 : LSt W gl m g_43 := by rw [hg_43]; exact hL.Fo
      have hF2 : FSt W q z (wTo W q) g_43 := by rw [hg_43]; exact FSt.Fo hL.1
      rw [show gA g_43 64 4 = nI (mG W) from (congrFun hL2.1 4).trans hG]
      refine JvV3 (R' := rm (4) 0 0) (nx := 58) dX12_matchIn_55 rfl ml_X12_judges lk_X12_338 iv_X12_judges rfl rfl ⟨(Nat.le_of_ble_eq_true rfl), (Nat.le_of_ble_eq_true rfl)⟩ (Nat.le_of_ble_eq_true rfl) ⟨rfl, rfl⟩ (ct_m_judges g_43 (mJP W gl rl m q z (wTo W q) jd b (mG W)) (mJP_ok hM hL2 hF2 hjd hG10 hz)) (fun g_55 p_55 => ?_)
      refine J_iconst (nx := 59) (i := 4) (v := 4) (by decide) dX12_matchIn_58 rfl ?_
      refine J_iload (nx := 61) dX12_matchIn_59 rfl rfl ?_
      refine J_imul (nx := 62) dX12_matchIn_61 rfl ?_
      rw [show ((4 : Int32) * nI (z)) = nI ((4 * z)) from (nIm (nIc 4) (Eq.refl (nI (z))))]
      refine J_istore (nx := 64) dX12_matchIn_62 rfl rfl (Nat.le_of_ble_eq_true rfl) ?_
      have hA := AS.of hL2 hF2 p_55
      rw [show nI ((4 * z)) = nI (4 * z + 0) from (Eq.refl (nI ((4 * z))))]
      refine lp_m_mt1 _ g_55 W gl rl m jd b stp q z hq hz hA n0 4 0 rfl ?_
      refine J_iinc (nx := 135) dX12_matchIn_132 rfl rfl rfl (Nat.le_of_ble_eq_true rfl) ?_
      refine J_goto (nx := 25) dX12_matchIn_135 (by decide) ?_
      refine J_kill (nx := 0) 9 ?_
      rw [show (nI (z) + Int32.ofInt 1) = nI (z + 1) from (show nI (z) + Int32.ofInt 1 = nI (z + 1) from nI_add (z) 1)]
      exact ih (z + 1) g_55 (by omega) ((show Fr fA aQ g0 g_43 by rw [hg_43]; exact Fr.mFo hfr).J p_55.1) hA.1 hK

set_option maxRecDepth 100000 in
set_option maxHeartbeats 4000000 in
theorem lp_m_mt3 (g0 : GS) (W : Nat → Int32) (gl : List TxL) (rl : Nat → List TxL) (m jd b stp : Int32) (hM : MOK W gl rl) (hjd : jdOK W jd) (n0 : Nat) : ∀ (k : Nat) (q : Nat) (g : GS), q + k = mN W → Fr fA aQ g0 g → LSt W gl m g → J mX12_matchIn (rm 5 0 0) (RXl (fun x g2 => x = acL 0 (mtT W gl rl m jd b stp) (32 * mN W) ∧ Fr fA aQ g0 g2 ∧ LSt W gl m g2)) n0 11 [some (.ref 63), some (.int jd), some (.int b), some (.int m), some (.int stp), some (.long (acL 0 (mtT W gl rl m jd b stp) (32 * q))), none, some (.int (nI (q))), none, none] [] (Wd g) 0 0 := by
  intro k
  induction k with
  | zero =>
    intro q g hk hfr hL
    have hM2 := hM
    obtain ⟨⟨hG10, hG⟩, ⟨hT1, hT60, hT⟩, ⟨hR4, hR, hrl⟩, ⟨hN6, hN⟩, hgl, hgk⟩ := hM2
    refine J_iload (nx := 13) dX12_matchIn_11 rfl rfl ?_
    refine J_aload_n (nx := 14) dX12_matchIn_13 rfl rfl ?_
    refine Jg_63_1 (nx := 17) dX12_matchIn_14 rfl fl_X12_13 ?_
    refine J_iconst (nx := 18) (i := 2) (v := 2) (by decide) dX12_matchIn_17 rfl ?_
    refine Ja_64 (nx := 19) dX12_matchIn_18 rfl (vpE (n := 2) (nIc 2) (by omega) (by decide)) ?_
    rw [clE (n := 2) (nIc 2) (by omega)]
    rw [show gA g 64 2 = nI (mN W) from (congrFun hL.1 2).trans hN]
    refine J_icmp_ge (nx := 22) (tgt := 144) dX12_matchIn_19 rfl (by decide) (fun c_19 => ?_) (fun c_19 => ?_)
    · refine J_lload (nx := 146) dX12_matchIn_144 rfl rfl ?_
      exact Jrl dX12_matchIn_146 rfl (Nat.zero_le _) (Nat.zero_le _) (RXl.of ⟨by rw [show q = mN W by omega], hfr, hL⟩)
    · exact absurd (show nI (mN W) ≤ nI q from by rw [show q = mN W by omega]; exact le_self_nI) c_19
  | succ k ih =>
    intro q g hk hfr hL
    have hM2 := hM
    obtain ⟨⟨hG10, hG⟩, ⟨hT1, hT60, hT⟩, ⟨hR4, hR, hrl⟩, ⟨hN6, hN⟩, hgl, hgk⟩ := hM2
    refine J_iload (nx := 13) dX12_matchIn_11 rfl rfl ?_
    refine J_aload_n (nx := 14) dX12_matchIn_13 rfl rfl ?_
    refine Jg_63_1 (nx := 17) dX12_matchIn_14 rfl fl_X12_13 ?_
    refine J_iconst (nx := 18) (i := 2) (v := 2) (by decide) dX12_matchIn_17 rfl ?_
    refine Ja_64 (nx := 19) dX12_matchIn_18 rfl (vpE (n := 2) (nIc 2) (by omega) (by decide)) ?_
    rw [clE (n := 2) (nIc 2) (by omega)]
    rw [show gA g 64 2 = nI (mN W) from (congrFun hL.1 2).trans hN]
    refine J_icmp_ge (nx := 22) (tgt := 144) dX12_matchIn_19 rfl (by decide) (fun c_19 => ?_) (fun c_19 => ?_)
    · exact absurd c_19 (nlt_nI (n := mN W) (by omega) (by omega))
    · refine J_iconst (nx := 23) (i := 0) (v := 0) (by decide) dX12_matchIn_22 rfl ?_
      refine J_istore (nx := 25) dX12_matchIn_23 rfl rfl (Nat.le_of_ble_eq_true rfl) ?_
      refine lp_m_mt2 _ g0 W gl rl m jd b stp hM hjd q (by omega) n0 8 0 g rfl hfr hL (fun g hfr hL => ?_)
      refine J_iinc (nx := 141) dX12_matchIn_138 rfl rfl rfl (Nat.le_of_ble_eq_true rfl) ?_
      refine J_goto (nx := 11) dX12_matchIn_141 (by decide) ?_
      refine J_kill (nx := 0) 8 ?_
      rw [show (nI (q) + Int32.ofInt 1) = nI (q + 1) from (show nI (q) + Int32.ofInt 1 = nI (q + 1) from nI_add (q) 1)]
      exact ih (q + 1) g (by omega) hfr hL

set_option maxRecDepth 100000 in
set_option maxHeartbeats 4000000 in
theorem ct_m_matchIn (g : GS) (W : Nat → Int32) (gl : List TxL) (rl : Nat → List TxL) (hW : gA g 64 = W) (hM : MOK W gl rl) (jd b m stp : Int32) (hjd : jdOK W jd) : Ct mX12_matchIn (rm 5 0 0) [.ref 63, .int jd, .int b, .int m, .int stp] (Wd g) (RXl (fun x g2 => x = acL 0 (mtT W gl rl m jd b stp) (32 * mN W) ∧ Fr fA aQ g g2 ∧ LSt W gl m g2)) := by
  have hM2 := hM
  obtain ⟨⟨hG10, hG⟩, ⟨hT1, hT60, hT⟩, ⟨hR4, hR, hrl⟩, ⟨hN6, hN⟩, hgl, hgk⟩ := hM2
  refine Ct.of (by decide +kernel) (Nat.le_of_ble_eq_true rfl) ?_
  show J _ _ _ _ 0 [some (.ref 63), some (.int jd), some (.int b), some (.int m), some (.int stp), none, none, none, none, none] [] _ 0 0
  refine J_aload_n (nx := 1) dX12_matchIn_0 rfl rfl ?_
  refine J_iload_n (nx := 2) dX12_matchIn_1 rfl rfl ?_
  refine JvV1 (R' := rm (4) 0 0) (nx := 5) dX12_matchIn_2 rfl ml_X12_letsOn lk_X12_296 iv_X12_letsOn rfl rfl ⟨(Nat.le_of_ble_eq_true rfl), (Nat.le_of_ble_eq_true rfl)⟩ (Nat.le_of_ble_eq_true rfl) ⟨rfl, rfl⟩ (ct_m_letsOn g W m gl hW hgl hgk) (fun g_2 p_2 => ?_)
  refine J_lconst (nx := 6) (i := 0) (v := 0) (by decide) dX12_matchIn_5 rfl ?_
  refine J_lstore (nx := 8) dX12_matchIn_6 rfl rfl (Nat.le_of_ble_eq_true rfl) ?_
  refine J_iconst (nx := 9) (i := 0) (v := 0) (by decide) dX12_matchIn_8 rfl ?_
  refine J_istore (nx := 11) dX12_matchIn_9 rfl rfl (Nat.le_of_ble_eq_true rfl) ?_
  exact lp_m_mt3 g W gl rl m jd b stp hM hjd _ (mN W) 0 g_2 (by omega) (Fr.rf.LO p_2.1) (LOK.ls hW p_2)


def chI (of n : Nat) : Nat → Int64
  | 0 => 1
  | k + 1 => chI of n k * (nI (of - n + (k + 1))).toInt64 / (nI (k + 1)).toInt64
def chV (of : Nat) (n : Int32) : Int64 := if n < 0 then 0 else if nI of < n then 0 else chI of n.toNatClampNeg n.toNatClampNeg
theorem nI64_ne {i : Nat} (h : 1 ≤ i) (h2 : i < 2 ^ 31) : ¬ (nI i).toInt64 = 0 := fun z => by
  have h3 : (nI i).toInt64.toInt = 0 := by rw [z]; rfl
  rw [Int32.toInt_toInt64, nI_toInt h2] at h3
  omega
set_option maxRecDepth 100000 in
set_option maxHeartbeats 4000000 in
theorem lp_m_choices (g : GS) (of q : Nat) (ho : of ≤ 60) (hq : q ≤ of) (n0 : Nat) : ∀ (k : Nat) (i : Nat), i + k = q → J mX12_choices (rm 0 0 0) (RR (.inl (some (.long (chI of q q)))) g) n0 16 [some (.int (nI (of))), some (.int (nI (q))), some (.long (chI of q i)), none, some (.int (nI (i + 1)))] [] (Wd g) 0 0 := by
  intro k
  induction k with
  | zero =>
    intro i hk
    refine J_iload (nx := 18) dX12_choices_16 rfl rfl ?_
    refine J_iload_n (nx := 19) dX12_choices_18 rfl rfl ?_
    refine J_icmp_gt (nx := 22) (tgt := 42) dX12_choices_19 rfl (by decide) (fun c_19 => ?_) (fun c_19 => ?_)
    · refine J_lload_n (nx := 43) dX12_choices_42 rfl rfl ?_
      exact Jrl dX12_choices_43 rfl (Nat.zero_le _) (Nat.zero_le _) ⟨by rw [show i = q by omega], rfl⟩
    · exact absurd (show nI q < nI (i + 1) from nI_lt (by omega) (by omega)) c_19
  | succ k ih =>
    intro i hk
    refine J_iload (nx := 18) dX12_choices_16 rfl rfl ?_
    refine J_iload_n (nx := 19) dX12_choices_18 rfl rfl ?_
    refine J_icmp_gt (nx := 22) (tgt := 42) dX12_choices_19 rfl (by decide) (fun c_19 => ?_) (fun c_19 => ?_)
    · exact absurd (nI_ltd (a := q) (b := i + 1) (by omega) (by omega) c_19) (by omega)
    · refine J_lload_n (nx := 23) dX12_choices_22 rfl rfl ?_
      refine J_iload_n (nx := 24) dX12_choices_23 rfl rfl ?_
      refine J_iload_n (nx := 25) dX12_choices_24 rfl rfl ?_
      refine J_isub (nx := 26) dX12_choices_25 rfl ?_
      refine J_iload (nx := 28) dX12_choices_26 rfl rfl ?_
      refine J_iadd (nx := 29) dX12_choices_28 rfl ?_
      rw [show ((nI (of) - nI (q)) + nI ((i + 1))) = nI (((of - q) + (i + 1))) from (nIa (nIs (by omega) (Eq.refl (nI (of))) (Eq.refl (nI (q)))) (Eq.refl (nI ((i + 1)))))]
      refine J_i2l (nx := 30) dX12_choices_29 rfl ?_
      refine J_lmul (nx := 31) dX12_choices_30 rfl ?_
      refine J_iload (nx := 33) dX12_choices_31 rfl rfl ?_
      refine J_i2l (nx := 34) dX12_choices_33 rfl ?_
      refine J_ldiv (nx := 35) (nI64_ne (by omega) (by omega)) dX12_choices_34 rfl ?_
      refine J_lstore_n (nx := 36) dX12_choices_35 rfl rfl (Nat.le_of_ble_eq_true rfl) ?_
      refine J_iinc (nx := 39) dX12_choices_36 rfl rfl rfl (Nat.le_of_ble_eq_true rfl) ?_
      refine J_goto (nx := 16) dX12_choices_39 (by decide) ?_
      rw [show (nI ((i + 1)) + Int32.ofInt 1) = nI (i + 1 + 1) from (show nI ((i + 1)) + Int32.ofInt 1 = nI ((i + 1) + 1) from nI_add ((i + 1)) 1)]
      exact ih (i + 1) (by omega)

theorem nlt_le {a b : Int32} (h : ¬ a < b) : b ≤ a := Int32.le_iff_toInt_le.mpr (by have h2 : ¬ a.toInt < b.toInt := fun z => h (Int32.lt_iff_toInt_lt.mpr z); omega)
theorem nle_lt {a b : Int32} (h : ¬ a ≤ b) : b < a := Int32.lt_iff_toInt_lt.mpr (by have h2 : ¬ a.toInt ≤ b.toInt := fun z => h (Int32.le_iff_toInt_le.mpr z); omega)
set_option maxRecDepth 100000 in
set_option maxHeartbeats 4000000 in
theorem ct_m_choices (g : GS) (of : Nat) (n : Int32) (ho : of ≤ 60) : Ct mX12_choices (rm 0 0 0) [.int (nI (of)), .int n] (Wd g) (RR (.inl (some (.long (chV of n)))) g) := by
  refine Ct.of (by decide +kernel) (Nat.le_of_ble_eq_true rfl) ?_
  show J _ _ _ _ 0 [some (.int (nI (of))), some (.int n), none, none, none] [] _ 0 0
  refine J_iload_n (nx := 1) dX12_choices_0 rfl rfl ?_
  refine J_if_lt (nx := 4) (tgt := 9) dX12_choices_1 rfl (by decide) (fun c_1 => ?_) (fun c_1 => ?_)
  · refine J_lconst (nx := 10) (i := 0) (v := 0) (by decide) dX12_choices_9 rfl ?_
    exact Jrl dX12_choices_10 rfl (Nat.zero_le _) (Nat.zero_le _) (RR.l (by unfold chV; first | rw [if_pos c_1] | rw [if_neg c_1, if_pos (show nI of < n from nle_lt c_6)]) rfl)
  · refine J_iload_n (nx := 5) dX12_choices_4 rfl rfl ?_
    refine J_iload_n (nx := 6) dX12_choices_5 rfl rfl ?_
    refine J_icmp_le (nx := 9) (tgt := 11) dX12_choices_6 rfl (by decide) (fun c_6 => ?_) (fun c_6 => ?_)
    · obtain ⟨q, hq, rfl⟩ : ∃ q, q ≤ of ∧ n = nI q := by
        have h1 : (0 : Int32) ≤ n := nlt_le c_1
        have h2 := Int32.le_iff_toInt_le.mp h1
        have h3 := Int32.le_iff_toInt_le.mp (show n ≤ nI of from c_6)
        rw [show (0 : Int32).toInt = 0 from rfl] at h2
        rw [nI_toInt (by omega)] at h3
        refine ⟨n.toInt.toNat, by omega, ?_⟩
        apply Int32.toInt_inj.mp
        rw [nI_toInt (by omega)]; omega
      rw [show chV of (nI q) = chI of q q from by unfold chV; rw [if_neg c_1, if_neg (fun z => absurd (nI_ltd (a := of) (b := q) (by omega) (by omega) z) (by omega)), nI_clamp (by omega)]]
      refine J_lconst (nx := 12) (i := 1) (v := 1) (by decide) dX12_choices_11 rfl ?_
      refine J_lstore_n (nx := 13) dX12_choices_12 rfl rfl (Nat.le_of_ble_eq_true rfl) ?_
      refine J_iconst (nx := 14) (i := 1) (v := 1) (by decide) dX12_choices_13 rfl ?_
      refine J_istore (nx := 16) dX12_choices_14 rfl rfl (Nat.le_of_ble_eq_true rfl) ?_
      exact lp_m_choices g of q ho hq _ q 0 (by omega)
    · refine J_lconst (nx := 10) (i := 0) (v := 0) (by decide) dX12_choices_9 rfl ?_
      exact Jrl dX12_choices_10 rfl (Nat.zero_le _) (Nat.zero_le _) (RR.l (by unfold chV; first | rw [if_pos c_1] | rw [if_neg c_1, if_pos (show nI of < n from nle_lt c_6)]) rfl)


def mrS (x : Int32) : Int32 := 1103515245 * x + 12345
def drV (x : Int32) : Int32 := mrS x >>> ((16 : Int32) &&& 31) &&& 32767
def drL (x : Int32) : Int32 := drV x - drV x / 100 * 100
def dwF (f : Nat → Int32) (s : Nat) : Nat → Nat → Int32 → Nat
  | 0, _, _ => s
  | k + 1, i, l => if 0 ≤ l - f i then dwF f s k (i + 1) (l - f i) else i
def wDw (W : Nat → Int32) (s : Nat) (l : Int32) : Nat := dwF (fun q => W (18 + 34 * s + q)) s 34 0 l
theorem dwF_lt {f : Nat → Int32} {s : Nat} (hs : s < 34) : ∀ (k i : Nat) (l : Int32), i + k = 34 → dwF f s k i l < 34 := by
  intro k
  induction k with
  | zero => intro i l _; exact hs
  | succ k ih =>
    intro i l h
    show (if 0 ≤ l - f i then dwF f s k (i + 1) (l - f i) else i) < 34
    by_cases c : 0 ≤ l - f i
    · rw [if_pos c]; exact ih _ _ (by omega)
    · rw [if_neg c]; omega
theorem wDw_lt {W : Nat → Int32} {s : Nat} {l : Int32} (hs : s < 32) : wDw W s l < 34 := dwF_lt (by omega) 34 0 l rfl
def drG (g : GS) : GS := sF g 63 31 (mrS (gF g 63 31))
set_option maxRecDepth 100000 in
set_option maxHeartbeats 4000000 in
theorem ct_m_draw (g : GS) : Ct mX12_draw (rm 0 0 0) [.ref 63] (Wd g) (RR (.inl (some (.int (drV (gF g 63 31))))) (drG g)) := by
  refine Ct.of (by decide +kernel) (Nat.le_of_ble_eq_true rfl) ?_
  show J _ _ _ _ 0 [some (.ref 63)] [] _ 0 0
  refine J_aload_n (nx := 1) dX12_draw_0 rfl rfl ?_
  refine J_ldcw (nx := 4) cn_X12_377 dX12_draw_1 rfl ?_
  refine J_aload_n (nx := 5) dX12_draw_4 rfl rfl ?_
  refine Jg_63_31 (nx := 8) dX12_draw_5 rfl fl_X12_378 ?_
  refine J_imul (nx := 9) dX12_draw_8 rfl ?_
  refine J_sipush (nx := 12) (i := 12345) (v := 12345) (by decide) dX12_draw_9 rfl ?_
  refine J_iadd (nx := 13) dX12_draw_12 rfl ?_
  refine Jp_63_31 (nx := 16) dX12_draw_13 rfl fl_X12_378 ?_
  refine J_aload_n (nx := 17) dX12_draw_16 rfl rfl ?_
  refine Jg_63_31 (nx := 20) dX12_draw_17 rfl fl_X12_378 ?_
  refine J_bipush (nx := 22) (i := 16) (v := 16) (by decide) dX12_draw_20 rfl ?_
  refine J_ishr (nx := 23) dX12_draw_22 rfl ?_
  refine J_sipush (nx := 26) (i := 32767) (v := 32767) (by decide) dX12_draw_23 rfl ?_
  refine J_iand (nx := 27) dX12_draw_26 rfl ?_
  exact Jri dX12_draw_27 rfl (Nat.zero_le _) (Nat.zero_le _) ⟨rfl, rfl⟩

set_option maxRecDepth 100000 in
set_option maxHeartbeats 4000000 in
theorem lp_m_drawn (g : GS) (W : Nat → Int32) (hW : gA g 64 = W) (s : Nat) (hs : s < 32) (n0 : Nat) : ∀ (k : Nat) (i : Nat) (l : Int32) (r : Nat), i + k = 34 → r = dwF (fun q => W (18 + 34 * s + q)) s k i l → J mX12_drawn (rm 1 0 0) (RR (.inl (some (.int (nI r)))) g) n0 10 [some (.ref 63), some (.int (nI (s))), some (.int (l)), some (.int (nI (i)))] [] (Wd g) 0 0 := by
  intro k
  induction k with
  | zero =>
    intro i l r hk hr
    refine J_iload_n (nx := 11) dX12_drawn_10 rfl rfl ?_
    refine J_bipush (nx := 13) (i := 34) (v := 34) (by decide) dX12_drawn_11 rfl ?_
    refine J_icmp_ge (nx := 16) (tgt := 41) dX12_drawn_13 rfl (by decide) (fun c_13 => ?_) (fun c_13 => ?_)
    · refine J_iload_n (nx := 42) dX12_drawn_41 rfl rfl ?_
      exact Jri dX12_drawn_42 rfl (Nat.zero_le _) (Nat.zero_le _) ⟨by rw [hr]; rfl, rfl⟩
    · exact absurd (show nI 34 ≤ nI i from by rw [show i = 34 by omega]; exact le_self_nI) c_13
  | succ k ih =>
    intro i l r hk hr
    refine J_iload_n (nx := 11) dX12_drawn_10 rfl rfl ?_
    refine J_bipush (nx := 13) (i := 34) (v := 34) (by decide) dX12_drawn_11 rfl ?_
    refine J_icmp_ge (nx := 16) (tgt := 41) dX12_drawn_13 rfl (by decide) (fun c_13 => ?_) (fun c_13 => ?_)
    · exact absurd c_13 (nlt_nI (n := 34) (by omega) (by omega))
    · have hi : i < 34 := by omega
      refine J_iload_n (nx := 17) dX12_drawn_16 rfl rfl ?_
      refine J_aload_n (nx := 18) dX12_drawn_17 rfl rfl ?_
      refine Jg_63_1 (nx := 21) dX12_drawn_18 rfl fl_X12_13 ?_
      refine J_iload_n (nx := 22) dX12_drawn_21 rfl rfl ?_
      refine J_iload_n (nx := 23) dX12_drawn_22 rfl rfl ?_
      refine JcS2 (R' := rm (0) 0 0) (nx := 26) dX12_drawn_23 rfl ml_X12_chanceAt lk_X12_248 st_X12_chanceAt ⟨(Nat.le_of_ble_eq_true rfl), (Nat.le_of_ble_eq_true rfl)⟩ (Nat.le_of_ble_eq_true rfl) ⟨rfl, rfl⟩ (ct_m_chanceAt _ (s) (i)) ?_
      refine Ja_64 (nx := 27) dX12_drawn_26 rfl (vpE (n := (18 + 34 * s + i)) (Eq.refl (nI ((18 + 34 * s + i)))) (by omega) (by decide)) ?_
      rw [clE (n := (18 + 34 * s + i)) (Eq.refl (nI ((18 + 34 * s + i)))) (by omega)]
      refine J_isub (nx := 28) dX12_drawn_27 rfl ?_
      refine J_istore_n (nx := 29) dX12_drawn_28 rfl rfl (Nat.le_of_ble_eq_true rfl) ?_
      refine J_iload_n (nx := 30) dX12_drawn_29 rfl rfl ?_
      refine J_if_ge (nx := 33) (tgt := 35) dX12_drawn_30 rfl (by decide) (fun c_30 => ?_) (fun c_30 => ?_)
      · refine J_iinc (nx := 38) dX12_drawn_35 rfl rfl rfl (Nat.le_of_ble_eq_true rfl) ?_
        refine J_goto (nx := 10) dX12_drawn_38 (by decide) ?_
        rw [show (nI (i) + Int32.ofInt 1) = nI (i + 1) from (show nI (i) + Int32.ofInt 1 = nI (i + 1) from nI_add (i) 1), show gA g 64 (18 + 34 * s + i) = W (18 + 34 * s + i) from congrFun hW _]
        refine ih (i + 1) _ r (by omega) ?_
        rw [hr]
        exact if_pos (show 0 ≤ l - W (18 + 34 * s + i) from by rw [← hW]; exact c_30)
      · refine J_iload_n (nx := 34) dX12_drawn_33 rfl rfl ?_
        exact Jri dX12_drawn_34 rfl (Nat.zero_le _) (Nat.zero_le _) ⟨by rw [hr]; exact congrArg (fun v => Sum.inl (some (Value.int (nI v)))) (if_neg (show ¬ 0 ≤ l - W (18 + 34 * s + i) from by rw [← hW]; exact c_30)).symm, rfl⟩

set_option maxRecDepth 100000 in
set_option maxHeartbeats 4000000 in
theorem ct_m_drawn (g : GS) (W : Nat → Int32) (hW : gA g 64 = W) (s : Nat) (hs : s < 32) : Ct mX12_drawn (rm 1 0 0) [.ref 63, .int (nI (s))] (Wd g) (RR (.inl (some (.int (nI (wDw W s (drL (gF g 63 31))))))) (drG g)) := by
  refine Ct.of (by decide +kernel) (Nat.le_of_ble_eq_true rfl) ?_
  show J _ _ _ _ 0 [some (.ref 63), some (.int (nI (s))), none, none] [] _ 0 0
  refine J_aload_n (nx := 1) dX12_drawn_0 rfl rfl ?_
  refine JcV0 (R' := rm (0) 0 0) (nx := 4) dX12_drawn_1 rfl ml_X12_draw lk_X12_381 iv_X12_draw rfl rfl ⟨(Nat.le_of_ble_eq_true rfl), (Nat.le_of_ble_eq_true rfl)⟩ (Nat.le_of_ble_eq_true rfl) ⟨rfl, rfl⟩ (ct_m_draw _) ?_
  refine J.gen (fun g_1 hg_1 => ?_)
  refine J_bipush (nx := 6) (i := 100) (v := 100) (by decide) dX12_drawn_4 rfl ?_
  refine J_irem (nx := 7) (by decide) dX12_drawn_6 rfl ?_
  refine J_istore_n (nx := 8) dX12_drawn_7 rfl rfl (Nat.le_of_ble_eq_true rfl) ?_
  refine J_iconst (nx := 9) (i := 0) (v := 0) (by decide) dX12_drawn_8 rfl ?_
  refine J_istore_n (nx := 10) dX12_drawn_9 rfl rfl (Nat.le_of_ble_eq_true rfl) ?_
  rw [← hg_1]
  exact lp_m_drawn g_1 W (by rw [hg_1]; exact hW) s hs _ 34 0 _ _ rfl rfl


def plB (W : Nat → Int32) (a : Int32) (n p : Nat) (x : Int32) (r : Nat → Bool → Int32 → Int32 × Int32) : Int32 × Int32 :=
  if ¬ a = 0 then (if ¬ nI (wDw W p (drL x)) = 32 then (if ¬ nI (wDw W p (drL x)) = 33 then r (wDw W p (drL x)) (decide (a = 1)) (mrS x) else (if ¬ a = 1 then nI n + 1 else 200 + nI n + 1, mrS x)) else (100 + nI n + 1, mrS x)) else (nI n, x)
def plA (goes : Bool) (a : Int32) : Int32 := if bI goes = 0 then a else 1
def plE (a : Int32) (T : Nat) : Int32 := if ¬ a = 0 then 300 + nI T else nI T
def mpF (W : Nat → Int32) (ac : Nat → Nat → Int32) : Nat → Nat → Nat → Bool → Int32 → Int32 × Int32
  | 0, n, p, goes, x => (plE (plA goes (ac n p)) n, x)
  | k + 1, n, p, goes, x => plB W (plA goes (ac n p)) n p x (mpF W ac k (n + 1))
def f31 (c k : Nat) : Bool := Nat.beq c 63 && Nat.beq k 31
def aNo (c : Nat) : Bool := false
def PLR (g0 : GS) (r : Int32 × Int32) : Res → List ME → Prop := RXi (fun v g2 => v = r.1 ∧ Fr f31 aNo g0 g2 ∧ gF g2 63 31 = r.2)
theorem plB_0 {W : Nat → Int32} {a : Int32} {n p : Nat} {x : Int32} {r : Nat → Bool → Int32 → Int32 × Int32} (h : a = 0) : plB W a n p x r = (nI n, x) := if_neg (fun z => z h)
theorem plB_32 {W : Nat → Int32} {a : Int32} {n p : Nat} {x : Int32} {r : Nat → Bool → Int32 → Int32 × Int32} (h : ¬ a = 0) (h2 : nI (wDw W p (drL x)) = 32) : plB W a n p x r = (100 + nI n + 1, mrS x) := by unfold plB; rw [if_pos h, if_neg (fun z => z h2)]
theorem plB_33 {W : Nat → Int32} {a : Int32} {n p : Nat} {x : Int32} {r : Nat → Bool → Int32 → Int32 × Int32} (h : ¬ a = 0) (h2 : ¬ nI (wDw W p (drL x)) = 32) (h3 : nI (wDw W p (drL x)) = 33) : plB W a n p x r = (if ¬ a = 1 then nI n + 1 else 200 + nI n + 1, mrS x) := by unfold plB; rw [if_pos h, if_pos h2, if_neg (fun z => z h3)]
theorem plB_go {W : Nat → Int32} {a : Int32} {n p : Nat} {x : Int32} {r : Nat → Bool → Int32 → Int32 × Int32} (h : ¬ a = 0) (h2 : ¬ nI (wDw W p (drL x)) = 32) (h3 : ¬ nI (wDw W p (drL x)) = 33) : plB W a n p x r = r (wDw W p (drL x)) (decide (a = 1)) (mrS x) := by unfold plB; rw [if_pos h, if_pos h2, if_pos h3]
theorem plA_t {goes : Bool} {a : Int32} (h : ¬ bI goes = 0) : plA goes a = 1 := if_neg h
theorem plA_f {goes : Bool} {a : Int32} (h : bI goes = 0) : plA goes a = a := if_pos h
set_option maxRecDepth 100000 in
set_option maxHeartbeats 4000000 in
theorem sg_m_pl40 (n0 : Nat) (g0 : GS) (W : Nat → Int32) (s0 : Int32) (g : GS) (hW : gA g 64 = W) (hfr : Fr f31 aNo g0 g) (p n : Nat) (hp : p < 32) (go a : Int32) (r : Int32 × Int32) (rec : Nat → Bool → Int32 → Int32 × Int32) (hr : r = plB W a n p (gF g 63 31) rec) (hK : ∀ g2 p2 go2, p2 < 32 → Fr f31 aNo g0 g2 → (go2 = false → ¬ a = 0 ∧ ¬ a = 1) → r = rec p2 go2 (gF g2 63 31) → J mX12_plays (rm 2 0 0) (PLR g0 r) n0 7 [some (.ref 63), some (.int s0), some (.int (bI go2)), some (.int (nI (p2))), some (.int (nI (n + 1))), none] [] (Wd g2) 0 0) : J mX12_plays (rm 2 0 0) (PLR g0 r) n0 40 [some (.ref 63), some (.int s0), some (.int (go)), some (.int (nI (p))), some (.int (nI (n))), some (.int (a))] [] (Wd g) 0 0 := by
  refine J_iload (nx := 42) dX12_plays_40 rfl rfl ?_
  refine J_if_ne (nx := 45) (tgt := 48) dX12_plays_42 rfl (by decide) (fun c_42 => ?_) (fun c_42 => ?_)
  · refine J_iload (nx := 50) dX12_plays_48 rfl rfl ?_
    refine J_iconst (nx := 51) (i := 1) (v := 1) (by decide) dX12_plays_50 rfl ?_
    refine J_icmp_ne (nx := 54) (tgt := 58) dX12_plays_51 rfl (by decide) (fun c_51 => ?_) (fun c_51 => ?_)
    · refine J_iconst (nx := 59) (i := 0) (v := 0) (by decide) dX12_plays_58 rfl ?_
      refine J_istore_n (nx := 60) dX12_plays_59 rfl rfl (Nat.le_of_ble_eq_true rfl) ?_
      refine J_aload_n (nx := 61) dX12_plays_60 rfl rfl ?_
      refine J_iload_n (nx := 62) dX12_plays_61 rfl rfl ?_
      refine JcV1 (R' := rm (1) 0 0) (nx := 65) dX12_plays_62 rfl ml_X12_drawn lk_X12_384 iv_X12_drawn rfl rfl ⟨(Nat.le_of_ble_eq_true rfl), (Nat.le_of_ble_eq_true rfl)⟩ (Nat.le_of_ble_eq_true rfl) ⟨rfl, rfl⟩ (ct_m_drawn g W hW p hp) ?_
      refine J.gen (fun g_62 hg_62 => ?_)
      refine J_istore_n (nx := 66) dX12_plays_65 rfl rfl (Nat.le_of_ble_eq_true rfl) ?_
      refine J_iload_n (nx := 67) dX12_plays_66 rfl rfl ?_
      refine J_bipush (nx := 69) (i := 32) (v := 32) (by decide) dX12_plays_67 rfl ?_
      refine J_icmp_ne (nx := 72) (tgt := 80) dX12_plays_69 rfl (by decide) (fun c_69 => ?_) (fun c_69 => ?_)
      · refine J_iload_n (nx := 81) dX12_plays_80 rfl rfl ?_
        refine J_bipush (nx := 83) (i := 33) (v := 33) (by decide) dX12_plays_81 rfl ?_
        refine J_icmp_ne (nx := 86) (tgt := 106) dX12_plays_83 rfl (by decide) (fun c_83 => ?_) (fun c_83 => ?_)
        · refine J_iinc (nx := 109) dX12_plays_106 rfl rfl rfl (Nat.le_of_ble_eq_true rfl) ?_
          refine J_goto (nx := 7) dX12_plays_109 (by decide) ?_
          have h1 := wDw_lt (W := W) (l := drL (gF g 63 31)) hp
          have h2 : wDw W p (drL (gF g 63 31)) ≠ 32 := fun z => c_69 (by rw [z]; rfl)
          have h3 : wDw W p (drL (gF g 63 31)) ≠ 33 := fun z => c_83 (by rw [z]; rfl)
          refine J_kill (nx := 0) 5 ?_
          rw [show (nI (n) + Int32.ofInt 1) = nI (n + 1) from (show nI (n) + Int32.ofInt 1 = nI (n + 1) from nI_add (n) 1)]
          exact hK g_62 (wDw W p (drL (gF g 63 31))) false (by omega) (by rw [hg_62]; exact Fr.sF hfr rfl) (fun h => ⟨c_42, c_51⟩) (by rw [hr, plB_go c_42 c_69 c_83, hg_62]; first | rw [decide_eq_true c_51]; rfl | rw [decide_eq_false c_51]; rfl)
        · refine J_iload_n (nx := 87) dX12_plays_86 rfl rfl ?_
          refine J_if_eq (nx := 90) (tgt := 101) dX12_plays_87 rfl (by decide) (fun c_87 => ?_) (fun c_87 => ?_)
          · refine J_iload (nx := 103) dX12_plays_101 rfl rfl ?_
            refine J_iconst (nx := 104) (i := 1) (v := 1) (by decide) dX12_plays_103 rfl ?_
            refine J_iadd (nx := 105) dX12_plays_104 rfl ?_
            exact Jri dX12_plays_105 rfl (Nat.zero_le _) (Nat.zero_le _) (RXi.of ⟨((congrArg Prod.fst (hr.trans (plB_33 c_42 c_69 c_83))).trans (by first | exact if_pos c_51 | exact if_neg (fun z => z c_51))).symm, (by rw [hg_62]; exact Fr.sF hfr rfl), (show gF g_62 63 31 = mrS (gF g 63 31) from by rw [hg_62]; rfl).trans (congrArg Prod.snd (hr.trans (plB_33 c_42 c_69 c_83))).symm⟩)
          · exact absurd rfl c_87
      · refine J_bipush (nx := 74) (i := 100) (v := 100) (by decide) dX12_plays_72 rfl ?_
        refine J_iload (nx := 76) dX12_plays_74 rfl rfl ?_
        refine J_iadd (nx := 77) dX12_plays_76 rfl ?_
        refine J_iconst (nx := 78) (i := 1) (v := 1) (by decide) dX12_plays_77 rfl ?_
        refine J_iadd (nx := 79) dX12_plays_78 rfl ?_
        exact Jri dX12_plays_79 rfl (Nat.zero_le _) (Nat.zero_le _) (RXi.of ⟨((congrArg Prod.fst (hr.trans (plB_32 c_42 c_69)))).symm, (by rw [hg_62]; exact Fr.sF hfr rfl), (show gF g_62 63 31 = mrS (gF g 63 31) from by rw [hg_62]; rfl).trans (congrArg Prod.snd (hr.trans (plB_32 c_42 c_69))).symm⟩)
    · refine J_iconst (nx := 55) (i := 1) (v := 1) (by decide) dX12_plays_54 rfl ?_
      refine J_goto (nx := 59) dX12_plays_55 (by decide) ?_
      refine J_istore_n (nx := 60) dX12_plays_59 rfl rfl (Nat.le_of_ble_eq_true rfl) ?_
      refine J_aload_n (nx := 61) dX12_plays_60 rfl rfl ?_
      refine J_iload_n (nx := 62) dX12_plays_61 rfl rfl ?_
      refine JcV1 (R' := rm (1) 0 0) (nx := 65) dX12_plays_62 rfl ml_X12_drawn lk_X12_384 iv_X12_drawn rfl rfl ⟨(Nat.le_of_ble_eq_true rfl), (Nat.le_of_ble_eq_true rfl)⟩ (Nat.le_of_ble_eq_true rfl) ⟨rfl, rfl⟩ (ct_m_drawn g W hW p hp) ?_
      refine J.gen (fun g_62 hg_62 => ?_)
      refine J_istore_n (nx := 66) dX12_plays_65 rfl rfl (Nat.le_of_ble_eq_true rfl) ?_
      refine J_iload_n (nx := 67) dX12_plays_66 rfl rfl ?_
      refine J_bipush (nx := 69) (i := 32) (v := 32) (by decide) dX12_plays_67 rfl ?_
      refine J_icmp_ne (nx := 72) (tgt := 80) dX12_plays_69 rfl (by decide) (fun c_69 => ?_) (fun c_69 => ?_)
      · refine J_iload_n (nx := 81) dX12_plays_80 rfl rfl ?_
        refine J_bipush (nx := 83) (i := 33) (v := 33) (by decide) dX12_plays_81 rfl ?_
        refine J_icmp_ne (nx := 86) (tgt := 106) dX12_plays_83 rfl (by decide) (fun c_83 => ?_) (fun c_83 => ?_)
        · refine J_iinc (nx := 109) dX12_plays_106 rfl rfl rfl (Nat.le_of_ble_eq_true rfl) ?_
          refine J_goto (nx := 7) dX12_plays_109 (by decide) ?_
          have h1 := wDw_lt (W := W) (l := drL (gF g 63 31)) hp
          have h2 : wDw W p (drL (gF g 63 31)) ≠ 32 := fun z => c_69 (by rw [z]; rfl)
          have h3 : wDw W p (drL (gF g 63 31)) ≠ 33 := fun z => c_83 (by rw [z]; rfl)
          refine J_kill (nx := 0) 5 ?_
          rw [show (nI (n) + Int32.ofInt 1) = nI (n + 1) from (show nI (n) + Int32.ofInt 1 = nI (n + 1) from nI_add (n) 1)]
          exact hK g_62 (wDw W p (drL (gF g 63 31))) true (by omega) (by rw [hg_62]; exact Fr.sF hfr rfl) (fun h => absurd h (by decide)) (by rw [hr, plB_go c_42 c_69 c_83, hg_62]; first | rw [decide_eq_true c_51]; rfl | rw [decide_eq_false c_51]; rfl)
        · refine J_iload_n (nx := 87) dX12_plays_86 rfl rfl ?_
          refine J_if_eq (nx := 90) (tgt := 101) dX12_plays_87 rfl (by decide) (fun c_87 => ?_) (fun c_87 => ?_)
          · exact absurd c_87 (by decide)
          · refine J_sipush (nx := 93) (i := 200) (v := 200) (by decide) dX12_plays_90 rfl ?_
            refine J_iload (nx := 95) dX12_plays_93 rfl rfl ?_
            refine J_iadd (nx := 96) dX12_plays_95 rfl ?_
            refine J_iconst (nx := 97) (i := 1) (v := 1) (by decide) dX12_plays_96 rfl ?_
            refine J_iadd (nx := 98) dX12_plays_97 rfl ?_
            refine J_goto (nx := 105) dX12_plays_98 (by decide) ?_
            exact Jri dX12_plays_105 rfl (Nat.zero_le _) (Nat.zero_le _) (RXi.of ⟨((congrArg Prod.fst (hr.trans (plB_33 c_42 c_69 c_83))).trans (by first | exact if_pos c_51 | exact if_neg (fun z => z c_51))).symm, (by rw [hg_62]; exact Fr.sF hfr rfl), (show gF g_62 63 31 = mrS (gF g 63 31) from by rw [hg_62]; rfl).trans (congrArg Prod.snd (hr.trans (plB_33 c_42 c_69 c_83))).symm⟩)
      · refine J_bipush (nx := 74) (i := 100) (v := 100) (by decide) dX12_plays_72 rfl ?_
        refine J_iload (nx := 76) dX12_plays_74 rfl rfl ?_
        refine J_iadd (nx := 77) dX12_plays_76 rfl ?_
        refine J_iconst (nx := 78) (i := 1) (v := 1) (by decide) dX12_plays_77 rfl ?_
        refine J_iadd (nx := 79) dX12_plays_78 rfl ?_
        exact Jri dX12_plays_79 rfl (Nat.zero_le _) (Nat.zero_le _) (RXi.of ⟨((congrArg Prod.fst (hr.trans (plB_32 c_42 c_69)))).symm, (by rw [hg_62]; exact Fr.sF hfr rfl), (show gF g_62 63 31 = mrS (gF g 63 31) from by rw [hg_62]; rfl).trans (congrArg Prod.snd (hr.trans (plB_32 c_42 c_69))).symm⟩)
  · refine J_iload (nx := 47) dX12_plays_45 rfl rfl ?_
    exact Jri dX12_plays_47 rfl (Nat.zero_le _) (Nat.zero_le _) (RXi.of ⟨((congrArg Prod.fst (hr.trans (plB_0 c_42)))).symm, hfr, (Eq.refl (gF g 63 31)).trans (congrArg Prod.snd (hr.trans (plB_0 c_42))).symm⟩)

set_option maxRecDepth 100000 in
set_option maxHeartbeats 4000000 in
theorem lp_m_plays (g0 : GS) (W : Nat → Int32) (s0 : Int32) (hW0 : gA g0 64 = W) (T G : Nat) (hT : W 5 = nI T) (hT60 : T ≤ 60) (hG10 : G ≤ 10) (ac : Nat → Nat → Int32) (hac : ∀ j s, j ≤ G → s < 32 → gA g0 74 (32 * j + s) = ac j s) (hac2 : ∀ s, s < 32 → ac G s = 0 ∨ ac G s = 1) (n0 : Nat) : ∀ (k : Nat) (n p : Nat) (goes : Bool) (g : GS) (r : Int32 × Int32), n + k = T → p < 32 → Fr f31 aNo g0 g → (goes = false → n ≤ G) → r = mpF W ac k n p goes (gF g 63 31) → J mX12_plays (rm 2 0 0) (PLR g0 r) n0 7 [some (.ref 63), some (.int s0), some (.int (bI goes)), some (.int (nI (p))), some (.int (nI (n))), none] [] (Wd g) 0 0 := by
  intro k
  induction k with
  | zero =>
    intro n p goes g r hk hp hfr hgo hr
    obtain rfl : n = T := by omega
    have hW : gA g 64 = W := (hfr.2.1 64 rfl).trans hW0
    refine J_iload (nx := 9) dX12_plays_7 rfl rfl ?_
    refine J_aload_n (nx := 10) dX12_plays_9 rfl rfl ?_
    refine Jg_63_1 (nx := 13) dX12_plays_10 rfl fl_X12_13 ?_
    refine J_iconst (nx := 14) (i := 5) (v := 5) (by decide) dX12_plays_13 rfl ?_
    refine Ja_64 (nx := 15) dX12_plays_14 rfl (vpE (n := 5) (nIc 5) (by omega) (by decide)) ?_
    rw [clE (n := 5) (nIc 5) (by omega)]
    rw [show gA g 64 5 = nI n from (congrFun hW 5).trans hT]
    refine J_icmp_ge (nx := 18) (tgt := 112) dX12_plays_15 rfl (by decide) (fun c_15 => ?_) (fun c_15 => ?_)
    · refine J_iload_n (nx := 113) dX12_plays_112 rfl rfl ?_
      refine J_if_eq (nx := 116) (tgt := 120) dX12_plays_113 rfl (by decide) (fun c_113 => ?_) (fun c_113 => ?_)
      · have hnG : n ≤ G := hgo (bI_0.mp c_113)
        have hrd : gA g 74 (32 * n + p) = ac n p := by rw [hfr.2.1 74 rfl]; exact hac n p hnG hp
        refine J_aload_n (nx := 121) dX12_plays_120 rfl rfl ?_
        refine Jg_63_27 (nx := 124) dX12_plays_121 rfl fl_X12_49 ?_
        refine J_bipush (nx := 126) (i := 32) (v := 32) (by decide) dX12_plays_124 rfl ?_
        refine J_aload_n (nx := 127) dX12_plays_126 rfl rfl ?_
        refine Jg_63_1 (nx := 130) dX12_plays_127 rfl fl_X12_13 ?_
        refine J_iconst (nx := 131) (i := 5) (v := 5) (by decide) dX12_plays_130 rfl ?_
        refine Ja_64 (nx := 132) dX12_plays_131 rfl (vpE (n := 5) (nIc 5) (by omega) (by decide)) ?_
        rw [clE (n := 5) (nIc 5) (by omega)]
        rw [show gA g 64 5 = nI n from (congrFun hW 5).trans hT]
        refine J_imul (nx := 133) dX12_plays_132 rfl ?_
        refine J_iload_n (nx := 134) dX12_plays_133 rfl rfl ?_
        refine J_iadd (nx := 135) dX12_plays_134 rfl ?_
        refine Ja_74 (nx := 136) dX12_plays_135 rfl (vpE (n := ((32 * n) + p)) (nIa (nIm (nIc 32) (Eq.refl (nI (n)))) (Eq.refl (nI (p)))) (by omega) (by decide)) ?_
        rw [clE (n := ((32 * n) + p)) (nIa (nIm (nIc 32) (Eq.refl (nI (n)))) (Eq.refl (nI (p)))) (by omega)]
        refine J_istore (nx := 138) dX12_plays_136 rfl rfl (Nat.le_of_ble_eq_true rfl) ?_
        refine J_iload (nx := 140) dX12_plays_138 rfl rfl ?_
        refine J_if_ne (nx := 143) (tgt := 152) dX12_plays_140 rfl (by decide) (fun c_140 => ?_) (fun c_140 => ?_)
        · refine J_sipush (nx := 155) (i := 300) (v := 300) (by decide) dX12_plays_152 rfl ?_
          refine J_aload_n (nx := 156) dX12_plays_155 rfl rfl ?_
          refine Jg_63_1 (nx := 159) dX12_plays_156 rfl fl_X12_13 ?_
          refine J_iconst (nx := 160) (i := 5) (v := 5) (by decide) dX12_plays_159 rfl ?_
          refine Ja_64 (nx := 161) dX12_plays_160 rfl (vpE (n := 5) (nIc 5) (by omega) (by decide)) ?_
          rw [clE (n := 5) (nIc 5) (by omega)]
          rw [show gA g 64 5 = nI n from (congrFun hW 5).trans hT]
          refine J_iadd (nx := 162) dX12_plays_161 rfl ?_
          exact Jri dX12_plays_162 rfl (Nat.zero_le _) (Nat.zero_le _) (RXi.of ⟨(by rw [hr]; show _ = plE (plA goes (ac n p)) n; (first | rw [plA_t c_113] | rw [plA_f c_113, ← hrd]); unfold plE; (first | exact absurd c_140 (by decide) | rw [if_pos c_140] | rw [if_neg (fun z => z c_140)])), hfr, by rw [hr]; rfl⟩)
        · refine J_aload_n (nx := 144) dX12_plays_143 rfl rfl ?_
          refine Jg_63_1 (nx := 147) dX12_plays_144 rfl fl_X12_13 ?_
          refine J_iconst (nx := 148) (i := 5) (v := 5) (by decide) dX12_plays_147 rfl ?_
          refine Ja_64 (nx := 149) dX12_plays_148 rfl (vpE (n := 5) (nIc 5) (by omega) (by decide)) ?_
          rw [clE (n := 5) (nIc 5) (by omega)]
          rw [show gA g 64 5 = nI n from (congrFun hW 5).trans hT]
          refine J_goto (nx := 162) dX12_plays_149 (by decide) ?_
          exact Jri dX12_plays_162 rfl (Nat.zero_le _) (Nat.zero_le _) (RXi.of ⟨(by rw [hr]; show _ = plE (plA goes (ac n p)) n; (first | rw [plA_t c_113] | rw [plA_f c_113, ← hrd]); unfold plE; (first | exact absurd c_140 (by decide) | rw [if_pos c_140] | rw [if_neg (fun z => z c_140)])), hfr, by rw [hr]; rfl⟩)
      · refine J_iconst (nx := 117) (i := 1) (v := 1) (by decide) dX12_plays_116 rfl ?_
        refine J_goto (nx := 136) dX12_plays_117 (by decide) ?_
        refine J_istore (nx := 138) dX12_plays_136 rfl rfl (Nat.le_of_ble_eq_true rfl) ?_
        refine J_iload (nx := 140) dX12_plays_138 rfl rfl ?_
        refine J_if_ne (nx := 143) (tgt := 152) dX12_plays_140 rfl (by decide) (fun c_140 => ?_) (fun c_140 => ?_)
        · refine J_sipush (nx := 155) (i := 300) (v := 300) (by decide) dX12_plays_152 rfl ?_
          refine J_aload_n (nx := 156) dX12_plays_155 rfl rfl ?_
          refine Jg_63_1 (nx := 159) dX12_plays_156 rfl fl_X12_13 ?_
          refine J_iconst (nx := 160) (i := 5) (v := 5) (by decide) dX12_plays_159 rfl ?_
          refine Ja_64 (nx := 161) dX12_plays_160 rfl (vpE (n := 5) (nIc 5) (by omega) (by decide)) ?_
          rw [clE (n := 5) (nIc 5) (by omega)]
          rw [show gA g 64 5 = nI n from (congrFun hW 5).trans hT]
          refine J_iadd (nx := 162) dX12_plays_161 rfl ?_
          exact Jri dX12_plays_162 rfl (Nat.zero_le _) (Nat.zero_le _) (RXi.of ⟨(by rw [hr]; show _ = plE (plA goes (ac n p)) n; (first | rw [plA_t c_113] | rw [plA_f c_113, ← hrd]); unfold plE; (first | exact absurd c_140 (by decide) | rw [if_pos c_140] | rw [if_neg (fun z => z c_140)])), hfr, by rw [hr]; rfl⟩)
        · refine J_aload_n (nx := 144) dX12_plays_143 rfl rfl ?_
          refine Jg_63_1 (nx := 147) dX12_plays_144 rfl fl_X12_13 ?_
          refine J_iconst (nx := 148) (i := 5) (v := 5) (by decide) dX12_plays_147 rfl ?_
          refine Ja_64 (nx := 149) dX12_plays_148 rfl (vpE (n := 5) (nIc 5) (by omega) (by decide)) ?_
          rw [clE (n := 5) (nIc 5) (by omega)]
          rw [show gA g 64 5 = nI n from (congrFun hW 5).trans hT]
          refine J_goto (nx := 162) dX12_plays_149 (by decide) ?_
          exact Jri dX12_plays_162 rfl (Nat.zero_le _) (Nat.zero_le _) (RXi.of ⟨(by rw [hr]; show _ = plE (plA goes (ac n p)) n; (first | rw [plA_t c_113] | rw [plA_f c_113, ← hrd]); unfold plE; (first | exact absurd c_140 (by decide) | rw [if_pos c_140] | rw [if_neg (fun z => z c_140)])), hfr, by rw [hr]; rfl⟩)
    · exact absurd le_self_nI c_15
  | succ k ih =>
    intro n p goes g r hk hp hfr hgo hr
    have hW : gA g 64 = W := (hfr.2.1 64 rfl).trans hW0
    have hnT : n < T := by omega
    refine J_iload (nx := 9) dX12_plays_7 rfl rfl ?_
    refine J_aload_n (nx := 10) dX12_plays_9 rfl rfl ?_
    refine Jg_63_1 (nx := 13) dX12_plays_10 rfl fl_X12_13 ?_
    refine J_iconst (nx := 14) (i := 5) (v := 5) (by decide) dX12_plays_13 rfl ?_
    refine Ja_64 (nx := 15) dX12_plays_14 rfl (vpE (n := 5) (nIc 5) (by omega) (by decide)) ?_
    rw [clE (n := 5) (nIc 5) (by omega)]
    rw [show gA g 64 5 = nI T from (congrFun hW 5).trans hT]
    refine J_icmp_ge (nx := 18) (tgt := 112) dX12_plays_15 rfl (by decide) (fun c_15 => ?_) (fun c_15 => ?_)
    · exact absurd c_15 (nlt_nI (n := T) (by omega) (by omega))
    · refine J_iload_n (nx := 19) dX12_plays_18 rfl rfl ?_
      refine J_if_eq (nx := 22) (tgt := 26) dX12_plays_19 rfl (by decide) (fun c_19 => ?_) (fun c_19 => ?_)
      · have hnG : n ≤ G := hgo (bI_0.mp c_19)
        have hrd : gA g 74 (32 * n + p) = ac n p := by rw [hfr.2.1 74 rfl]; exact hac n p hnG hp
        refine J_aload_n (nx := 27) dX12_plays_26 rfl rfl ?_
        refine Jg_63_27 (nx := 30) dX12_plays_27 rfl fl_X12_49 ?_
        refine J_bipush (nx := 32) (i := 32) (v := 32) (by decide) dX12_plays_30 rfl ?_
        refine J_iload (nx := 34) dX12_plays_32 rfl rfl ?_
        refine J_imul (nx := 35) dX12_plays_34 rfl ?_
        refine J_iload_n (nx := 36) dX12_plays_35 rfl rfl ?_
        refine J_iadd (nx := 37) dX12_plays_36 rfl ?_
        refine Ja_74 (nx := 38) dX12_plays_37 rfl (vpE (n := ((32 * n) + p)) (nIa (nIm (nIc 32) (Eq.refl (nI (n)))) (Eq.refl (nI (p)))) (by omega) (by decide)) ?_
        rw [clE (n := ((32 * n) + p)) (nIa (nIm (nIc 32) (Eq.refl (nI (n)))) (Eq.refl (nI (p)))) (by omega)]
        refine J_istore (nx := 40) dX12_plays_38 rfl rfl (Nat.le_of_ble_eq_true rfl) ?_
        refine sg_m_pl40 n0 g0 W s0 g hW hfr p n hp (bI goes) _ r (mpF W ac k (n + 1)) (hr.trans ?_) (fun g2 p2 go2 hp2 hf2 hng hr2 => ih (n + 1) p2 go2 g2 r (by omega) hp2 hf2 (fun hgo2 => ?_) hr2)
        · first
            | exact congrArg (fun a => plB W a n p (gF g 63 31) (mpF W ac k (n + 1))) (plA_t c_19)
            | exact congrArg (fun a => plB W a n p (gF g 63 31) (mpF W ac k (n + 1))) ((plA_f c_19).trans hrd.symm)
        · obtain ⟨na0, na1⟩ := hng hgo2
          first
          | exact absurd rfl na1
          | rcases Nat.lt_or_ge n G with hlt | hge
            · exact hlt
            · obtain rfl : n = G := by omega
              rw [hrd] at na0 na1
              rcases hac2 p hp with e | e
              · exact absurd e na0
              · exact absurd e na1
      · refine J_iconst (nx := 23) (i := 1) (v := 1) (by decide) dX12_plays_22 rfl ?_
        refine J_goto (nx := 38) dX12_plays_23 (by decide) ?_
        refine J_istore (nx := 40) dX12_plays_38 rfl rfl (Nat.le_of_ble_eq_true rfl) ?_
        refine sg_m_pl40 n0 g0 W s0 g hW hfr p n hp (bI goes) _ r (mpF W ac k (n + 1)) (hr.trans ?_) (fun g2 p2 go2 hp2 hf2 hng hr2 => ih (n + 1) p2 go2 g2 r (by omega) hp2 hf2 (fun hgo2 => ?_) hr2)
        · first
            | exact congrArg (fun a => plB W a n p (gF g 63 31) (mpF W ac k (n + 1))) (plA_t c_19)
            | exact congrArg (fun a => plB W a n p (gF g 63 31) (mpF W ac k (n + 1))) ((plA_f c_19).trans hrd.symm)
        · obtain ⟨na0, na1⟩ := hng hgo2
          first
          | exact absurd rfl na1
          | rcases Nat.lt_or_ge n G with hlt | hge
            · exact hlt
            · obtain rfl : n = G := by omega
              rw [hrd] at na0 na1
              rcases hac2 p hp with e | e
              · exact absurd e na0
              · exact absurd e na1

set_option maxRecDepth 100000 in
set_option maxHeartbeats 4000000 in
theorem ct_m_plays (g : GS) (W : Nat → Int32) (hW : gA g 64 = W) (T G : Nat) (hT : W 5 = nI T) (hT60 : T ≤ 60) (hG10 : G ≤ 10) (ac : Nat → Nat → Int32) (hac : ∀ j s, j ≤ G → s < 32 → gA g 74 (32 * j + s) = ac j s) (hac2 : ∀ s, s < 32 → ac G s = 0 ∨ ac G s = 1) (s : Nat) (hs : s < 32) : Ct mX12_plays (rm 2 0 0) [.ref 63, .int (nI (s))] (Wd g) (PLR g (mpF W ac T 0 s false (gF g 63 31))) := by
  refine Ct.of (by decide +kernel) (Nat.le_of_ble_eq_true rfl) ?_
  show J _ _ _ _ 0 [some (.ref 63), some (.int (nI (s))), none, none, none, none] [] _ 0 0
  refine J_iconst (nx := 1) (i := 0) (v := 0) (by decide) dX12_plays_0 rfl ?_
  refine J_istore_n (nx := 2) dX12_plays_1 rfl rfl (Nat.le_of_ble_eq_true rfl) ?_
  refine J_iload_n (nx := 3) dX12_plays_2 rfl rfl ?_
  refine J_istore_n (nx := 4) dX12_plays_3 rfl rfl (Nat.le_of_ble_eq_true rfl) ?_
  refine J_iconst (nx := 5) (i := 0) (v := 0) (by decide) dX12_plays_4 rfl ?_
  refine J_istore (nx := 7) dX12_plays_5 rfl rfl (Nat.le_of_ble_eq_true rfl) ?_
  exact lp_m_plays g W (nI s) hW T G hT hT60 hG10 ac hac hac2 _ T 0 s false g _ (by omega) hs Fr.rf (fun _ => Nat.zero_le _) rfl

