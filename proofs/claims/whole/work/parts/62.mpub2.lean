
/-! the Model: what is called from outside, on -/
set_option maxRecDepth 100000 in
set_option maxHeartbeats 4000000 in
theorem ct_m_enough (g : GS) (gl : List TxL) (rl : Nat → List TxL) (hM : MOK (gA g 64) gl rl) (k : Int32) (z : Int32) (s : Int32) : Ct mX12_enough (rm 6 0 0) [.ref 63, .int k, .int z, .int s] (Wd g) (PQi g [(wMs (gA g 64) k && fIn z 0 7 && fIn s 0 31, 1)] (fun x g2 => x = nI (enF (fun q => jw (mJP (gA g 64) gl rl (gA g 64 6) (nN k) (nN z) (wTo (gA g 64) (nN k)) 3 0 q) 0 (nN s)) 10 0) ∧ QF g g2)) := by
  have hM2 := hM
  obtain ⟨⟨hG10, hG⟩, ⟨hT1, hT60, hT⟩, ⟨hR4, hR, hrl⟩, ⟨hN6, hN⟩, hgl, hgk⟩ := hM2
  refine Ct.of (by decide +kernel) (Nat.le_of_ble_eq_true rfl) ?_
  show J _ _ _ _ 0 [some (.ref 63), some (.int k), some (.int z), some (.int s), none, none, none] [] _ 0 0
  refine J_aload_n (nx := 1) dX12_enough_0 rfl rfl ?_
  refine J_iconst (nx := 2) (i := 0) (v := 0) (by decide) dX12_enough_1 rfl ?_
  refine Jp_63_0 (nx := 5) dX12_enough_2 rfl fl_X12_3 ?_
  refine J_aload_n (nx := 6) dX12_enough_5 rfl rfl ?_
  refine J_aload_n (nx := 7) dX12_enough_6 rfl rfl ?_
  refine J_iload_n (nx := 8) dX12_enough_7 rfl rfl ?_
  refine JcV1 (R' := rm (1) 0 0) (nx := 11) dX12_enough_8 rfl ml_X12_noSort lk_X12_317 iv_X12_noSort rfl rfl ⟨(Nat.le_of_ble_eq_true rfl), (Nat.le_of_ble_eq_true rfl)⟩ (Nat.le_of_ble_eq_true rfl) ⟨rfl, rfl⟩ (ct_m_noSortW (sF g 63 0 0) (gA g 64) rfl _) ?_
  refine J_if_ne (nx := 14) (tgt := 28) dX12_enough_11 rfl (by decide) (fun c_11 => ?_) (fun c_11 => ?_)
  · refine J_iconst (nx := 29) (i := 1) (v := 1) (by decide) dX12_enough_28 rfl ?_
    refine J_goto (nx := 33) dX12_enough_29 (by decide) ?_
    refine J_iconst (nx := 34) (i := 1) (v := 1) (by decide) dX12_enough_33 rfl ?_
    refine J_thr (b := true) (nx := 37) dX12_enough_34 rfl lk_X12_237 ⟨(Nat.le_of_ble_eq_true rfl), (Nat.le_of_ble_eq_true rfl)⟩ (Nat.le_of_ble_eq_true rfl) (fun b_34 => ?_) (fun b_34 => ?_)
    · refine J_if_eq (nx := 40) (tgt := 42) dX12_enough_37 rfl (by decide) (fun c_37 => ?_) (fun c_37 => ?_)
      · exact absurd c_37 (by decide)
      · refine J_iconst (nx := 41) (i := 0) (v := 0) (by decide) dX12_enough_40 rfl ?_
        exact Jri dX12_enough_41 rfl (Nat.zero_le _) (Nat.zero_le _) (RXi.of (Or.inl ⟨_, (by simp only [bI_is0, bI_is1, Bool.not_eq_true', Bool.not_eq_false'] at c_11; simp only [mxC, c_11, decide_true, decide_false, Bool.true_or, Bool.false_or, Bool.and_true, Bool.true_and, Bool.false_and, Bool.and_false, cond_true, cond_false]), rfl, rfl⟩))
    · exact absurd b_34 (by decide)
  · refine J_iload_n (nx := 15) dX12_enough_14 rfl rfl ?_
    refine JcS1 (R' := rm (1) 0 0) (nx := 18) dX12_enough_15 rfl ml_X12_noZone lk_X12_254 st_X12_noZone ⟨(Nat.le_of_ble_eq_true rfl), (Nat.le_of_ble_eq_true rfl)⟩ (Nat.le_of_ble_eq_true rfl) ⟨rfl, rfl⟩ (ct_m_noZone _ _) ?_
    refine J_if_ne (nx := 21) (tgt := 28) dX12_enough_18 rfl (by decide) (fun c_18 => ?_) (fun c_18 => ?_)
    · refine J_iconst (nx := 29) (i := 1) (v := 1) (by decide) dX12_enough_28 rfl ?_
      refine J_goto (nx := 33) dX12_enough_29 (by decide) ?_
      refine J_iconst (nx := 34) (i := 1) (v := 1) (by decide) dX12_enough_33 rfl ?_
      refine J_thr (b := true) (nx := 37) dX12_enough_34 rfl lk_X12_237 ⟨(Nat.le_of_ble_eq_true rfl), (Nat.le_of_ble_eq_true rfl)⟩ (Nat.le_of_ble_eq_true rfl) (fun b_34 => ?_) (fun b_34 => ?_)
      · refine J_if_eq (nx := 40) (tgt := 42) dX12_enough_37 rfl (by decide) (fun c_37 => ?_) (fun c_37 => ?_)
        · exact absurd c_37 (by decide)
        · refine J_iconst (nx := 41) (i := 0) (v := 0) (by decide) dX12_enough_40 rfl ?_
          exact Jri dX12_enough_41 rfl (Nat.zero_le _) (Nat.zero_le _) (RXi.of (Or.inl ⟨_, (by simp only [bI_is0, bI_is1, Bool.not_eq_true', Bool.not_eq_false'] at c_11 c_18; simp only [mxC, c_11, c_18, decide_true, decide_false, Bool.true_or, Bool.false_or, Bool.and_true, Bool.true_and, Bool.false_and, Bool.and_false, cond_true, cond_false]), rfl, rfl⟩))
      · exact absurd b_34 (by decide)
    · refine J_iload_n (nx := 22) dX12_enough_21 rfl rfl ?_
      refine JcS1 (R' := rm (1) 0 0) (nx := 25) dX12_enough_22 rfl ml_X12_noState lk_X12_245 st_X12_noState ⟨(Nat.le_of_ble_eq_true rfl), (Nat.le_of_ble_eq_true rfl)⟩ (Nat.le_of_ble_eq_true rfl) ⟨rfl, rfl⟩ (ct_m_noState _ _) ?_
      refine J_if_eq (nx := 28) (tgt := 32) dX12_enough_25 rfl (by decide) (fun c_25 => ?_) (fun c_25 => ?_)
      · refine J_iconst (nx := 33) (i := 0) (v := 0) (by decide) dX12_enough_32 rfl ?_
        refine J_iconst (nx := 34) (i := 1) (v := 1) (by decide) dX12_enough_33 rfl ?_
        refine J_thr (b := false) (nx := 37) dX12_enough_34 rfl lk_X12_237 ⟨(Nat.le_of_ble_eq_true rfl), (Nat.le_of_ble_eq_true rfl)⟩ (Nat.le_of_ble_eq_true rfl) (fun b_34 => ?_) (fun b_34 => ?_)
        · exact absurd b_34 (by decide)
        · refine J_if_eq (nx := 40) (tgt := 42) dX12_enough_37 rfl (by decide) (fun c_37 => ?_) (fun c_37 => ?_)
          · have HC : mxC [(wMs (gA g 64) k && fIn z 0 7 && fIn s 0 31, 1)] = none := (by simp only [bI_is0, bI_is1, Bool.not_eq_true', Bool.not_eq_false'] at c_11 c_18 c_25; simp only [mxC, c_11, c_18, c_25, decide_true, decide_false, Bool.true_or, Bool.false_or, Bool.and_true, Bool.true_and, Bool.false_and, Bool.and_false, cond_true, cond_false])
            have HG0 := HC
            obtain ⟨hk0, HG1⟩ := gd HG0
            simp only [Bool.and_eq_true] at hk0
            obtain ⟨⟨hk0_0, hk0_1⟩, hk0_2⟩ := hk0
            obtain ⟨qk, hqk, rfl⟩ := wMs_nat hM hk0_0
            try rw [nN_nI (n := qk) (by omega)]
            obtain ⟨qz, hqz, rfl⟩ := fIn_nat (n := 7) (by omega) hk0_1
            try rw [nN_nI (n := qz) (by omega)]
            obtain ⟨qs, hqs, rfl⟩ := fIn_nat (n := 31) (by omega) hk0_2
            try rw [nN_nI (n := qs) (by omega)]
            refine J_aload_n (nx := 43) dX12_enough_42 rfl rfl ?_
            refine J_iload_n (nx := 44) dX12_enough_43 rfl rfl ?_
            refine J_iload_n (nx := 45) dX12_enough_44 rfl rfl ?_
            refine J_iload_n (nx := 46) dX12_enough_45 rfl rfl ?_
            refine J_bipush (nx := 48) (i := 10) (v := 10) (by decide) dX12_enough_46 rfl ?_
            refine JlV4 (R' := rm (5) 0 0) (nx := 51) dX12_enough_48 rfl ml_X12_bestBy lk_X12_351 iv_X12_bestBy rfl rfl ⟨(Nat.le_of_ble_eq_true rfl), (Nat.le_of_ble_eq_true rfl)⟩ (Nat.le_of_ble_eq_true rfl) ⟨rfl, rfl⟩ (ct_m_bestBy (sF g 63 0 0) (gA g 64) gl rl rfl hM qk qz qs 10 (by omega) (by omega) (by omega) (by omega)) (fun x_48 g_48 p_48 => ?_)
            refine J_lstore (nx := 53) dX12_enough_51 rfl rfl (Nat.le_of_ble_eq_true rfl) ?_
            refine J_iconst (nx := 54) (i := 0) (v := 0) (by decide) dX12_enough_53 rfl ?_
            refine J_istore (nx := 56) dX12_enough_54 rfl rfl (Nat.le_of_ble_eq_true rfl) ?_
            rw [p_48.1]
            refine J.post (lp_m_enough g gl rl hM qk qz qs (by omega) (by omega) (by omega) _ 10 0 g_48 rfl p_48.2) (fun r es h => ?_)
            obtain ⟨x, g2, hr, he, hx, hf⟩ := h
            exact ⟨x, g2, hr, he, Or.inr ⟨HC, hx, QF.of hf⟩⟩
          · exact absurd (by decide) c_37
      · refine J_iconst (nx := 29) (i := 1) (v := 1) (by decide) dX12_enough_28 rfl ?_
        refine J_goto (nx := 33) dX12_enough_29 (by decide) ?_
        refine J_iconst (nx := 34) (i := 1) (v := 1) (by decide) dX12_enough_33 rfl ?_
        refine J_thr (b := true) (nx := 37) dX12_enough_34 rfl lk_X12_237 ⟨(Nat.le_of_ble_eq_true rfl), (Nat.le_of_ble_eq_true rfl)⟩ (Nat.le_of_ble_eq_true rfl) (fun b_34 => ?_) (fun b_34 => ?_)
        · refine J_if_eq (nx := 40) (tgt := 42) dX12_enough_37 rfl (by decide) (fun c_37 => ?_) (fun c_37 => ?_)
          · exact absurd c_37 (by decide)
          · refine J_iconst (nx := 41) (i := 0) (v := 0) (by decide) dX12_enough_40 rfl ?_
            exact Jri dX12_enough_41 rfl (Nat.zero_le _) (Nat.zero_le _) (RXi.of (Or.inl ⟨_, (by simp only [bI_is0, bI_is1, Bool.not_eq_true', Bool.not_eq_false'] at c_11 c_18 c_25; simp only [mxC, c_11, c_18, c_25, decide_true, decide_false, Bool.true_or, Bool.false_or, Bool.and_true, Bool.true_and, Bool.false_and, Bool.and_false, cond_true, cond_false]), rfl, rfl⟩))
        · exact absurd b_34 (by decide)

theorem Fr.K {g0 g g2 : GS} (h : Fr fA aQ g0 g) (h2 : Fr f0 aKq g g2) : Fr fA aQ g0 g2 := h.tr (h2.mono fA_0 aQ_Kq)
set_option maxRecDepth 100000 in
set_option maxHeartbeats 4000000 in
theorem ct_m_loses (g : GS) (gl : List TxL) (rl : Nat → List TxL) (hM : MOK (gA g 64) gl rl) (jd : Int32) (b : Int32) (k : Int32) (z : Int32) (st : Int32) : Ct mX12_loses (rm 6 0 0) [.ref 63, .int jd, .int b, .int k, .int z, .int st] (Wd g) (PQl g [(wMj (gA g 64) jd && wMs (gA g 64) k && fIn z 0 7 && (decide (st = -1) || fIn st 0 31), 1), (fMb jd b, 2)] (fun x g2 => x = wLs (mJP (gA g 64) gl rl (gA g 64 6) (nN k) (nN z) (wTo (gA g 64) (nN k)) 3 0 (mG (gA g 64))) (mJP (gA g 64) gl rl (gA g 64 6) (nN k) (nN z) (wTo (gA g 64) (nN k)) jd b (mG (gA g 64))) st ∧ QF g g2)) := by
  have hM2 := hM
  obtain ⟨⟨hG10, hG⟩, ⟨hT1, hT60, hT⟩, ⟨hR4, hR, hrl⟩, ⟨hN6, hN⟩, hgl, hgk⟩ := hM2
  refine Ct.of (by decide +kernel) (Nat.le_of_ble_eq_true rfl) ?_
  show J _ _ _ _ 0 [some (.ref 63), some (.int jd), some (.int b), some (.int k), some (.int z), some (.int st)] [] _ 0 0
  refine J_aload_n (nx := 1) dX12_loses_0 rfl rfl ?_
  refine J_iconst (nx := 2) (i := 0) (v := 0) (by decide) dX12_loses_1 rfl ?_
  refine Jp_63_0 (nx := 5) dX12_loses_2 rfl fl_X12_3 ?_
  refine J_aload_n (nx := 6) dX12_loses_5 rfl rfl ?_
  refine J_aload_n (nx := 7) dX12_loses_6 rfl rfl ?_
  refine J_iload_n (nx := 8) dX12_loses_7 rfl rfl ?_
  refine J_iload_n (nx := 9) dX12_loses_8 rfl rfl ?_
  refine J_iload (nx := 11) dX12_loses_9 rfl rfl ?_
  refine JcV3 (R' := rm (2) 0 0) (nx := 14) dX12_loses_11 rfl ml_X12_isNoFoul lk_X12_341 iv_X12_isNoFoul rfl rfl ⟨(Nat.le_of_ble_eq_true rfl), (Nat.le_of_ble_eq_true rfl)⟩ (Nat.le_of_ble_eq_true rfl) ⟨rfl, rfl⟩ (ct_m_isNoFoul (sF g 63 0 0) (gA g 64) rfl _ _ _) ?_
  refine J_if_ne (nx := 17) (tgt := 31) dX12_loses_14 rfl (by decide) (fun c_14 => ?_) (fun c_14 => ?_)
  · refine J_iconst (nx := 32) (i := 1) (v := 1) (by decide) dX12_loses_31 rfl ?_
    refine J_goto (nx := 36) dX12_loses_32 (by decide) ?_
    refine J_iconst (nx := 37) (i := 1) (v := 1) (by decide) dX12_loses_36 rfl ?_
    refine J_thr (b := true) (nx := 40) dX12_loses_37 rfl lk_X12_237 ⟨(Nat.le_of_ble_eq_true rfl), (Nat.le_of_ble_eq_true rfl)⟩ (Nat.le_of_ble_eq_true rfl) (fun b_37 => ?_) (fun b_37 => ?_)
    · refine J_if_ne (nx := 43) (tgt := 57) dX12_loses_40 rfl (by decide) (fun c_40 => ?_) (fun c_40 => ?_)
      · refine J_lconst (nx := 58) (i := 0) (v := 0) (by decide) dX12_loses_57 rfl ?_
        exact Jrl dX12_loses_58 rfl (Nat.zero_le _) (Nat.zero_le _) (RXl.of (Or.inl ⟨_, (by simp only [bI_is0, bI_is1, Bool.not_eq_true', Bool.not_eq_false'] at c_14; simp only [mxC, c_14, decide_true, decide_false, Bool.true_or, Bool.false_or, Bool.and_true, Bool.true_and, Bool.false_and, Bool.and_false, cond_true, cond_false]), rfl, rfl⟩))
      · exact absurd c_40 (by decide)
    · exact absurd b_37 (by decide)
  · refine J_iload (nx := 19) dX12_loses_17 rfl rfl ?_
    refine J_iconst (nx := 20) (i := -1) (v := -1) (by decide) dX12_loses_19 rfl ?_
    refine J_icmp_eq (nx := 23) (tgt := 35) dX12_loses_20 rfl (by decide) (fun c_20 => ?_) (fun c_20 => ?_)
    · refine J_iconst (nx := 36) (i := 0) (v := 0) (by decide) dX12_loses_35 rfl ?_
      refine J_iconst (nx := 37) (i := 1) (v := 1) (by decide) dX12_loses_36 rfl ?_
      refine J_thr (b := false) (nx := 40) dX12_loses_37 rfl lk_X12_237 ⟨(Nat.le_of_ble_eq_true rfl), (Nat.le_of_ble_eq_true rfl)⟩ (Nat.le_of_ble_eq_true rfl) (fun b_37 => ?_) (fun b_37 => ?_)
      · exact absurd b_37 (by decide)
      · refine J_if_ne (nx := 43) (tgt := 57) dX12_loses_40 rfl (by decide) (fun c_40 => ?_) (fun c_40 => ?_)
        · exact absurd (by decide) c_40
        · refine J_aload_n (nx := 44) dX12_loses_43 rfl rfl ?_
          refine J_aload_n (nx := 45) dX12_loses_44 rfl rfl ?_
          refine J_iload_n (nx := 46) dX12_loses_45 rfl rfl ?_
          refine J_iload_n (nx := 47) dX12_loses_46 rfl rfl ?_
          refine JcV2 (R' := rm (1) 0 0) (nx := 50) dX12_loses_47 rfl ml_X12_badBar lk_X12_344 iv_X12_badBar rfl rfl ⟨(Nat.le_of_ble_eq_true rfl), (Nat.le_of_ble_eq_true rfl)⟩ (Nat.le_of_ble_eq_true rfl) ⟨rfl, rfl⟩ (ct_m_badBar _ _ _) ?_
          refine J_iconst (nx := 51) (i := 2) (v := 2) (by decide) dX12_loses_50 rfl ?_
          refine J_thr (nx := 54) dX12_loses_51 rfl lk_X12_237 ⟨(Nat.le_of_ble_eq_true rfl), (Nat.le_of_ble_eq_true rfl)⟩ (Nat.le_of_ble_eq_true rfl) (fun b_51 => ?_) (fun b_51 => ?_)
          · refine J_if_eq (nx := 57) (tgt := 59) dX12_loses_54 rfl (by decide) (fun c_54 => ?_) (fun c_54 => ?_)
            · exact absurd c_54 (by decide)
            · refine J_lconst (nx := 58) (i := 0) (v := 0) (by decide) dX12_loses_57 rfl ?_
              exact Jrl dX12_loses_58 rfl (Nat.zero_le _) (Nat.zero_le _) (RXl.of (Or.inl ⟨_, (by simp only [bI_is0, bI_is1, Bool.not_eq_true', Bool.not_eq_false'] at c_14 c_20 b_51; simp only [mxC, c_14, c_20, b_51, decide_true, decide_false, Bool.true_or, Bool.false_or, Bool.and_true, Bool.true_and, Bool.false_and, Bool.and_false, cond_true, cond_false]), rfl, rfl⟩))
          · refine J_if_eq (nx := 57) (tgt := 59) dX12_loses_54 rfl (by decide) (fun c_54 => ?_) (fun c_54 => ?_)
            · have HC : mxC [(wMj (gA g 64) jd && wMs (gA g 64) k && fIn z 0 7 && (decide (st = -1) || fIn st 0 31), 1), (fMb jd b, 2)] = none := (by simp only [bI_is0, bI_is1, Bool.not_eq_true', Bool.not_eq_false'] at c_14 c_20 b_51; simp only [mxC, c_14, c_20, b_51, decide_true, decide_false, Bool.true_or, Bool.false_or, Bool.and_true, Bool.true_and, Bool.false_and, Bool.and_false, cond_true, cond_false])
              have HG0 := HC
              obtain ⟨hk0, HG1⟩ := gd HG0
              simp only [Bool.and_eq_true] at hk0
              obtain ⟨⟨⟨hk0_0, hk0_1⟩, hk0_2⟩, hk0_3⟩ := hk0
              have hjjd := wMj_ok hM hk0_0
              obtain ⟨qk, hqk, rfl⟩ := wMs_nat hM hk0_1
              try rw [nN_nI (n := qk) (by omega)]
              obtain ⟨qz, hqz, rfl⟩ := fIn_nat (n := 7) (by omega) hk0_2
              try rw [nN_nI (n := qz) (by omega)]
              obtain ⟨hk1, HG2⟩ := gd HG1
              have hk1_0 := hk1
              refine J_aload_n (nx := 60) dX12_loses_59 rfl rfl ?_
              refine J_aload_n (nx := 61) dX12_loses_60 rfl rfl ?_
              refine Jg_63_1 (nx := 64) dX12_loses_61 rfl fl_X12_13 ?_
              refine J_bipush (nx := 66) (i := 6) (v := 6) (by decide) dX12_loses_64 rfl ?_
              refine Ja_64 (nx := 67) dX12_loses_66 rfl (vpE (n := 6) (nIc 6) (by omega) (by decide)) ?_
              rw [clE (n := 6) (nIc 6) (by omega)]
              rw [show gA (sF g 63 0 0) 64 6 = gA g 64 6 from rfl]
              refine JvV1 (R' := rm (4) 0 0) (nx := 70) dX12_loses_67 rfl ml_X12_letsOn lk_X12_296 iv_X12_letsOn rfl rfl ⟨(Nat.le_of_ble_eq_true rfl), (Nat.le_of_ble_eq_true rfl)⟩ (Nat.le_of_ble_eq_true rfl) ⟨rfl, rfl⟩ (ct_m_letsOn (sF g 63 0 0) (gA g 64) (gA g 64 6) gl rfl hgl hgk) (fun g_67 p_67 => ?_)
              have hL : LSt (gA g 64) gl (gA g 64 6) g_67 := LOK.ls (show gA (sF g 63 0 0) 64 = gA g 64 from rfl) p_67
              have hfr1 : Fr fA aQ (sF g 63 0 0) g_67 := Fr.rf.LO p_67.1
              refine J_aload_n (nx := 71) dX12_loses_70 rfl rfl ?_
              refine J_iload_n (nx := 72) dX12_loses_71 rfl rfl ?_
              refine J_iload (nx := 74) dX12_loses_72 rfl rfl ?_
              refine J_aload_n (nx := 75) dX12_loses_74 rfl rfl ?_
              refine J_iload_n (nx := 76) dX12_loses_75 rfl rfl ?_
              refine JcV1 (R' := rm (1) 0 0) (nx := 79) dX12_loses_76 rfl ml_X12_toldCard lk_X12_320 iv_X12_toldCard rfl rfl ⟨(Nat.le_of_ble_eq_true rfl), (Nat.le_of_ble_eq_true rfl)⟩ (Nat.le_of_ble_eq_true rfl) ⟨rfl, rfl⟩ (ct_m_toldCard _ (qk) (by omega)) ?_
              rw [show mSo g_67 qk 0 = wTo (gA g 64) qk from congrFun hL.1 _]
              refine JcV3 (R' := rm (3) 0 0) (nx := 82) dX12_loses_79 rfl ml_X12_fouls lk_X12_323 iv_X12_fouls rfl rfl ⟨(Nat.le_of_ble_eq_true rfl), (Nat.le_of_ble_eq_true rfl)⟩ (Nat.le_of_ble_eq_true rfl) ⟨rfl, rfl⟩ (ct_m_fouls g_67 qk qz (by omega) (by omega) (wTo (gA g 64) qk)) ?_
              obtain ⟨gf, hgf⟩ : ∃ gf, gf = mFo g_67 qk qz (wTo (gA g 64) qk) := ⟨_, rfl⟩
              rw [← hgf]
              have hL2 : LSt (gA g 64) gl (gA g 64 6) gf := by rw [hgf]; exact hL.Fo
              have hF2 : FSt (gA g 64) qk qz (wTo (gA g 64) qk) gf := by rw [hgf]; exact FSt.Fo hL.1
              have hfr2 : Fr fA aQ (sF g 63 0 0) gf := by rw [hgf]; exact Fr.mFo hfr1
              refine J_aload_n (nx := 83) dX12_loses_82 rfl rfl ?_
              refine J_iload_n (nx := 84) dX12_loses_83 rfl rfl ?_
              refine J_iload_n (nx := 85) dX12_loses_84 rfl rfl ?_
              refine J_iload (nx := 87) dX12_loses_85 rfl rfl ?_
              refine JlV3 (R' := rm (5) 0 0) (nx := 90) dX12_loses_87 rfl ml_X12_losesAt lk_X12_355 iv_X12_losesAt rfl rfl ⟨(Nat.le_of_ble_eq_true rfl), (Nat.le_of_ble_eq_true rfl)⟩ (Nat.le_of_ble_eq_true rfl) ⟨rfl, rfl⟩ (ct_m_losesAt gf (gA g 64) gl rl (gA g 64 6) hM hL2 jd b st qk qz (wTo (gA g 64) qk) (by omega) hF2 hjjd) (fun x_87 g_87 p_87 => ?_)
              exact Jrl dX12_loses_90 rfl (Nat.zero_le _) (Nat.zero_le _) (RXl.of (Or.inr ⟨HC, p_87.1, QF.of (hfr2.K p_87.2.1)⟩))
            · exact absurd (by decide) c_54
    · refine J_iload (nx := 25) dX12_loses_23 rfl rfl ?_
      refine JcS1 (R' := rm (1) 0 0) (nx := 28) dX12_loses_25 rfl ml_X12_noState lk_X12_245 st_X12_noState ⟨(Nat.le_of_ble_eq_true rfl), (Nat.le_of_ble_eq_true rfl)⟩ (Nat.le_of_ble_eq_true rfl) ⟨rfl, rfl⟩ (ct_m_noState _ _) ?_
      refine J_if_eq (nx := 31) (tgt := 35) dX12_loses_28 rfl (by decide) (fun c_28 => ?_) (fun c_28 => ?_)
      · refine J_iconst (nx := 36) (i := 0) (v := 0) (by decide) dX12_loses_35 rfl ?_
        refine J_iconst (nx := 37) (i := 1) (v := 1) (by decide) dX12_loses_36 rfl ?_
        refine J_thr (b := false) (nx := 40) dX12_loses_37 rfl lk_X12_237 ⟨(Nat.le_of_ble_eq_true rfl), (Nat.le_of_ble_eq_true rfl)⟩ (Nat.le_of_ble_eq_true rfl) (fun b_37 => ?_) (fun b_37 => ?_)
        · exact absurd b_37 (by decide)
        · refine J_if_ne (nx := 43) (tgt := 57) dX12_loses_40 rfl (by decide) (fun c_40 => ?_) (fun c_40 => ?_)
          · exact absurd (by decide) c_40
          · refine J_aload_n (nx := 44) dX12_loses_43 rfl rfl ?_
            refine J_aload_n (nx := 45) dX12_loses_44 rfl rfl ?_
            refine J_iload_n (nx := 46) dX12_loses_45 rfl rfl ?_
            refine J_iload_n (nx := 47) dX12_loses_46 rfl rfl ?_
            refine JcV2 (R' := rm (1) 0 0) (nx := 50) dX12_loses_47 rfl ml_X12_badBar lk_X12_344 iv_X12_badBar rfl rfl ⟨(Nat.le_of_ble_eq_true rfl), (Nat.le_of_ble_eq_true rfl)⟩ (Nat.le_of_ble_eq_true rfl) ⟨rfl, rfl⟩ (ct_m_badBar _ _ _) ?_
            refine J_iconst (nx := 51) (i := 2) (v := 2) (by decide) dX12_loses_50 rfl ?_
            refine J_thr (nx := 54) dX12_loses_51 rfl lk_X12_237 ⟨(Nat.le_of_ble_eq_true rfl), (Nat.le_of_ble_eq_true rfl)⟩ (Nat.le_of_ble_eq_true rfl) (fun b_51 => ?_) (fun b_51 => ?_)
            · refine J_if_eq (nx := 57) (tgt := 59) dX12_loses_54 rfl (by decide) (fun c_54 => ?_) (fun c_54 => ?_)
              · exact absurd c_54 (by decide)
              · refine J_lconst (nx := 58) (i := 0) (v := 0) (by decide) dX12_loses_57 rfl ?_
                exact Jrl dX12_loses_58 rfl (Nat.zero_le _) (Nat.zero_le _) (RXl.of (Or.inl ⟨_, (by simp only [bI_is0, bI_is1, Bool.not_eq_true', Bool.not_eq_false'] at c_14 c_20 c_28 b_51; simp only [mxC, c_14, c_20, c_28, b_51, decide_true, decide_false, Bool.true_or, Bool.false_or, Bool.and_true, Bool.true_and, Bool.false_and, Bool.and_false, cond_true, cond_false]), rfl, rfl⟩))
            · refine J_if_eq (nx := 57) (tgt := 59) dX12_loses_54 rfl (by decide) (fun c_54 => ?_) (fun c_54 => ?_)
              · have HC : mxC [(wMj (gA g 64) jd && wMs (gA g 64) k && fIn z 0 7 && (decide (st = -1) || fIn st 0 31), 1), (fMb jd b, 2)] = none := (by simp only [bI_is0, bI_is1, Bool.not_eq_true', Bool.not_eq_false'] at c_14 c_20 c_28 b_51; simp only [mxC, c_14, c_20, c_28, b_51, decide_true, decide_false, Bool.true_or, Bool.false_or, Bool.and_true, Bool.true_and, Bool.false_and, Bool.and_false, cond_true, cond_false])
                have HG0 := HC
                obtain ⟨hk0, HG1⟩ := gd HG0
                simp only [Bool.and_eq_true] at hk0
                obtain ⟨⟨⟨hk0_0, hk0_1⟩, hk0_2⟩, hk0_3⟩ := hk0
                have hjjd := wMj_ok hM hk0_0
                obtain ⟨qk, hqk, rfl⟩ := wMs_nat hM hk0_1
                try rw [nN_nI (n := qk) (by omega)]
                obtain ⟨qz, hqz, rfl⟩ := fIn_nat (n := 7) (by omega) hk0_2
                try rw [nN_nI (n := qz) (by omega)]
                obtain ⟨hk1, HG2⟩ := gd HG1
                have hk1_0 := hk1
                refine J_aload_n (nx := 60) dX12_loses_59 rfl rfl ?_
                refine J_aload_n (nx := 61) dX12_loses_60 rfl rfl ?_
                refine Jg_63_1 (nx := 64) dX12_loses_61 rfl fl_X12_13 ?_
                refine J_bipush (nx := 66) (i := 6) (v := 6) (by decide) dX12_loses_64 rfl ?_
                refine Ja_64 (nx := 67) dX12_loses_66 rfl (vpE (n := 6) (nIc 6) (by omega) (by decide)) ?_
                rw [clE (n := 6) (nIc 6) (by omega)]
                rw [show gA (sF g 63 0 0) 64 6 = gA g 64 6 from rfl]
                refine JvV1 (R' := rm (4) 0 0) (nx := 70) dX12_loses_67 rfl ml_X12_letsOn lk_X12_296 iv_X12_letsOn rfl rfl ⟨(Nat.le_of_ble_eq_true rfl), (Nat.le_of_ble_eq_true rfl)⟩ (Nat.le_of_ble_eq_true rfl) ⟨rfl, rfl⟩ (ct_m_letsOn (sF g 63 0 0) (gA g 64) (gA g 64 6) gl rfl hgl hgk) (fun g_67 p_67 => ?_)
                have hL : LSt (gA g 64) gl (gA g 64 6) g_67 := LOK.ls (show gA (sF g 63 0 0) 64 = gA g 64 from rfl) p_67
                have hfr1 : Fr fA aQ (sF g 63 0 0) g_67 := Fr.rf.LO p_67.1
                refine J_aload_n (nx := 71) dX12_loses_70 rfl rfl ?_
                refine J_iload_n (nx := 72) dX12_loses_71 rfl rfl ?_
                refine J_iload (nx := 74) dX12_loses_72 rfl rfl ?_
                refine J_aload_n (nx := 75) dX12_loses_74 rfl rfl ?_
                refine J_iload_n (nx := 76) dX12_loses_75 rfl rfl ?_
                refine JcV1 (R' := rm (1) 0 0) (nx := 79) dX12_loses_76 rfl ml_X12_toldCard lk_X12_320 iv_X12_toldCard rfl rfl ⟨(Nat.le_of_ble_eq_true rfl), (Nat.le_of_ble_eq_true rfl)⟩ (Nat.le_of_ble_eq_true rfl) ⟨rfl, rfl⟩ (ct_m_toldCard _ (qk) (by omega)) ?_
                rw [show mSo g_67 qk 0 = wTo (gA g 64) qk from congrFun hL.1 _]
                refine JcV3 (R' := rm (3) 0 0) (nx := 82) dX12_loses_79 rfl ml_X12_fouls lk_X12_323 iv_X12_fouls rfl rfl ⟨(Nat.le_of_ble_eq_true rfl), (Nat.le_of_ble_eq_true rfl)⟩ (Nat.le_of_ble_eq_true rfl) ⟨rfl, rfl⟩ (ct_m_fouls g_67 qk qz (by omega) (by omega) (wTo (gA g 64) qk)) ?_
                obtain ⟨gf, hgf⟩ : ∃ gf, gf = mFo g_67 qk qz (wTo (gA g 64) qk) := ⟨_, rfl⟩
                rw [← hgf]
                have hL2 : LSt (gA g 64) gl (gA g 64 6) gf := by rw [hgf]; exact hL.Fo
                have hF2 : FSt (gA g 64) qk qz (wTo (gA g 64) qk) gf := by rw [hgf]; exact FSt.Fo hL.1
                have hfr2 : Fr fA aQ (sF g 63 0 0) gf := by rw [hgf]; exact Fr.mFo hfr1
                refine J_aload_n (nx := 83) dX12_loses_82 rfl rfl ?_
                refine J_iload_n (nx := 84) dX12_loses_83 rfl rfl ?_
                refine J_iload_n (nx := 85) dX12_loses_84 rfl rfl ?_
                refine J_iload (nx := 87) dX12_loses_85 rfl rfl ?_
                refine JlV3 (R' := rm (5) 0 0) (nx := 90) dX12_loses_87 rfl ml_X12_losesAt lk_X12_355 iv_X12_losesAt rfl rfl ⟨(Nat.le_of_ble_eq_true rfl), (Nat.le_of_ble_eq_true rfl)⟩ (Nat.le_of_ble_eq_true rfl) ⟨rfl, rfl⟩ (ct_m_losesAt gf (gA g 64) gl rl (gA g 64 6) hM hL2 jd b st qk qz (wTo (gA g 64) qk) (by omega) hF2 hjjd) (fun x_87 g_87 p_87 => ?_)
                exact Jrl dX12_loses_90 rfl (Nat.zero_le _) (Nat.zero_le _) (RXl.of (Or.inr ⟨HC, p_87.1, QF.of (hfr2.K p_87.2.1)⟩))
              · exact absurd (by decide) c_54
      · refine J_iconst (nx := 32) (i := 1) (v := 1) (by decide) dX12_loses_31 rfl ?_
        refine J_goto (nx := 36) dX12_loses_32 (by decide) ?_
        refine J_iconst (nx := 37) (i := 1) (v := 1) (by decide) dX12_loses_36 rfl ?_
        refine J_thr (b := true) (nx := 40) dX12_loses_37 rfl lk_X12_237 ⟨(Nat.le_of_ble_eq_true rfl), (Nat.le_of_ble_eq_true rfl)⟩ (Nat.le_of_ble_eq_true rfl) (fun b_37 => ?_) (fun b_37 => ?_)
        · refine J_if_ne (nx := 43) (tgt := 57) dX12_loses_40 rfl (by decide) (fun c_40 => ?_) (fun c_40 => ?_)
          · refine J_lconst (nx := 58) (i := 0) (v := 0) (by decide) dX12_loses_57 rfl ?_
            exact Jrl dX12_loses_58 rfl (Nat.zero_le _) (Nat.zero_le _) (RXl.of (Or.inl ⟨_, (by simp only [bI_is0, bI_is1, Bool.not_eq_true', Bool.not_eq_false'] at c_14 c_20 c_28; simp only [mxC, c_14, c_20, c_28, decide_true, decide_false, Bool.true_or, Bool.false_or, Bool.and_true, Bool.true_and, Bool.false_and, Bool.and_false, cond_true, cond_false]), rfl, rfl⟩))
          · exact absurd c_40 (by decide)
        · exact absurd b_37 (by decide)

def brS (f : Nat → Int64) : Nat → Nat × Int64
  | 0 => (0, f 0)
  | n + 1 => (if 0 ≤ lg_cmp (f (n + 1)) (brS f n).2 then (brS f n).1 else n + 1, mnL (brS f n).2 (f (n + 1)))
set_option maxRecDepth 100000 in
set_option maxHeartbeats 4000000 in
theorem lp_m_bar (g0 : GS) (W : Nat → Int32) (gl : List TxL) (rl : Nat → List TxL) (m : Int32) (hM : MOK W gl rl) (k0 z : Nat) (told : Int32) (hz : z < 8) (a1 a2 : Int32) (n0 : Nat) : ∀ (k : Nat) (i : Nat) (g : GS), i + k = 31 → Fr f0 aKq g0 g → LSt W gl m g → FSt W k0 z told g → J mX12_bar (rm 6 0 0) (RXi (fun x g2 => x = nI (brS (fun q => wLs (mJP W gl rl m k0 z told 3 0 (mG W)) (mJP W gl rl m k0 z told 2 (nI q) (mG W)) (-1)) 31).1 ∧ Fr f0 aKq g0 g2)) n0 71 [some (.ref 63), some (.int a1), some (.int a2), some (.int (nI (brS (fun q => wLs (mJP W gl rl m k0 z told 3 0 (mG W)) (mJP W gl rl m k0 z told 2 (nI q) (mG W)) (-1)) i).1)), some (.long ((brS (fun q => wLs (mJP W gl rl m k0 z told 3 0 (mG W)) (mJP W gl rl m k0 z told 2 (nI q) (mG W)) (-1)) i).2)), none, some (.int (nI (i + 1))), none, none] [] (Wd g) 0 0 := by
  intro k
  induction k with
  | zero =>
    intro i g hk hfr hL hF
    refine J_iload (nx := 73) dX12_bar_71 rfl rfl ?_
    refine J_bipush (nx := 75) (i := 32) (v := 32) (by decide) dX12_bar_73 rfl ?_
    refine J_icmp_ge (nx := 78) (tgt := 118) dX12_bar_75 rfl (by decide) (fun c_75 => ?_) (fun c_75 => ?_)
    · refine J_iload_n (nx := 119) dX12_bar_118 rfl rfl ?_
      exact Jri dX12_bar_119 rfl (Nat.zero_le _) (Nat.zero_le _) (RXi.of ⟨by rw [show i = 31 by omega], hfr⟩)
    · exact absurd (show nI 32 ≤ nI (i + 1) from by rw [show i + 1 = 32 by omega]; exact le_self_nI) c_75
  | succ k ih =>
    intro i g hk hfr hL hF
    refine J_iload (nx := 73) dX12_bar_71 rfl rfl ?_
    refine J_bipush (nx := 75) (i := 32) (v := 32) (by decide) dX12_bar_73 rfl ?_
    refine J_icmp_ge (nx := 78) (tgt := 118) dX12_bar_75 rfl (by decide) (fun c_75 => ?_) (fun c_75 => ?_)
    · exact absurd c_75 (nlt_nI (n := 32) (by omega) (by omega))
    · refine J_aload_n (nx := 79) dX12_bar_78 rfl rfl ?_
      refine J_iconst (nx := 80) (i := 2) (v := 2) (by decide) dX12_bar_79 rfl ?_
      refine J_iload (nx := 82) dX12_bar_80 rfl rfl ?_
      refine J_iconst (nx := 83) (i := -1) (v := -1) (by decide) dX12_bar_82 rfl ?_
      refine JlV3 (R' := rm (5) 0 0) (nx := 86) dX12_bar_83 rfl ml_X12_losesAt lk_X12_355 iv_X12_losesAt rfl rfl ⟨(Nat.le_of_ble_eq_true rfl), (Nat.le_of_ble_eq_true rfl)⟩ (Nat.le_of_ble_eq_true rfl) ⟨rfl, rfl⟩ (ct_m_losesAt g W gl rl m hM hL 2 (nI (i + 1)) (-1) k0 z told hz hF (fun _ h => absurd (by decide) h)) (fun x_83 g_83 p_83 => ?_)
      refine J_lstore (nx := 88) dX12_bar_86 rfl rfl (Nat.le_of_ble_eq_true rfl) ?_
      refine J_lload (nx := 90) dX12_bar_88 rfl rfl ?_
      refine J_lload (nx := 92) dX12_bar_90 rfl rfl ?_
      refine J_lcmp (nx := 93) dX12_bar_92 rfl ?_
      refine J_if_ge (nx := 96) (tgt := 101) dX12_bar_93 rfl (by decide) (fun c_93 => ?_) (fun c_93 => ?_)
      · refine J_iload_n (nx := 102) dX12_bar_101 rfl rfl ?_
        refine J_istore_n (nx := 103) dX12_bar_102 rfl rfl (Nat.le_of_ble_eq_true rfl) ?_
        refine J_lload (nx := 105) dX12_bar_103 rfl rfl ?_
        refine J_lload (nx := 107) dX12_bar_105 rfl rfl ?_
        refine JcS2 (R' := rm (0) 0 0) (nx := 110) dX12_bar_107 rfl ml_J9_min_f86c9 lk_X12_273 st_J9_min_f86c9 ⟨(Nat.le_of_ble_eq_true rfl), (Nat.le_of_ble_eq_true rfl)⟩ (Nat.le_of_ble_eq_true rfl) ⟨rfl, rfl⟩ (ct_minL _ _ _) ?_
        refine J_lstore (nx := 112) dX12_bar_110 rfl rfl (Nat.le_of_ble_eq_true rfl) ?_
        refine J_iinc (nx := 115) dX12_bar_112 rfl rfl rfl (Nat.le_of_ble_eq_true rfl) ?_
        refine J_goto (nx := 71) dX12_bar_115 (by decide) ?_
        refine J_kill (nx := 0) 7 ?_
        rw [show (nI ((i + 1)) + Int32.ofInt 1) = nI (i + 1 + 1) from (show nI ((i + 1)) + Int32.ofInt 1 = nI ((i + 1) + 1) from nI_add ((i + 1)) 1)]
        rw [p_83.1] at c_93 ⊢
        refine J.lv (fun v => [some (.ref 63), some (.int a1), some (.int a2), some (.int (v)), some (.long (mnL (brS (fun q => wLs (mJP W gl rl m k0 z told 3 0 (mG W)) (mJP W gl rl m k0 z told 2 (nI q) (mG W)) (-1)) i).2 ((fun q => wLs (mJP W gl rl m k0 z told 3 0 (mG W)) (mJP W gl rl m k0 z told 2 (nI q) (mG W)) (-1)) (i + 1)))), none, some (.int (nI (i + 1 + 1))), none, none]) (y := nI (brS (fun q => wLs (mJP W gl rl m k0 z told 3 0 (mG W)) (mJP W gl rl m k0 z told 2 (nI q) (mG W)) (-1)) (i + 1)).1) ?_ (ih (i + 1) g_83 (by omega) (hfr.tr p_83.2.1) p_83.2.2.2.1 p_83.2.2.2.2.1)
        first
          | exact congrArg nI (if_pos c_93).symm
          | exact congrArg nI (if_neg c_93).symm
      · refine J_iload (nx := 98) dX12_bar_96 rfl rfl ?_
        refine J_goto (nx := 102) dX12_bar_98 (by decide) ?_
        refine J_istore_n (nx := 103) dX12_bar_102 rfl rfl (Nat.le_of_ble_eq_true rfl) ?_
        refine J_lload (nx := 105) dX12_bar_103 rfl rfl ?_
        refine J_lload (nx := 107) dX12_bar_105 rfl rfl ?_
        refine JcS2 (R' := rm (0) 0 0) (nx := 110) dX12_bar_107 rfl ml_J9_min_f86c9 lk_X12_273 st_J9_min_f86c9 ⟨(Nat.le_of_ble_eq_true rfl), (Nat.le_of_ble_eq_true rfl)⟩ (Nat.le_of_ble_eq_true rfl) ⟨rfl, rfl⟩ (ct_minL _ _ _) ?_
        refine J_lstore (nx := 112) dX12_bar_110 rfl rfl (Nat.le_of_ble_eq_true rfl) ?_
        refine J_iinc (nx := 115) dX12_bar_112 rfl rfl rfl (Nat.le_of_ble_eq_true rfl) ?_
        refine J_goto (nx := 71) dX12_bar_115 (by decide) ?_
        refine J_kill (nx := 0) 7 ?_
        rw [show (nI ((i + 1)) + Int32.ofInt 1) = nI (i + 1 + 1) from (show nI ((i + 1)) + Int32.ofInt 1 = nI ((i + 1) + 1) from nI_add ((i + 1)) 1)]
        rw [p_83.1] at c_93 ⊢
        refine J.lv (fun v => [some (.ref 63), some (.int a1), some (.int a2), some (.int (v)), some (.long (mnL (brS (fun q => wLs (mJP W gl rl m k0 z told 3 0 (mG W)) (mJP W gl rl m k0 z told 2 (nI q) (mG W)) (-1)) i).2 ((fun q => wLs (mJP W gl rl m k0 z told 3 0 (mG W)) (mJP W gl rl m k0 z told 2 (nI q) (mG W)) (-1)) (i + 1)))), none, some (.int (nI (i + 1 + 1))), none, none]) (y := nI (brS (fun q => wLs (mJP W gl rl m k0 z told 3 0 (mG W)) (mJP W gl rl m k0 z told 2 (nI q) (mG W)) (-1)) (i + 1)).1) ?_ (ih (i + 1) g_83 (by omega) (hfr.tr p_83.2.1) p_83.2.2.2.1 p_83.2.2.2.2.1)
        first
          | exact congrArg nI (if_pos c_93).symm
          | exact congrArg nI (if_neg c_93).symm

set_option maxRecDepth 100000 in
set_option maxHeartbeats 4000000 in
theorem ct_m_bar (g : GS) (gl : List TxL) (rl : Nat → List TxL) (hM : MOK (gA g 64) gl rl) (k : Int32) (z : Int32) : Ct mX12_bar (rm 6 0 0) [.ref 63, .int k, .int z] (Wd g) (PQi g [(wMs (gA g 64) k && fIn z 0 7, 1)] (fun x g2 => x = nI (brS (fun q => wLs (mJP  (gA g 64) gl rl (gA g 64 6) (nN k) (nN z) (wTo (gA g 64) (nN k)) 3 0 (mG  (gA g 64))) (mJP  (gA g 64) gl rl (gA g 64 6) (nN k) (nN z) (wTo (gA g 64) (nN k)) 2 (nI q) (mG  (gA g 64))) (-1)) 31).1 ∧ QF g g2)) := by
  have hM2 := hM
  obtain ⟨⟨hG10, hG⟩, ⟨hT1, hT60, hT⟩, ⟨hR4, hR, hrl⟩, ⟨hN6, hN⟩, hgl, hgk⟩ := hM2
  refine Ct.of (by decide +kernel) (Nat.le_of_ble_eq_true rfl) ?_
  show J _ _ _ _ 0 [some (.ref 63), some (.int k), some (.int z), none, none, none, none, none, none] [] _ 0 0
  refine J_aload_n (nx := 1) dX12_bar_0 rfl rfl ?_
  refine J_iconst (nx := 2) (i := 0) (v := 0) (by decide) dX12_bar_1 rfl ?_
  refine Jp_63_0 (nx := 5) dX12_bar_2 rfl fl_X12_3 ?_
  refine J_aload_n (nx := 6) dX12_bar_5 rfl rfl ?_
  refine J_aload_n (nx := 7) dX12_bar_6 rfl rfl ?_
  refine J_iload_n (nx := 8) dX12_bar_7 rfl rfl ?_
  refine JcV1 (R' := rm (1) 0 0) (nx := 11) dX12_bar_8 rfl ml_X12_noSort lk_X12_317 iv_X12_noSort rfl rfl ⟨(Nat.le_of_ble_eq_true rfl), (Nat.le_of_ble_eq_true rfl)⟩ (Nat.le_of_ble_eq_true rfl) ⟨rfl, rfl⟩ (ct_m_noSortW (sF g 63 0 0) (gA g 64) rfl _) ?_
  refine J_if_ne (nx := 14) (tgt := 21) dX12_bar_11 rfl (by decide) (fun c_11 => ?_) (fun c_11 => ?_)
  · refine J_iconst (nx := 22) (i := 1) (v := 1) (by decide) dX12_bar_21 rfl ?_
    refine J_goto (nx := 26) dX12_bar_22 (by decide) ?_
    refine J_iconst (nx := 27) (i := 1) (v := 1) (by decide) dX12_bar_26 rfl ?_
    refine J_thr (b := true) (nx := 30) dX12_bar_27 rfl lk_X12_237 ⟨(Nat.le_of_ble_eq_true rfl), (Nat.le_of_ble_eq_true rfl)⟩ (Nat.le_of_ble_eq_true rfl) (fun b_27 => ?_) (fun b_27 => ?_)
    · refine J_if_eq (nx := 33) (tgt := 35) dX12_bar_30 rfl (by decide) (fun c_30 => ?_) (fun c_30 => ?_)
      · exact absurd c_30 (by decide)
      · refine J_iconst (nx := 34) (i := 0) (v := 0) (by decide) dX12_bar_33 rfl ?_
        exact Jri dX12_bar_34 rfl (Nat.zero_le _) (Nat.zero_le _) (RXi.of (Or.inl ⟨_, (by simp only [bI_is0, bI_is1, Bool.not_eq_true', Bool.not_eq_false'] at c_11; simp only [mxC, c_11, decide_true, decide_false, Bool.true_or, Bool.false_or, Bool.and_true, Bool.true_and, Bool.false_and, Bool.and_false, cond_true, cond_false]), rfl, rfl⟩))
    · exact absurd b_27 (by decide)
  · refine J_iload_n (nx := 15) dX12_bar_14 rfl rfl ?_
    refine JcS1 (R' := rm (1) 0 0) (nx := 18) dX12_bar_15 rfl ml_X12_noZone lk_X12_254 st_X12_noZone ⟨(Nat.le_of_ble_eq_true rfl), (Nat.le_of_ble_eq_true rfl)⟩ (Nat.le_of_ble_eq_true rfl) ⟨rfl, rfl⟩ (ct_m_noZone _ _) ?_
    refine J_if_eq (nx := 21) (tgt := 25) dX12_bar_18 rfl (by decide) (fun c_18 => ?_) (fun c_18 => ?_)
    · refine J_iconst (nx := 26) (i := 0) (v := 0) (by decide) dX12_bar_25 rfl ?_
      refine J_iconst (nx := 27) (i := 1) (v := 1) (by decide) dX12_bar_26 rfl ?_
      refine J_thr (b := false) (nx := 30) dX12_bar_27 rfl lk_X12_237 ⟨(Nat.le_of_ble_eq_true rfl), (Nat.le_of_ble_eq_true rfl)⟩ (Nat.le_of_ble_eq_true rfl) (fun b_27 => ?_) (fun b_27 => ?_)
      · exact absurd b_27 (by decide)
      · refine J_if_eq (nx := 33) (tgt := 35) dX12_bar_30 rfl (by decide) (fun c_30 => ?_) (fun c_30 => ?_)
        · have HC : mxC [(wMs (gA g 64) k && fIn z 0 7, 1)] = none := (by simp only [bI_is0, bI_is1, Bool.not_eq_true', Bool.not_eq_false'] at c_11 c_18; simp only [mxC, c_11, c_18, decide_true, decide_false, Bool.true_or, Bool.false_or, Bool.and_true, Bool.true_and, Bool.false_and, Bool.and_false, cond_true, cond_false])
          have HG0 := HC
          obtain ⟨hk0, HG1⟩ := gd HG0
          simp only [Bool.and_eq_true] at hk0
          obtain ⟨hk0_0, hk0_1⟩ := hk0
          obtain ⟨qk, hqk, rfl⟩ := wMs_nat hM hk0_0
          try rw [nN_nI (n := qk) (by omega)]
          obtain ⟨qz, hqz, rfl⟩ := fIn_nat (n := 7) (by omega) hk0_1
          try rw [nN_nI (n := qz) (by omega)]
          refine J_aload_n (nx := 36) dX12_bar_35 rfl rfl ?_
          refine J_aload_n (nx := 37) dX12_bar_36 rfl rfl ?_
          refine Jg_63_1 (nx := 40) dX12_bar_37 rfl fl_X12_13 ?_
          refine J_bipush (nx := 42) (i := 6) (v := 6) (by decide) dX12_bar_40 rfl ?_
          refine Ja_64 (nx := 43) dX12_bar_42 rfl (vpE (n := 6) (nIc 6) (by omega) (by decide)) ?_
          rw [clE (n := 6) (nIc 6) (by omega)]
          rw [show gA (sF g 63 0 0) 64 6 = gA g 64 6 from rfl]
          refine JvV1 (R' := rm (4) 0 0) (nx := 46) dX12_bar_43 rfl ml_X12_letsOn lk_X12_296 iv_X12_letsOn rfl rfl ⟨(Nat.le_of_ble_eq_true rfl), (Nat.le_of_ble_eq_true rfl)⟩ (Nat.le_of_ble_eq_true rfl) ⟨rfl, rfl⟩ (ct_m_letsOn (sF g 63 0 0) (gA g 64) (gA g 64 6) gl rfl hgl hgk) (fun g_43 p_43 => ?_)
          have hL : LSt (gA g 64) gl (gA g 64 6) g_43 := LOK.ls (show gA (sF g 63 0 0) 64 = gA g 64 from rfl) p_43
          have hfr1 : Fr fA aQ (sF g 63 0 0) g_43 := Fr.rf.LO p_43.1
          refine J_aload_n (nx := 47) dX12_bar_46 rfl rfl ?_
          refine J_iload_n (nx := 48) dX12_bar_47 rfl rfl ?_
          refine J_iload_n (nx := 49) dX12_bar_48 rfl rfl ?_
          refine J_aload_n (nx := 50) dX12_bar_49 rfl rfl ?_
          refine J_iload_n (nx := 51) dX12_bar_50 rfl rfl ?_
          refine JcV1 (R' := rm (1) 0 0) (nx := 54) dX12_bar_51 rfl ml_X12_toldCard lk_X12_320 iv_X12_toldCard rfl rfl ⟨(Nat.le_of_ble_eq_true rfl), (Nat.le_of_ble_eq_true rfl)⟩ (Nat.le_of_ble_eq_true rfl) ⟨rfl, rfl⟩ (ct_m_toldCard _ (qk) (by omega)) ?_
          rw [show mSo g_43 qk 0 = wTo (gA g 64) qk from congrFun hL.1 _]
          refine JcV3 (R' := rm (3) 0 0) (nx := 57) dX12_bar_54 rfl ml_X12_fouls lk_X12_323 iv_X12_fouls rfl rfl ⟨(Nat.le_of_ble_eq_true rfl), (Nat.le_of_ble_eq_true rfl)⟩ (Nat.le_of_ble_eq_true rfl) ⟨rfl, rfl⟩ (ct_m_fouls g_43 qk qz (by omega) (by omega) (wTo (gA g 64) qk)) ?_
          obtain ⟨gf, hgf⟩ : ∃ gf, gf = mFo g_43 qk qz (wTo (gA g 64) qk) := ⟨_, rfl⟩
          rw [← hgf]
          have hL2 : LSt (gA g 64) gl (gA g 64 6) gf := by rw [hgf]; exact hL.Fo
          have hF2 : FSt (gA g 64) qk qz (wTo (gA g 64) qk) gf := by rw [hgf]; exact FSt.Fo hL.1
          have hfr2 : Fr fA aQ (sF g 63 0 0) gf := by rw [hgf]; exact Fr.mFo hfr1
          refine J_iconst (nx := 58) (i := 0) (v := 0) (by decide) dX12_bar_57 rfl ?_
          refine J_istore_n (nx := 59) dX12_bar_58 rfl rfl (Nat.le_of_ble_eq_true rfl) ?_
          refine J_aload_n (nx := 60) dX12_bar_59 rfl rfl ?_
          refine J_iconst (nx := 61) (i := 2) (v := 2) (by decide) dX12_bar_60 rfl ?_
          refine J_iconst (nx := 62) (i := 0) (v := 0) (by decide) dX12_bar_61 rfl ?_
          refine J_iconst (nx := 63) (i := -1) (v := -1) (by decide) dX12_bar_62 rfl ?_
          refine JlV3 (R' := rm (5) 0 0) (nx := 66) dX12_bar_63 rfl ml_X12_losesAt lk_X12_355 iv_X12_losesAt rfl rfl ⟨(Nat.le_of_ble_eq_true rfl), (Nat.le_of_ble_eq_true rfl)⟩ (Nat.le_of_ble_eq_true rfl) ⟨rfl, rfl⟩ (ct_m_losesAt gf (gA g 64) gl rl (gA g 64 6) hM hL2 2 0 (-1) qk qz (wTo (gA g 64) qk) (by omega) hF2 (fun _ h => absurd (by decide) h)) (fun x_63 g_63 p_63 => ?_)
          refine J_lstore (nx := 68) dX12_bar_66 rfl rfl (Nat.le_of_ble_eq_true rfl) ?_
          refine J_iconst (nx := 69) (i := 1) (v := 1) (by decide) dX12_bar_68 rfl ?_
          refine J_istore (nx := 71) dX12_bar_69 rfl rfl (Nat.le_of_ble_eq_true rfl) ?_
          rw [p_63.1]
          refine J.post (lp_m_bar gf (gA g 64) gl rl (gA g 64 6) hM qk qz (wTo (gA g 64) qk) (by omega) _ _ _ 31 0 g_63 rfl p_63.2.1 p_63.2.2.2.1 p_63.2.2.2.2.1) (fun r es h => ?_)
          obtain ⟨x, g2, hr, he, hx, hf⟩ := h
          exact ⟨x, g2, hr, he, Or.inr ⟨HC, hx, QF.of (hfr2.K hf)⟩⟩
        · exact absurd (by decide) c_30
    · refine J_iconst (nx := 22) (i := 1) (v := 1) (by decide) dX12_bar_21 rfl ?_
      refine J_goto (nx := 26) dX12_bar_22 (by decide) ?_
      refine J_iconst (nx := 27) (i := 1) (v := 1) (by decide) dX12_bar_26 rfl ?_
      refine J_thr (b := true) (nx := 30) dX12_bar_27 rfl lk_X12_237 ⟨(Nat.le_of_ble_eq_true rfl), (Nat.le_of_ble_eq_true rfl)⟩ (Nat.le_of_ble_eq_true rfl) (fun b_27 => ?_) (fun b_27 => ?_)
      · refine J_if_eq (nx := 33) (tgt := 35) dX12_bar_30 rfl (by decide) (fun c_30 => ?_) (fun c_30 => ?_)
        · exact absurd c_30 (by decide)
        · refine J_iconst (nx := 34) (i := 0) (v := 0) (by decide) dX12_bar_33 rfl ?_
          exact Jri dX12_bar_34 rfl (Nat.zero_le _) (Nat.zero_le _) (RXi.of (Or.inl ⟨_, (by simp only [bI_is0, bI_is1, Bool.not_eq_true', Bool.not_eq_false'] at c_11 c_18; simp only [mxC, c_11, c_18, decide_true, decide_false, Bool.true_or, Bool.false_or, Bool.and_true, Bool.true_and, Bool.false_and, Bool.and_false, cond_true, cond_false]), rfl, rfl⟩))
      · exact absurd b_27 (by decide)

set_option maxRecDepth 100000 in
set_option maxHeartbeats 4000000 in
theorem ct_m_pays (g : GS) (gl : List TxL) (rl : Nat → List TxL) (hM : MOK (gA g 64) gl rl) (jd : Int32) (b : Int32) (k : Int32) : Ct mX12_pays (rm 6 0 0) [.ref 63, .int jd, .int b, .int k] (Wd g) (PQi g [(wMj (gA g 64) jd && wMs (gA g 64) k, 1), (fMb jd b, 2)] (fun x g2 => x = orI (wPy (gA g 64) gl rl (gA g 64 6) (nN k) (wTo (gA g 64) (nN k)) jd b) 32 ∧ QF g g2)) := by
  have hM2 := hM
  obtain ⟨⟨hG10, hG⟩, ⟨hT1, hT60, hT⟩, ⟨hR4, hR, hrl⟩, ⟨hN6, hN⟩, hgl, hgk⟩ := hM2
  refine Ct.of (by decide +kernel) (Nat.le_of_ble_eq_true rfl) ?_
  show J _ _ _ _ 0 [some (.ref 63), some (.int jd), some (.int b), some (.int k)] [] _ 0 0
  refine J_aload_n (nx := 1) dX12_pays_0 rfl rfl ?_
  refine J_iconst (nx := 2) (i := 0) (v := 0) (by decide) dX12_pays_1 rfl ?_
  refine Jp_63_0 (nx := 5) dX12_pays_2 rfl fl_X12_3 ?_
  refine J_aload_n (nx := 6) dX12_pays_5 rfl rfl ?_
  refine J_aload_n (nx := 7) dX12_pays_6 rfl rfl ?_
  refine J_iload_n (nx := 8) dX12_pays_7 rfl rfl ?_
  refine JcV1 (R' := rm (1) 0 0) (nx := 11) dX12_pays_8 rfl ml_X12_noJudge lk_X12_335 iv_X12_noJudge rfl rfl ⟨(Nat.le_of_ble_eq_true rfl), (Nat.le_of_ble_eq_true rfl)⟩ (Nat.le_of_ble_eq_true rfl) ⟨rfl, rfl⟩ (ct_m_noJudgeW (sF g 63 0 0) (gA g 64) rfl _) ?_
  refine J_if_ne (nx := 14) (tgt := 22) dX12_pays_11 rfl (by decide) (fun c_11 => ?_) (fun c_11 => ?_)
  · refine J_iconst (nx := 23) (i := 1) (v := 1) (by decide) dX12_pays_22 rfl ?_
    refine J_goto (nx := 27) dX12_pays_23 (by decide) ?_
    refine J_iconst (nx := 28) (i := 1) (v := 1) (by decide) dX12_pays_27 rfl ?_
    refine J_thr (b := true) (nx := 31) dX12_pays_28 rfl lk_X12_237 ⟨(Nat.le_of_ble_eq_true rfl), (Nat.le_of_ble_eq_true rfl)⟩ (Nat.le_of_ble_eq_true rfl) (fun b_28 => ?_) (fun b_28 => ?_)
    · refine J_if_ne (nx := 34) (tgt := 48) dX12_pays_31 rfl (by decide) (fun c_31 => ?_) (fun c_31 => ?_)
      · refine J_iconst (nx := 49) (i := 0) (v := 0) (by decide) dX12_pays_48 rfl ?_
        exact Jri dX12_pays_49 rfl (Nat.zero_le _) (Nat.zero_le _) (RXi.of (Or.inl ⟨_, (by simp only [bI_is0, bI_is1, Bool.not_eq_true', Bool.not_eq_false'] at c_11; simp only [mxC, c_11, decide_true, decide_false, Bool.true_or, Bool.false_or, Bool.and_true, Bool.true_and, Bool.false_and, Bool.and_false, cond_true, cond_false]), rfl, rfl⟩))
      · exact absurd c_31 (by decide)
    · exact absurd b_28 (by decide)
  · refine J_aload_n (nx := 15) dX12_pays_14 rfl rfl ?_
    refine J_iload_n (nx := 16) dX12_pays_15 rfl rfl ?_
    refine JcV1 (R' := rm (1) 0 0) (nx := 19) dX12_pays_16 rfl ml_X12_noSort lk_X12_317 iv_X12_noSort rfl rfl ⟨(Nat.le_of_ble_eq_true rfl), (Nat.le_of_ble_eq_true rfl)⟩ (Nat.le_of_ble_eq_true rfl) ⟨rfl, rfl⟩ (ct_m_noSortW (sF g 63 0 0) (gA g 64) rfl _) ?_
    refine J_if_eq (nx := 22) (tgt := 26) dX12_pays_19 rfl (by decide) (fun c_19 => ?_) (fun c_19 => ?_)
    · refine J_iconst (nx := 27) (i := 0) (v := 0) (by decide) dX12_pays_26 rfl ?_
      refine J_iconst (nx := 28) (i := 1) (v := 1) (by decide) dX12_pays_27 rfl ?_
      refine J_thr (b := false) (nx := 31) dX12_pays_28 rfl lk_X12_237 ⟨(Nat.le_of_ble_eq_true rfl), (Nat.le_of_ble_eq_true rfl)⟩ (Nat.le_of_ble_eq_true rfl) (fun b_28 => ?_) (fun b_28 => ?_)
      · exact absurd b_28 (by decide)
      · refine J_if_ne (nx := 34) (tgt := 48) dX12_pays_31 rfl (by decide) (fun c_31 => ?_) (fun c_31 => ?_)
        · exact absurd (by decide) c_31
        · refine J_aload_n (nx := 35) dX12_pays_34 rfl rfl ?_
          refine J_aload_n (nx := 36) dX12_pays_35 rfl rfl ?_
          refine J_iload_n (nx := 37) dX12_pays_36 rfl rfl ?_
          refine J_iload_n (nx := 38) dX12_pays_37 rfl rfl ?_
          refine JcV2 (R' := rm (1) 0 0) (nx := 41) dX12_pays_38 rfl ml_X12_badBar lk_X12_344 iv_X12_badBar rfl rfl ⟨(Nat.le_of_ble_eq_true rfl), (Nat.le_of_ble_eq_true rfl)⟩ (Nat.le_of_ble_eq_true rfl) ⟨rfl, rfl⟩ (ct_m_badBar _ _ _) ?_
          refine J_iconst (nx := 42) (i := 2) (v := 2) (by decide) dX12_pays_41 rfl ?_
          refine J_thr (nx := 45) dX12_pays_42 rfl lk_X12_237 ⟨(Nat.le_of_ble_eq_true rfl), (Nat.le_of_ble_eq_true rfl)⟩ (Nat.le_of_ble_eq_true rfl) (fun b_42 => ?_) (fun b_42 => ?_)
          · refine J_if_eq (nx := 48) (tgt := 50) dX12_pays_45 rfl (by decide) (fun c_45 => ?_) (fun c_45 => ?_)
            · exact absurd c_45 (by decide)
            · refine J_iconst (nx := 49) (i := 0) (v := 0) (by decide) dX12_pays_48 rfl ?_
              exact Jri dX12_pays_49 rfl (Nat.zero_le _) (Nat.zero_le _) (RXi.of (Or.inl ⟨_, (by simp only [bI_is0, bI_is1, Bool.not_eq_true', Bool.not_eq_false'] at c_11 c_19 b_42; simp only [mxC, c_11, c_19, b_42, decide_true, decide_false, Bool.true_or, Bool.false_or, Bool.and_true, Bool.true_and, Bool.false_and, Bool.and_false, cond_true, cond_false]), rfl, rfl⟩))
          · refine J_if_eq (nx := 48) (tgt := 50) dX12_pays_45 rfl (by decide) (fun c_45 => ?_) (fun c_45 => ?_)
            · have HC : mxC [(wMj (gA g 64) jd && wMs (gA g 64) k, 1), (fMb jd b, 2)] = none := (by simp only [bI_is0, bI_is1, Bool.not_eq_true', Bool.not_eq_false'] at c_11 c_19 b_42; simp only [mxC, c_11, c_19, b_42, decide_true, decide_false, Bool.true_or, Bool.false_or, Bool.and_true, Bool.true_and, Bool.false_and, Bool.and_false, cond_true, cond_false])
              have HG0 := HC
              obtain ⟨hk0, HG1⟩ := gd HG0
              simp only [Bool.and_eq_true] at hk0
              obtain ⟨hk0_0, hk0_1⟩ := hk0
              have hjjd := wMj_ok hM hk0_0
              obtain ⟨qk, hqk, rfl⟩ := wMs_nat hM hk0_1
              try rw [nN_nI (n := qk) (by omega)]
              obtain ⟨hk1, HG2⟩ := gd HG1
              have hk1_0 := hk1
              refine J_aload_n (nx := 51) dX12_pays_50 rfl rfl ?_
              refine J_aload_n (nx := 52) dX12_pays_51 rfl rfl ?_
              refine Jg_63_1 (nx := 55) dX12_pays_52 rfl fl_X12_13 ?_
              refine J_bipush (nx := 57) (i := 6) (v := 6) (by decide) dX12_pays_55 rfl ?_
              refine Ja_64 (nx := 58) dX12_pays_57 rfl (vpE (n := 6) (nIc 6) (by omega) (by decide)) ?_
              rw [clE (n := 6) (nIc 6) (by omega)]
              rw [show gA (sF g 63 0 0) 64 6 = gA g 64 6 from rfl]
              refine JvV1 (R' := rm (4) 0 0) (nx := 61) dX12_pays_58 rfl ml_X12_letsOn lk_X12_296 iv_X12_letsOn rfl rfl ⟨(Nat.le_of_ble_eq_true rfl), (Nat.le_of_ble_eq_true rfl)⟩ (Nat.le_of_ble_eq_true rfl) ⟨rfl, rfl⟩ (ct_m_letsOn (sF g 63 0 0) (gA g 64) (gA g 64 6) gl rfl hgl hgk) (fun g_58 p_58 => ?_)
              have hL : LSt (gA g 64) gl (gA g 64 6) g_58 := LOK.ls (show gA (sF g 63 0 0) 64 = gA g 64 from rfl) p_58
              have hfr1 : Fr fA aQ (sF g 63 0 0) g_58 := Fr.rf.LO p_58.1
              refine J_aload_n (nx := 62) dX12_pays_61 rfl rfl ?_
              refine J_iload_n (nx := 63) dX12_pays_62 rfl rfl ?_
              refine J_iload_n (nx := 64) dX12_pays_63 rfl rfl ?_
              refine J_iload_n (nx := 65) dX12_pays_64 rfl rfl ?_
              refine J_aload_n (nx := 66) dX12_pays_65 rfl rfl ?_
              refine J_iload_n (nx := 67) dX12_pays_66 rfl rfl ?_
              refine JcV1 (R' := rm (1) 0 0) (nx := 70) dX12_pays_67 rfl ml_X12_toldCard lk_X12_320 iv_X12_toldCard rfl rfl ⟨(Nat.le_of_ble_eq_true rfl), (Nat.le_of_ble_eq_true rfl)⟩ (Nat.le_of_ble_eq_true rfl) ⟨rfl, rfl⟩ (ct_m_toldCard _ (qk) (by omega)) ?_
              rw [show mSo g_58 qk 0 = wTo (gA g 64) qk from congrFun hL.1 _]
              refine JiV4 (R' := rm (5) 0 0) (nx := 73) dX12_pays_70 rfl ml_X12_paying lk_X12_359 iv_X12_paying rfl rfl ⟨(Nat.le_of_ble_eq_true rfl), (Nat.le_of_ble_eq_true rfl)⟩ (Nat.le_of_ble_eq_true rfl) ⟨rfl, rfl⟩ (ct_m_paying g_58 (gA g 64) gl rl (gA g 64 6) hM hL jd b qk (by omega) (wTo (gA g 64) qk) hjjd) (fun x_70 g_70 p_70 => ?_)
              exact Jri dX12_pays_73 rfl (Nat.zero_le _) (Nat.zero_le _) (RXi.of (Or.inr ⟨HC, p_70.1, QF.of (hfr1.tr p_70.2.1)⟩))
            · exact absurd (by decide) c_45
    · refine J_iconst (nx := 23) (i := 1) (v := 1) (by decide) dX12_pays_22 rfl ?_
      refine J_goto (nx := 27) dX12_pays_23 (by decide) ?_
      refine J_iconst (nx := 28) (i := 1) (v := 1) (by decide) dX12_pays_27 rfl ?_
      refine J_thr (b := true) (nx := 31) dX12_pays_28 rfl lk_X12_237 ⟨(Nat.le_of_ble_eq_true rfl), (Nat.le_of_ble_eq_true rfl)⟩ (Nat.le_of_ble_eq_true rfl) (fun b_28 => ?_) (fun b_28 => ?_)
      · refine J_if_ne (nx := 34) (tgt := 48) dX12_pays_31 rfl (by decide) (fun c_31 => ?_) (fun c_31 => ?_)
        · refine J_iconst (nx := 49) (i := 0) (v := 0) (by decide) dX12_pays_48 rfl ?_
          exact Jri dX12_pays_49 rfl (Nat.zero_le _) (Nat.zero_le _) (RXi.of (Or.inl ⟨_, (by simp only [bI_is0, bI_is1, Bool.not_eq_true', Bool.not_eq_false'] at c_11 c_19; simp only [mxC, c_11, c_19, decide_true, decide_false, Bool.true_or, Bool.false_or, Bool.and_true, Bool.true_and, Bool.false_and, Bool.and_false, cond_true, cond_false]), rfl, rfl⟩))
        · exact absurd c_31 (by decide)
      · exact absurd b_28 (by decide)

def lsF (f : Nat → Int32) : Nat → Nat → Nat → Nat
  | 0, l, _ => l
  | k + 1, l, h => if l < h then (if ¬ f ((l + h) / 2) = 0 then lsF f k ((l + h) / 2 + 1) h else lsF f k l ((l + h) / 2)) else l
def lsT (l : Nat) : Int32 := if nI l ≤ 9999 then nI l else -1
set_option maxRecDepth 100000 in
set_option maxHeartbeats 4000000 in
theorem lp_m_least (g0 : GS) (W : Nat → Int32) (gl : List TxL) (rl : Nat → List TxL) (m : Int32) (hM : MOK W gl rl) (jd b sts : Int32) (hjd : jdOK W jd) (k0 : Nat) (hk0 : k0 < 6) (n0 : Nat) : ∀ (k : Nat) (l h : Nat) (g : GS) (r : Nat), h ≤ l + k → h ≤ 10000 ∧ l ≤ 10000 → Fr fA aQ g0 g → LSt W gl m g → r = lsF (fun q => orI (wPy W gl rl m k0 (nI q) jd b) 32 &&& sts) k l h → J mX12_least (rm 6 0 0) (RXi (fun x g2 => x = lsT r ∧ Fr fA aQ g0 g2)) n0 69 [some (.ref 63), some (.int jd), some (.int b), some (.int (nI (k0))), some (.int sts), some (.int (nI (l))), some (.int (nI (h))), none] [] (Wd g) 0 0 := by
  intro k
  induction k with
  | zero =>
    intro l h g r hk hb hfr hL hr
    refine J_iload (nx := 71) dX12_least_69 rfl rfl ?_
    refine J_iload (nx := 73) dX12_least_71 rfl rfl ?_
    refine J_icmp_ge (nx := 76) (tgt := 116) dX12_least_73 rfl (by decide) (fun c_73 => ?_) (fun c_73 => ?_)
    · have hr : r = l := hr
      refine J_iload (nx := 118) dX12_least_116 rfl rfl ?_
      refine J_sipush (nx := 121) (i := 9999) (v := 9999) (by decide) dX12_least_118 rfl ?_
      refine J_icmp_le (nx := 124) (tgt := 128) dX12_least_121 rfl (by decide) (fun c_121 => ?_) (fun c_121 => ?_)
      · refine J_iload (nx := 130) dX12_least_128 rfl rfl ?_
        exact Jri dX12_least_130 rfl (Nat.zero_le _) (Nat.zero_le _) (RXi.of ⟨by rw [hr]; unfold lsT; first | rw [if_pos c_121] | rw [if_neg c_121], hfr⟩)
      · refine J_iconst (nx := 125) (i := -1) (v := -1) (by decide) dX12_least_124 rfl ?_
        refine J_goto (nx := 130) dX12_least_125 (by decide) ?_
        exact Jri dX12_least_130 rfl (Nat.zero_le _) (Nat.zero_le _) (RXi.of ⟨by rw [hr]; unfold lsT; first | rw [if_pos c_121] | rw [if_neg c_121], hfr⟩)
    · exact absurd (show nI h ≤ nI l from nI_le_n (by omega) (by omega)) c_73
  | succ k ih =>
    intro l h g r hk hb hfr hL hr
    refine J_iload (nx := 71) dX12_least_69 rfl rfl ?_
    refine J_iload (nx := 73) dX12_least_71 rfl rfl ?_
    refine J_icmp_ge (nx := 76) (tgt := 116) dX12_least_73 rfl (by decide) (fun c_73 => ?_) (fun c_73 => ?_)
    · have hr : r = l := hr.trans (if_neg (fun z => absurd c_73 (nlt_nI z (by omega))))
      refine J_iload (nx := 118) dX12_least_116 rfl rfl ?_
      refine J_sipush (nx := 121) (i := 9999) (v := 9999) (by decide) dX12_least_118 rfl ?_
      refine J_icmp_le (nx := 124) (tgt := 128) dX12_least_121 rfl (by decide) (fun c_121 => ?_) (fun c_121 => ?_)
      · refine J_iload (nx := 130) dX12_least_128 rfl rfl ?_
        exact Jri dX12_least_130 rfl (Nat.zero_le _) (Nat.zero_le _) (RXi.of ⟨by rw [hr]; unfold lsT; first | rw [if_pos c_121] | rw [if_neg c_121], hfr⟩)
      · refine J_iconst (nx := 125) (i := -1) (v := -1) (by decide) dX12_least_124 rfl ?_
        refine J_goto (nx := 130) dX12_least_125 (by decide) ?_
        exact Jri dX12_least_130 rfl (Nat.zero_le _) (Nat.zero_le _) (RXi.of ⟨by rw [hr]; unfold lsT; first | rw [if_pos c_121] | rw [if_neg c_121], hfr⟩)
    · have hlh : l < h := by
        rcases Nat.lt_or_ge l h with z | z
        · exact z
        · exact absurd (nI_le_n z (by omega)) c_73
      refine J_iload (nx := 78) dX12_least_76 rfl rfl ?_
      refine J_iload (nx := 80) dX12_least_78 rfl rfl ?_
      refine J_iadd (nx := 81) dX12_least_80 rfl ?_
      refine J_iconst (nx := 82) (i := 2) (v := 2) (by decide) dX12_least_81 rfl ?_
      refine J_idiv (nx := 83) (by decide) dX12_least_82 rfl ?_
      rw [show ((nI (l) + nI (h)) / (2 : Int32)) = nI (((l + h) / 2)) from (nId (by omega) (by omega) (nIa (Eq.refl (nI (l))) (Eq.refl (nI (h)))) (nIc 2))]
      refine J_istore (nx := 85) dX12_least_83 rfl rfl (Nat.le_of_ble_eq_true rfl) ?_
      refine J_aload_n (nx := 86) dX12_least_85 rfl rfl ?_
      refine J_iload_n (nx := 87) dX12_least_86 rfl rfl ?_
      refine J_iload_n (nx := 88) dX12_least_87 rfl rfl ?_
      refine J_iload_n (nx := 89) dX12_least_88 rfl rfl ?_
      refine J_iload (nx := 91) dX12_least_89 rfl rfl ?_
      refine JiV4 (R' := rm (5) 0 0) (nx := 94) dX12_least_91 rfl ml_X12_paying lk_X12_359 iv_X12_paying rfl rfl ⟨(Nat.le_of_ble_eq_true rfl), (Nat.le_of_ble_eq_true rfl)⟩ (Nat.le_of_ble_eq_true rfl) ⟨rfl, rfl⟩ (ct_m_paying g W gl rl m hM hL jd b k0 hk0 (nI ((l + h) / 2)) hjd) (fun x_91 g_91 p_91 => ?_)
      refine J_iload (nx := 96) dX12_least_94 rfl rfl ?_
      refine J_iand (nx := 97) dX12_least_96 rfl ?_
      refine J_if_ne (nx := 100) (tgt := 107) dX12_least_97 rfl (by decide) (fun c_97 => ?_) (fun c_97 => ?_)
      · refine J_iload (nx := 109) dX12_least_107 rfl rfl ?_
        refine J_iconst (nx := 110) (i := 1) (v := 1) (by decide) dX12_least_109 rfl ?_
        refine J_iadd (nx := 111) dX12_least_110 rfl ?_
        rw [show (nI (((l + h) / 2)) + (1 : Int32)) = nI ((((l + h) / 2) + 1)) from (nIa (Eq.refl (nI (((l + h) / 2)))) (nIc 1))]
        refine J_istore (nx := 113) dX12_least_111 rfl rfl (Nat.le_of_ble_eq_true rfl) ?_
        refine J_goto (nx := 69) dX12_least_113 (by decide) ?_
        refine J_kill (nx := 0) 7 ?_
        rw [show nI ((((l + h) / 2) + 1)) = nI ((l + h) / 2 + 1) from (Eq.refl (nI ((((l + h) / 2) + 1))))]
        refine ih ((l + h) / 2 + 1) h g_91 r (by omega) (by omega) (hfr.tr p_91.2.1) p_91.2.2 ?_
        rw [hr]
        exact (if_pos hlh).trans (if_pos (by rw [p_91.1] at c_97; exact c_97))
      · refine J_iload (nx := 102) dX12_least_100 rfl rfl ?_
        refine J_istore (nx := 104) dX12_least_102 rfl rfl (Nat.le_of_ble_eq_true rfl) ?_
        refine J_goto (nx := 113) dX12_least_104 (by decide) ?_
        refine J_goto (nx := 69) dX12_least_113 (by decide) ?_
        refine J_kill (nx := 0) 7 ?_
        refine ih l ((l + h) / 2) g_91 r (by omega) (by omega) (hfr.tr p_91.2.1) p_91.2.2 ?_
        rw [hr]
        exact (if_pos hlh).trans (if_neg (by rw [p_91.1] at c_97; exact fun z => z c_97))

set_option maxRecDepth 100000 in
set_option maxHeartbeats 4000000 in
theorem ct_m_least (g : GS) (gl : List TxL) (rl : Nat → List TxL) (hM : MOK (gA g 64) gl rl) (jd : Int32) (b : Int32) (k : Int32) (sts : Int32) : Ct mX12_least (rm 6 0 0) [.ref 63, .int jd, .int b, .int k, .int sts] (Wd g) (PQi g [(wMj (gA g 64) jd && wMs (gA g 64) k, 1), (fMb jd b, 2)] (fun x g2 => x = lsT (lsF (fun q => orI (wPy  (gA g 64) gl rl (gA g 64 6) (nN k) (nI q) jd b) 32 &&& sts) 10000 0 10000) ∧ QF g g2)) := by
  have hM2 := hM
  obtain ⟨⟨hG10, hG⟩, ⟨hT1, hT60, hT⟩, ⟨hR4, hR, hrl⟩, ⟨hN6, hN⟩, hgl, hgk⟩ := hM2
  refine Ct.of (by decide +kernel) (Nat.le_of_ble_eq_true rfl) ?_
  show J _ _ _ _ 0 [some (.ref 63), some (.int jd), some (.int b), some (.int k), some (.int sts), none, none, none] [] _ 0 0
  refine J_aload_n (nx := 1) dX12_least_0 rfl rfl ?_
  refine J_iconst (nx := 2) (i := 0) (v := 0) (by decide) dX12_least_1 rfl ?_
  refine Jp_63_0 (nx := 5) dX12_least_2 rfl fl_X12_3 ?_
  refine J_aload_n (nx := 6) dX12_least_5 rfl rfl ?_
  refine J_aload_n (nx := 7) dX12_least_6 rfl rfl ?_
  refine J_iload_n (nx := 8) dX12_least_7 rfl rfl ?_
  refine JcV1 (R' := rm (1) 0 0) (nx := 11) dX12_least_8 rfl ml_X12_noJudge lk_X12_335 iv_X12_noJudge rfl rfl ⟨(Nat.le_of_ble_eq_true rfl), (Nat.le_of_ble_eq_true rfl)⟩ (Nat.le_of_ble_eq_true rfl) ⟨rfl, rfl⟩ (ct_m_noJudgeW (sF g 63 0 0) (gA g 64) rfl _) ?_
  refine J_if_ne (nx := 14) (tgt := 22) dX12_least_11 rfl (by decide) (fun c_11 => ?_) (fun c_11 => ?_)
  · refine J_iconst (nx := 23) (i := 1) (v := 1) (by decide) dX12_least_22 rfl ?_
    refine J_goto (nx := 27) dX12_least_23 (by decide) ?_
    refine J_iconst (nx := 28) (i := 1) (v := 1) (by decide) dX12_least_27 rfl ?_
    refine J_thr (b := true) (nx := 31) dX12_least_28 rfl lk_X12_237 ⟨(Nat.le_of_ble_eq_true rfl), (Nat.le_of_ble_eq_true rfl)⟩ (Nat.le_of_ble_eq_true rfl) (fun b_28 => ?_) (fun b_28 => ?_)
    · refine J_if_ne (nx := 34) (tgt := 48) dX12_least_31 rfl (by decide) (fun c_31 => ?_) (fun c_31 => ?_)
      · refine J_iconst (nx := 49) (i := 0) (v := 0) (by decide) dX12_least_48 rfl ?_
        exact Jri dX12_least_49 rfl (Nat.zero_le _) (Nat.zero_le _) (RXi.of (Or.inl ⟨_, (by simp only [bI_is0, bI_is1, Bool.not_eq_true', Bool.not_eq_false'] at c_11; simp only [mxC, c_11, decide_true, decide_false, Bool.true_or, Bool.false_or, Bool.and_true, Bool.true_and, Bool.false_and, Bool.and_false, cond_true, cond_false]), rfl, rfl⟩))
      · exact absurd c_31 (by decide)
    · exact absurd b_28 (by decide)
  · refine J_aload_n (nx := 15) dX12_least_14 rfl rfl ?_
    refine J_iload_n (nx := 16) dX12_least_15 rfl rfl ?_
    refine JcV1 (R' := rm (1) 0 0) (nx := 19) dX12_least_16 rfl ml_X12_noSort lk_X12_317 iv_X12_noSort rfl rfl ⟨(Nat.le_of_ble_eq_true rfl), (Nat.le_of_ble_eq_true rfl)⟩ (Nat.le_of_ble_eq_true rfl) ⟨rfl, rfl⟩ (ct_m_noSortW (sF g 63 0 0) (gA g 64) rfl _) ?_
    refine J_if_eq (nx := 22) (tgt := 26) dX12_least_19 rfl (by decide) (fun c_19 => ?_) (fun c_19 => ?_)
    · refine J_iconst (nx := 27) (i := 0) (v := 0) (by decide) dX12_least_26 rfl ?_
      refine J_iconst (nx := 28) (i := 1) (v := 1) (by decide) dX12_least_27 rfl ?_
      refine J_thr (b := false) (nx := 31) dX12_least_28 rfl lk_X12_237 ⟨(Nat.le_of_ble_eq_true rfl), (Nat.le_of_ble_eq_true rfl)⟩ (Nat.le_of_ble_eq_true rfl) (fun b_28 => ?_) (fun b_28 => ?_)
      · exact absurd b_28 (by decide)
      · refine J_if_ne (nx := 34) (tgt := 48) dX12_least_31 rfl (by decide) (fun c_31 => ?_) (fun c_31 => ?_)
        · exact absurd (by decide) c_31
        · refine J_aload_n (nx := 35) dX12_least_34 rfl rfl ?_
          refine J_aload_n (nx := 36) dX12_least_35 rfl rfl ?_
          refine J_iload_n (nx := 37) dX12_least_36 rfl rfl ?_
          refine J_iload_n (nx := 38) dX12_least_37 rfl rfl ?_
          refine JcV2 (R' := rm (1) 0 0) (nx := 41) dX12_least_38 rfl ml_X12_badBar lk_X12_344 iv_X12_badBar rfl rfl ⟨(Nat.le_of_ble_eq_true rfl), (Nat.le_of_ble_eq_true rfl)⟩ (Nat.le_of_ble_eq_true rfl) ⟨rfl, rfl⟩ (ct_m_badBar _ _ _) ?_
          refine J_iconst (nx := 42) (i := 2) (v := 2) (by decide) dX12_least_41 rfl ?_
          refine J_thr (nx := 45) dX12_least_42 rfl lk_X12_237 ⟨(Nat.le_of_ble_eq_true rfl), (Nat.le_of_ble_eq_true rfl)⟩ (Nat.le_of_ble_eq_true rfl) (fun b_42 => ?_) (fun b_42 => ?_)
          · refine J_if_eq (nx := 48) (tgt := 50) dX12_least_45 rfl (by decide) (fun c_45 => ?_) (fun c_45 => ?_)
            · exact absurd c_45 (by decide)
            · refine J_iconst (nx := 49) (i := 0) (v := 0) (by decide) dX12_least_48 rfl ?_
              exact Jri dX12_least_49 rfl (Nat.zero_le _) (Nat.zero_le _) (RXi.of (Or.inl ⟨_, (by simp only [bI_is0, bI_is1, Bool.not_eq_true', Bool.not_eq_false'] at c_11 c_19 b_42; simp only [mxC, c_11, c_19, b_42, decide_true, decide_false, Bool.true_or, Bool.false_or, Bool.and_true, Bool.true_and, Bool.false_and, Bool.and_false, cond_true, cond_false]), rfl, rfl⟩))
          · refine J_if_eq (nx := 48) (tgt := 50) dX12_least_45 rfl (by decide) (fun c_45 => ?_) (fun c_45 => ?_)
            · have HC : mxC [(wMj (gA g 64) jd && wMs (gA g 64) k, 1), (fMb jd b, 2)] = none := (by simp only [bI_is0, bI_is1, Bool.not_eq_true', Bool.not_eq_false'] at c_11 c_19 b_42; simp only [mxC, c_11, c_19, b_42, decide_true, decide_false, Bool.true_or, Bool.false_or, Bool.and_true, Bool.true_and, Bool.false_and, Bool.and_false, cond_true, cond_false])
              have HG0 := HC
              obtain ⟨hk0, HG1⟩ := gd HG0
              simp only [Bool.and_eq_true] at hk0
              obtain ⟨hk0_0, hk0_1⟩ := hk0
              have hjjd := wMj_ok hM hk0_0
              obtain ⟨qk, hqk, rfl⟩ := wMs_nat hM hk0_1
              try rw [nN_nI (n := qk) (by omega)]
              obtain ⟨hk1, HG2⟩ := gd HG1
              have hk1_0 := hk1
              refine J_aload_n (nx := 51) dX12_least_50 rfl rfl ?_
              refine J_aload_n (nx := 52) dX12_least_51 rfl rfl ?_
              refine Jg_63_1 (nx := 55) dX12_least_52 rfl fl_X12_13 ?_
              refine J_bipush (nx := 57) (i := 6) (v := 6) (by decide) dX12_least_55 rfl ?_
              refine Ja_64 (nx := 58) dX12_least_57 rfl (vpE (n := 6) (nIc 6) (by omega) (by decide)) ?_
              rw [clE (n := 6) (nIc 6) (by omega)]
              rw [show gA (sF g 63 0 0) 64 6 = gA g 64 6 from rfl]
              refine JvV1 (R' := rm (4) 0 0) (nx := 61) dX12_least_58 rfl ml_X12_letsOn lk_X12_296 iv_X12_letsOn rfl rfl ⟨(Nat.le_of_ble_eq_true rfl), (Nat.le_of_ble_eq_true rfl)⟩ (Nat.le_of_ble_eq_true rfl) ⟨rfl, rfl⟩ (ct_m_letsOn (sF g 63 0 0) (gA g 64) (gA g 64 6) gl rfl hgl hgk) (fun g_58 p_58 => ?_)
              have hL : LSt (gA g 64) gl (gA g 64 6) g_58 := LOK.ls (show gA (sF g 63 0 0) 64 = gA g 64 from rfl) p_58
              have hfr1 : Fr fA aQ (sF g 63 0 0) g_58 := Fr.rf.LO p_58.1
              refine J_iconst (nx := 62) (i := 0) (v := 0) (by decide) dX12_least_61 rfl ?_
              refine J_istore (nx := 64) dX12_least_62 rfl rfl (Nat.le_of_ble_eq_true rfl) ?_
              refine J_sipush (nx := 67) (i := 10000) (v := 10000) (by decide) dX12_least_64 rfl ?_
              refine J_istore (nx := 69) dX12_least_67 rfl rfl (Nat.le_of_ble_eq_true rfl) ?_
              refine J.post (lp_m_least g_58 (gA g 64) gl rl (gA g 64 6) hM jd b sts hjjd qk (by omega) _ 10000 0 10000 g_58 _ (by omega) (by omega) Fr.rf hL rfl) (fun r es h => ?_)
              obtain ⟨x, g2, hr, he, hx, hf⟩ := h
              exact ⟨x, g2, hr, he, Or.inr ⟨HC, hx, QF.of (hfr1.tr hf)⟩⟩
            · exact absurd (by decide) c_45
    · refine J_iconst (nx := 23) (i := 1) (v := 1) (by decide) dX12_least_22 rfl ?_
      refine J_goto (nx := 27) dX12_least_23 (by decide) ?_
      refine J_iconst (nx := 28) (i := 1) (v := 1) (by decide) dX12_least_27 rfl ?_
      refine J_thr (b := true) (nx := 31) dX12_least_28 rfl lk_X12_237 ⟨(Nat.le_of_ble_eq_true rfl), (Nat.le_of_ble_eq_true rfl)⟩ (Nat.le_of_ble_eq_true rfl) (fun b_28 => ?_) (fun b_28 => ?_)
      · refine J_if_ne (nx := 34) (tgt := 48) dX12_least_31 rfl (by decide) (fun c_31 => ?_) (fun c_31 => ?_)
        · refine J_iconst (nx := 49) (i := 0) (v := 0) (by decide) dX12_least_48 rfl ?_
          exact Jri dX12_least_49 rfl (Nat.zero_le _) (Nat.zero_le _) (RXi.of (Or.inl ⟨_, (by simp only [bI_is0, bI_is1, Bool.not_eq_true', Bool.not_eq_false'] at c_11 c_19; simp only [mxC, c_11, c_19, decide_true, decide_false, Bool.true_or, Bool.false_or, Bool.and_true, Bool.true_and, Bool.false_and, Bool.and_false, cond_true, cond_false]), rfl, rfl⟩))
        · exact absurd c_31 (by decide)
      · exact absurd b_28 (by decide)

set_option maxRecDepth 100000 in
set_option maxHeartbeats 4000000 in
theorem ct_m_rate (g : GS) (gl : List TxL) (rl : Nat → List TxL) (hM : MOK (gA g 64) gl rl) (k : Int32) (s : Int32) (n : Int32) : Ct mX12_rate (rm 2 0 0) [.ref 63, .int k, .int s, .int n] (Wd g) (PQi g [(wMs (gA g 64) k && fIn s 0 31, 1), (fIn n 0 999, 2)] (fun x g2 => x = gA g 64 (1106 + 34 * nN k + (2 + nN s)) ∧ g2 = wU (sF g 63 0 0) (1106 + 34 * nN k + (2 + nN s)) n)) := by
  have hM2 := hM
  obtain ⟨⟨hG10, hG⟩, ⟨hT1, hT60, hT⟩, ⟨hR4, hR, hrl⟩, ⟨hN6, hN⟩, hgl, hgk⟩ := hM2
  refine Ct.of (by decide +kernel) (Nat.le_of_ble_eq_true rfl) ?_
  show J _ _ _ _ 0 [some (.ref 63), some (.int k), some (.int s), some (.int n), none] [] _ 0 0
  refine J_aload_n (nx := 1) dX12_rate_0 rfl rfl ?_
  refine J_iconst (nx := 2) (i := 0) (v := 0) (by decide) dX12_rate_1 rfl ?_
  refine Jp_63_0 (nx := 5) dX12_rate_2 rfl fl_X12_3 ?_
  refine J_aload_n (nx := 6) dX12_rate_5 rfl rfl ?_
  refine J_aload_n (nx := 7) dX12_rate_6 rfl rfl ?_
  refine J_iload_n (nx := 8) dX12_rate_7 rfl rfl ?_
  refine JcV1 (R' := rm (1) 0 0) (nx := 11) dX12_rate_8 rfl ml_X12_noSort lk_X12_317 iv_X12_noSort rfl rfl ⟨(Nat.le_of_ble_eq_true rfl), (Nat.le_of_ble_eq_true rfl)⟩ (Nat.le_of_ble_eq_true rfl) ⟨rfl, rfl⟩ (ct_m_noSortW (sF g 63 0 0) (gA g 64) rfl _) ?_
  refine J_if_ne (nx := 14) (tgt := 21) dX12_rate_11 rfl (by decide) (fun c_11 => ?_) (fun c_11 => ?_)
  · refine J_iconst (nx := 22) (i := 1) (v := 1) (by decide) dX12_rate_21 rfl ?_
    refine J_goto (nx := 26) dX12_rate_22 (by decide) ?_
    refine J_iconst (nx := 27) (i := 1) (v := 1) (by decide) dX12_rate_26 rfl ?_
    refine J_thr (b := true) (nx := 30) dX12_rate_27 rfl lk_X12_237 ⟨(Nat.le_of_ble_eq_true rfl), (Nat.le_of_ble_eq_true rfl)⟩ (Nat.le_of_ble_eq_true rfl) (fun b_27 => ?_) (fun b_27 => ?_)
    · refine J_if_ne (nx := 33) (tgt := 57) dX12_rate_30 rfl (by decide) (fun c_30 => ?_) (fun c_30 => ?_)
      · refine J_iconst (nx := 58) (i := 0) (v := 0) (by decide) dX12_rate_57 rfl ?_
        exact Jri dX12_rate_58 rfl (Nat.zero_le _) (Nat.zero_le _) (RXi.of (Or.inl ⟨_, (by simp only [bI_is0, bI_is1, Bool.not_eq_true', Bool.not_eq_false'] at c_11; simp only [mxC, c_11, decide_true, decide_false, Bool.true_or, Bool.false_or, Bool.and_true, Bool.true_and, Bool.false_and, Bool.and_false, cond_true, cond_false]), rfl, rfl⟩))
      · exact absurd c_30 (by decide)
    · exact absurd b_27 (by decide)
  · refine J_iload_n (nx := 15) dX12_rate_14 rfl rfl ?_
    refine JcS1 (R' := rm (1) 0 0) (nx := 18) dX12_rate_15 rfl ml_X12_noState lk_X12_245 st_X12_noState ⟨(Nat.le_of_ble_eq_true rfl), (Nat.le_of_ble_eq_true rfl)⟩ (Nat.le_of_ble_eq_true rfl) ⟨rfl, rfl⟩ (ct_m_noState _ _) ?_
    refine J_if_eq (nx := 21) (tgt := 25) dX12_rate_18 rfl (by decide) (fun c_18 => ?_) (fun c_18 => ?_)
    · refine J_iconst (nx := 26) (i := 0) (v := 0) (by decide) dX12_rate_25 rfl ?_
      refine J_iconst (nx := 27) (i := 1) (v := 1) (by decide) dX12_rate_26 rfl ?_
      refine J_thr (b := false) (nx := 30) dX12_rate_27 rfl lk_X12_237 ⟨(Nat.le_of_ble_eq_true rfl), (Nat.le_of_ble_eq_true rfl)⟩ (Nat.le_of_ble_eq_true rfl) (fun b_27 => ?_) (fun b_27 => ?_)
      · exact absurd b_27 (by decide)
      · refine J_if_ne (nx := 33) (tgt := 57) dX12_rate_30 rfl (by decide) (fun c_30 => ?_) (fun c_30 => ?_)
        · exact absurd (by decide) c_30
        · refine J_aload_n (nx := 34) dX12_rate_33 rfl rfl ?_
          refine J_iload_n (nx := 35) dX12_rate_34 rfl rfl ?_
          refine J_iconst (nx := 36) (i := 0) (v := 0) (by decide) dX12_rate_35 rfl ?_
          refine J_sipush (nx := 39) (i := 999) (v := 999) (by decide) dX12_rate_36 rfl ?_
          refine JcS3 (R' := rm (0) 0 0) (nx := 42) dX12_rate_39 rfl ml_X12_in lk_X12_77 st_X12_in ⟨(Nat.le_of_ble_eq_true rfl), (Nat.le_of_ble_eq_true rfl)⟩ (Nat.le_of_ble_eq_true rfl) ⟨rfl, rfl⟩ (ct_m_in _ _ _ _) ?_
          refine J_if_ne (nx := 45) (tgt := 49) dX12_rate_42 rfl (by decide) (fun c_42 => ?_) (fun c_42 => ?_)
          · refine J_iconst (nx := 50) (i := 0) (v := 0) (by decide) dX12_rate_49 rfl ?_
            refine J_iconst (nx := 51) (i := 2) (v := 2) (by decide) dX12_rate_50 rfl ?_
            refine J_thr (b := false) (nx := 54) dX12_rate_51 rfl lk_X12_237 ⟨(Nat.le_of_ble_eq_true rfl), (Nat.le_of_ble_eq_true rfl)⟩ (Nat.le_of_ble_eq_true rfl) (fun b_51 => ?_) (fun b_51 => ?_)
            · exact absurd b_51 (by decide)
            · refine J_if_eq (nx := 57) (tgt := 59) dX12_rate_54 rfl (by decide) (fun c_54 => ?_) (fun c_54 => ?_)
              · have HC : mxC [(wMs (gA g 64) k && fIn s 0 31, 1), (fIn n 0 999, 2)] = none := (by simp only [bI_is0, bI_is1, Bool.not_eq_true', Bool.not_eq_false'] at c_11 c_18 c_42; simp only [mxC, c_11, c_18, c_42, decide_true, decide_false, Bool.true_or, Bool.false_or, Bool.and_true, Bool.true_and, Bool.false_and, Bool.and_false, cond_true, cond_false])
                have HG0 := HC
                obtain ⟨hk0, HG1⟩ := gd HG0
                simp only [Bool.and_eq_true] at hk0
                obtain ⟨hk0_0, hk0_1⟩ := hk0
                obtain ⟨qk, hqk, rfl⟩ := wMs_nat hM hk0_0
                try rw [nN_nI (n := qk) (by omega)]
                obtain ⟨qs, hqs, rfl⟩ := fIn_nat (n := 31) (by omega) hk0_1
                try rw [nN_nI (n := qs) (by omega)]
                obtain ⟨hk1, HG2⟩ := gd HG1
                have hk1_0 := hk1
                refine J_aload_n (nx := 60) dX12_rate_59 rfl rfl ?_
                refine Jg_63_1 (nx := 63) dX12_rate_60 rfl fl_X12_13 ?_
                refine J_iload_n (nx := 64) dX12_rate_63 rfl rfl ?_
                refine J_iconst (nx := 65) (i := 2) (v := 2) (by decide) dX12_rate_64 rfl ?_
                refine J_iload_n (nx := 66) dX12_rate_65 rfl rfl ?_
                refine J_iadd (nx := 67) dX12_rate_66 rfl ?_
                rw [show ((2 : Int32) + nI (qs)) = nI ((2 + qs)) from (nIa (nIc 2) (Eq.refl (nI (qs))))]
                refine JcS2 (R' := rm (0) 0 0) (nx := 70) dX12_rate_67 rfl ml_X12_sortAt lk_X12_282 st_X12_sortAt ⟨(Nat.le_of_ble_eq_true rfl), (Nat.le_of_ble_eq_true rfl)⟩ (Nat.le_of_ble_eq_true rfl) ⟨rfl, rfl⟩ (ct_m_sortAt _ (qk) ((2 + qs))) ?_
                refine Ja_64 (nx := 71) dX12_rate_70 rfl (vpE (n := (1106 + 34 * qk + (2 + qs))) (Eq.refl (nI ((1106 + 34 * qk + (2 + qs))))) (by omega) (by decide)) ?_
                rw [clE (n := (1106 + 34 * qk + (2 + qs))) (Eq.refl (nI ((1106 + 34 * qk + (2 + qs))))) (by omega)]
                refine J_istore (nx := 73) dX12_rate_71 rfl rfl (Nat.le_of_ble_eq_true rfl) ?_
                refine J_aload_n (nx := 74) dX12_rate_73 rfl rfl ?_
                refine Jg_63_1 (nx := 77) dX12_rate_74 rfl fl_X12_13 ?_
                refine J_iload_n (nx := 78) dX12_rate_77 rfl rfl ?_
                refine J_iconst (nx := 79) (i := 2) (v := 2) (by decide) dX12_rate_78 rfl ?_
                refine J_iload_n (nx := 80) dX12_rate_79 rfl rfl ?_
                refine J_iadd (nx := 81) dX12_rate_80 rfl ?_
                rw [show ((2 : Int32) + nI (qs)) = nI ((2 + qs)) from (nIa (nIc 2) (Eq.refl (nI (qs))))]
                refine JcS2 (R' := rm (0) 0 0) (nx := 84) dX12_rate_81 rfl ml_X12_sortAt lk_X12_282 st_X12_sortAt ⟨(Nat.le_of_ble_eq_true rfl), (Nat.le_of_ble_eq_true rfl)⟩ (Nat.le_of_ble_eq_true rfl) ⟨rfl, rfl⟩ (ct_m_sortAt _ (qk) ((2 + qs))) ?_
                refine J_iload_n (nx := 85) dX12_rate_84 rfl rfl ?_
                refine Jt_64 (nx := 86) dX12_rate_85 rfl (vpE (n := (1106 + 34 * qk + (2 + qs))) (Eq.refl (nI ((1106 + 34 * qk + (2 + qs))))) (by omega) (by decide)) ?_
                rw [clE (n := (1106 + 34 * qk + (2 + qs))) (Eq.refl (nI ((1106 + 34 * qk + (2 + qs))))) (by omega)]
                refine J_iload (nx := 88) dX12_rate_86 rfl rfl ?_
                exact Jri dX12_rate_88 rfl (Nat.zero_le _) (Nat.zero_le _) (RXi.of (Or.inr ⟨HC, rfl, rfl⟩))
              · exact absurd (by decide) c_54
          · refine J_iconst (nx := 46) (i := 1) (v := 1) (by decide) dX12_rate_45 rfl ?_
            refine J_goto (nx := 50) dX12_rate_46 (by decide) ?_
            refine J_iconst (nx := 51) (i := 2) (v := 2) (by decide) dX12_rate_50 rfl ?_
            refine J_thr (b := true) (nx := 54) dX12_rate_51 rfl lk_X12_237 ⟨(Nat.le_of_ble_eq_true rfl), (Nat.le_of_ble_eq_true rfl)⟩ (Nat.le_of_ble_eq_true rfl) (fun b_51 => ?_) (fun b_51 => ?_)
            · refine J_if_eq (nx := 57) (tgt := 59) dX12_rate_54 rfl (by decide) (fun c_54 => ?_) (fun c_54 => ?_)
              · exact absurd c_54 (by decide)
              · refine J_iconst (nx := 58) (i := 0) (v := 0) (by decide) dX12_rate_57 rfl ?_
                exact Jri dX12_rate_58 rfl (Nat.zero_le _) (Nat.zero_le _) (RXi.of (Or.inl ⟨_, (by simp only [bI_is0, bI_is1, Bool.not_eq_true', Bool.not_eq_false'] at c_11 c_18 c_42; simp only [mxC, c_11, c_18, c_42, decide_true, decide_false, Bool.true_or, Bool.false_or, Bool.and_true, Bool.true_and, Bool.false_and, Bool.and_false, cond_true, cond_false]), rfl, rfl⟩))
            · exact absurd b_51 (by decide)
    · refine J_iconst (nx := 22) (i := 1) (v := 1) (by decide) dX12_rate_21 rfl ?_
      refine J_goto (nx := 26) dX12_rate_22 (by decide) ?_
      refine J_iconst (nx := 27) (i := 1) (v := 1) (by decide) dX12_rate_26 rfl ?_
      refine J_thr (b := true) (nx := 30) dX12_rate_27 rfl lk_X12_237 ⟨(Nat.le_of_ble_eq_true rfl), (Nat.le_of_ble_eq_true rfl)⟩ (Nat.le_of_ble_eq_true rfl) (fun b_27 => ?_) (fun b_27 => ?_)
      · refine J_if_ne (nx := 33) (tgt := 57) dX12_rate_30 rfl (by decide) (fun c_30 => ?_) (fun c_30 => ?_)
        · refine J_iconst (nx := 58) (i := 0) (v := 0) (by decide) dX12_rate_57 rfl ?_
          exact Jri dX12_rate_58 rfl (Nat.zero_le _) (Nat.zero_le _) (RXi.of (Or.inl ⟨_, (by simp only [bI_is0, bI_is1, Bool.not_eq_true', Bool.not_eq_false'] at c_11 c_18; simp only [mxC, c_11, c_18, decide_true, decide_false, Bool.true_or, Bool.false_or, Bool.and_true, Bool.true_and, Bool.false_and, Bool.and_false, cond_true, cond_false]), rfl, rfl⟩))
        · exact absurd c_30 (by decide)
      · exact absurd b_27 (by decide)

set_option maxRecDepth 100000 in
set_option maxHeartbeats 4000000 in
theorem ct_m_often (g : GS) (gl : List TxL) (rl : Nat → List TxL) (hM : MOK (gA g 64) gl rl) (k : Int32) (s : Int32) : Ct mX12_often (rm 2 0 0) [.ref 63, .int k, .int s] (Wd g) (PQi g [(wMs (gA g 64) k && fIn s 0 31, 1)] (fun x g2 => x = gA g 64 (1106 + 34 * nN k + (2 + nN s)) ∧ g2 = (sF g 63 0 0))) := by
  have hM2 := hM
  obtain ⟨⟨hG10, hG⟩, ⟨hT1, hT60, hT⟩, ⟨hR4, hR, hrl⟩, ⟨hN6, hN⟩, hgl, hgk⟩ := hM2
  refine Ct.of (by decide +kernel) (Nat.le_of_ble_eq_true rfl) ?_
  show J _ _ _ _ 0 [some (.ref 63), some (.int k), some (.int s)] [] _ 0 0
  refine J_aload_n (nx := 1) dX12_often_0 rfl rfl ?_
  refine J_iconst (nx := 2) (i := 0) (v := 0) (by decide) dX12_often_1 rfl ?_
  refine Jp_63_0 (nx := 5) dX12_often_2 rfl fl_X12_3 ?_
  refine J_aload_n (nx := 6) dX12_often_5 rfl rfl ?_
  refine J_aload_n (nx := 7) dX12_often_6 rfl rfl ?_
  refine J_iload_n (nx := 8) dX12_often_7 rfl rfl ?_
  refine JcV1 (R' := rm (1) 0 0) (nx := 11) dX12_often_8 rfl ml_X12_noSort lk_X12_317 iv_X12_noSort rfl rfl ⟨(Nat.le_of_ble_eq_true rfl), (Nat.le_of_ble_eq_true rfl)⟩ (Nat.le_of_ble_eq_true rfl) ⟨rfl, rfl⟩ (ct_m_noSortW (sF g 63 0 0) (gA g 64) rfl _) ?_
  refine J_if_ne (nx := 14) (tgt := 21) dX12_often_11 rfl (by decide) (fun c_11 => ?_) (fun c_11 => ?_)
  · refine J_iconst (nx := 22) (i := 1) (v := 1) (by decide) dX12_often_21 rfl ?_
    refine J_goto (nx := 26) dX12_often_22 (by decide) ?_
    refine J_iconst (nx := 27) (i := 1) (v := 1) (by decide) dX12_often_26 rfl ?_
    refine J_thr (b := true) (nx := 30) dX12_often_27 rfl lk_X12_237 ⟨(Nat.le_of_ble_eq_true rfl), (Nat.le_of_ble_eq_true rfl)⟩ (Nat.le_of_ble_eq_true rfl) (fun b_27 => ?_) (fun b_27 => ?_)
    · refine J_if_eq (nx := 33) (tgt := 37) dX12_often_30 rfl (by decide) (fun c_30 => ?_) (fun c_30 => ?_)
      · exact absurd c_30 (by decide)
      · refine J_iconst (nx := 34) (i := 0) (v := 0) (by decide) dX12_often_33 rfl ?_
        refine J_goto (nx := 49) dX12_often_34 (by decide) ?_
        exact Jri dX12_often_49 rfl (Nat.zero_le _) (Nat.zero_le _) (by first | exact RXi.of (Or.inl ⟨_, (by simp only [bI_is0, bI_is1, Bool.not_eq_true', Bool.not_eq_false'] at c_11; simp only [mxC, c_11, decide_true, decide_false, Bool.true_or, Bool.false_or, Bool.and_true, Bool.true_and, Bool.false_and, Bool.and_false, cond_true, cond_false]), rfl, rfl⟩) | exact RXi.of (Or.inr ⟨HC, rfl, rfl⟩))
    · exact absurd b_27 (by decide)
  · refine J_iload_n (nx := 15) dX12_often_14 rfl rfl ?_
    refine JcS1 (R' := rm (1) 0 0) (nx := 18) dX12_often_15 rfl ml_X12_noState lk_X12_245 st_X12_noState ⟨(Nat.le_of_ble_eq_true rfl), (Nat.le_of_ble_eq_true rfl)⟩ (Nat.le_of_ble_eq_true rfl) ⟨rfl, rfl⟩ (ct_m_noState _ _) ?_
    refine J_if_eq (nx := 21) (tgt := 25) dX12_often_18 rfl (by decide) (fun c_18 => ?_) (fun c_18 => ?_)
    · refine J_iconst (nx := 26) (i := 0) (v := 0) (by decide) dX12_often_25 rfl ?_
      refine J_iconst (nx := 27) (i := 1) (v := 1) (by decide) dX12_often_26 rfl ?_
      refine J_thr (b := false) (nx := 30) dX12_often_27 rfl lk_X12_237 ⟨(Nat.le_of_ble_eq_true rfl), (Nat.le_of_ble_eq_true rfl)⟩ (Nat.le_of_ble_eq_true rfl) (fun b_27 => ?_) (fun b_27 => ?_)
      · exact absurd b_27 (by decide)
      · refine J_if_eq (nx := 33) (tgt := 37) dX12_often_30 rfl (by decide) (fun c_30 => ?_) (fun c_30 => ?_)
        · have HC : mxC [(wMs (gA g 64) k && fIn s 0 31, 1)] = none := (by simp only [bI_is0, bI_is1, Bool.not_eq_true', Bool.not_eq_false'] at c_11 c_18; simp only [mxC, c_11, c_18, decide_true, decide_false, Bool.true_or, Bool.false_or, Bool.and_true, Bool.true_and, Bool.false_and, Bool.and_false, cond_true, cond_false])
          have HG0 := HC
          obtain ⟨hk0, HG1⟩ := gd HG0
          simp only [Bool.and_eq_true] at hk0
          obtain ⟨hk0_0, hk0_1⟩ := hk0
          obtain ⟨qk, hqk, rfl⟩ := wMs_nat hM hk0_0
          try rw [nN_nI (n := qk) (by omega)]
          obtain ⟨qs, hqs, rfl⟩ := fIn_nat (n := 31) (by omega) hk0_1
          try rw [nN_nI (n := qs) (by omega)]
          refine J_aload_n (nx := 38) dX12_often_37 rfl rfl ?_
          refine Jg_63_1 (nx := 41) dX12_often_38 rfl fl_X12_13 ?_
          refine J_iload_n (nx := 42) dX12_often_41 rfl rfl ?_
          refine J_iconst (nx := 43) (i := 2) (v := 2) (by decide) dX12_often_42 rfl ?_
          refine J_iload_n (nx := 44) dX12_often_43 rfl rfl ?_
          refine J_iadd (nx := 45) dX12_often_44 rfl ?_
          rw [show ((2 : Int32) + nI (qs)) = nI ((2 + qs)) from (nIa (nIc 2) (Eq.refl (nI (qs))))]
          refine JcS2 (R' := rm (0) 0 0) (nx := 48) dX12_often_45 rfl ml_X12_sortAt lk_X12_282 st_X12_sortAt ⟨(Nat.le_of_ble_eq_true rfl), (Nat.le_of_ble_eq_true rfl)⟩ (Nat.le_of_ble_eq_true rfl) ⟨rfl, rfl⟩ (ct_m_sortAt _ (qk) ((2 + qs))) ?_
          refine Ja_64 (nx := 49) dX12_often_48 rfl (vpE (n := (1106 + 34 * qk + (2 + qs))) (Eq.refl (nI ((1106 + 34 * qk + (2 + qs))))) (by omega) (by decide)) ?_
          rw [clE (n := (1106 + 34 * qk + (2 + qs))) (Eq.refl (nI ((1106 + 34 * qk + (2 + qs))))) (by omega)]
          exact Jri dX12_often_49 rfl (Nat.zero_le _) (Nat.zero_le _) (by first | exact RXi.of (Or.inl ⟨_, (by simp only [bI_is0, bI_is1, Bool.not_eq_true', Bool.not_eq_false'] at c_11 c_18; simp only [mxC, c_11, c_18, decide_true, decide_false, Bool.true_or, Bool.false_or, Bool.and_true, Bool.true_and, Bool.false_and, Bool.and_false, cond_true, cond_false]), rfl, rfl⟩) | exact RXi.of (Or.inr ⟨HC, rfl, rfl⟩))
        · exact absurd (by decide) c_30
    · refine J_iconst (nx := 22) (i := 1) (v := 1) (by decide) dX12_often_21 rfl ?_
      refine J_goto (nx := 26) dX12_often_22 (by decide) ?_
      refine J_iconst (nx := 27) (i := 1) (v := 1) (by decide) dX12_often_26 rfl ?_
      refine J_thr (b := true) (nx := 30) dX12_often_27 rfl lk_X12_237 ⟨(Nat.le_of_ble_eq_true rfl), (Nat.le_of_ble_eq_true rfl)⟩ (Nat.le_of_ble_eq_true rfl) (fun b_27 => ?_) (fun b_27 => ?_)
      · refine J_if_eq (nx := 33) (tgt := 37) dX12_often_30 rfl (by decide) (fun c_30 => ?_) (fun c_30 => ?_)
        · exact absurd c_30 (by decide)
        · refine J_iconst (nx := 34) (i := 0) (v := 0) (by decide) dX12_often_33 rfl ?_
          refine J_goto (nx := 49) dX12_often_34 (by decide) ?_
          exact Jri dX12_often_49 rfl (Nat.zero_le _) (Nat.zero_le _) (by first | exact RXi.of (Or.inl ⟨_, (by simp only [bI_is0, bI_is1, Bool.not_eq_true', Bool.not_eq_false'] at c_11 c_18; simp only [mxC, c_11, c_18, decide_true, decide_false, Bool.true_or, Bool.false_or, Bool.and_true, Bool.true_and, Bool.false_and, Bool.and_false, cond_true, cond_false]), rfl, rfl⟩) | exact RXi.of (Or.inr ⟨HC, rfl, rfl⟩))
      · exact absurd b_27 (by decide)

