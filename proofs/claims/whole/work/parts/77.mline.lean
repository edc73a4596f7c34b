
/-! the Model: a line -/
def LnOK (rl : Bool) (g : GS) (i : Nat) (hd : Hd) : Prop :=
  (bif rl then gA g 64 (lC i) = hd.1 ∧ gA g 64 (lC i + 2) = -1 else (∃ v, v ≤ 9999 ∧ gA g 64 (lC i + 1) = nI v ∧ ((gA g 64 (lC i) = 0 ∧ hd.1 = nI v) ∨ (gA g 64 (lC i) = 1 ∧ hd.1 = -(nI v)))) ∧ gA g 64 (lC i + 2) = facM hd.2.1 (-1)) ∧ gA g 64 (lC i + 3) = nI hd.2.2.1 ∧ gA g 64 (lC i + 4) = nI hd.2.2.2
theorem LnOK.cg {rl : Bool} {g g2 : GS} {i : Nat} {hd : Hd} (h : LnOK rl g i hd) (e : ∀ j, lC i ≤ j → j ≤ lC i + 4 → gA g2 64 j = gA g 64 j) : LnOK rl g2 i hd := by
  unfold LnOK at h ⊢
  rw [e (lC i) (by omega) (by omega), e (lC i + 1) (by omega) (by omega), e (lC i + 2) (by omega) (by omega), e (lC i + 3) (by omega) (by omega), e (lC i + 4) (by omega) (by omega)]
  exact h
def LSo (rl : Bool) (g : GS) (hs : List Hd) : Prop := ∀ i, i < hs.length → LnOK rl g i (hdAt hs i)
def IT (n : Nat) (C : Nat → Int32) (rl : Bool) (g : GS) (ln b : Nat) (s : HC) : Prop := MLq n C b g ∧ SQ s.2 g ∧ gF g 63 13 = kdI rl ∧ s.2.length ≤ b ∧ LSo rl g s.1 ∧ s.1.length = ln
def TFr (g g2 : GS) : Prop := Fr fRd a64o g g2 ∧ ∀ i, i < lC 0 → gA g2 64 i = gA g 64 i
theorem RFq.T {ln : Nat} {g g2 : GS} (h : RFq ln g g2) : TFr g g2 := ⟨h.1, fun i hi => h.2 i (by unfold lC at *; omega)⟩
theorem TFr.tr {g g1 g2 : GS} (h : TFr g g1) (h2 : TFr g1 g2) : TFr g g2 := ⟨h.1.tr h2.1, fun i hi => (h2.2 i hi).trans (h.2 i hi)⟩
theorem LSo.q {rl : Bool} {g g2 : GS} {hs : List Hd} (h : LSo rl g hs) (hf : RFq hs.length g g2) : LSo rl g2 hs := fun i hi => (h i hi).cg (fun j h1 h2 => hf.2 j (by unfold lC at *; omega))
theorem LSo.ap {rl : Bool} {g : GS} {hs : List Hd} {hd : Hd} (h : LSo rl g hs) (h2 : LnOK rl g hs.length hd) : LSo rl g (hs ++ [hd]) := fun i hi => by
  rw [List.length_append, List.length_singleton] at hi
  by_cases e : i = hs.length
  · rw [e, show hdAt (hs ++ [hd]) hs.length = hd by simp [hdAt, List.getD]]; exact h2
  · rw [show hdAt (hs ++ [hd]) i = hdAt hs i by simp [hdAt, List.getD, List.getElem?_append_left (show i < hs.length by omega)]]
    exact h i (by omega)
def mlnR (p : Nat → List Int32 → LR) (ln b : Nat) (s : HC) : Nat ⊕ (Nat × HC) := if ln = 12 then .inl b else hdLine p b s
def PLn (n : Nat) (C : Nat → Int32) (rl : Bool) (ln : Nat) (g : GS) (r : Nat ⊕ (Nat × HC)) (x : Int32) (g2 : GS) : Prop := TFr g g2 ∧ (match r with
  | .inl e => x = 0 ∧ gF g2 63 8 = nI e
  | .inr q => x = 1 ∧ IT n C rl g2 (ln + 1) q.1 q.2)
theorem mlnR_e {p : Nat → List Int32 → LR} {ln b e : Nat} {s : HC} (h : ¬ ln = 12) (h2 : p b s.2 = .inl e) : mlnR p ln b s = .inl e := by
  unfold mlnR hdLine; rw [if_neg h, h2]
theorem mlnR_y {p : Nat → List Int32 → LR} {ln b : Nat} {s : HC} {q : Nat × Hd × List Int32} (h : ¬ ln = 12) (h2 : p b s.2 = .inr q) : mlnR p ln b s = .inr (q.1, s.1 ++ [q.2.1], q.2.2) := by
  unfold mlnR hdLine; rw [if_neg h, h2]
theorem SQ.wu {cs : List Int32} {g : GS} {i : Nat} {v : Int32} (h : SQ cs g) (hi : i < stI 0) : SQ cs (wU g i v) := h.U hi
set_option maxRecDepth 100000 in
set_option maxHeartbeats 4000000 in
theorem ct_m_readLine2 (g : GS) (n : Nat) (C : Nat → Int32) (ln b : Nat) (s : HC) (hln : ln ≤ 12) (hI : IT n C true g ln b s) : Ct mX12_readLine (rm 41 0 0) [.ref 63, .int (nI (ln))] (Wd g) (RXi (PLn n C true ln g (mlnR (pRule (obT n C)) ln b s))) := by
  refine Ct.of (by decide +kernel) (Nat.le_of_ble_eq_true rfl) ?_
  show J _ _ _ _ 0 [some (.ref 63), some (.int (nI (ln))), none, none] [] _ 0 0
  have hbn := hI.1.le
  have hn4 := hbn.2.1
  have hlel := leN_le (C := C) hbn.1
  refine J_aload_n (nx := 1) dX12_readLine_0 rfl rfl ?_
  refine JvV0 (R' := rm (2) 0 0) (nx := 4) dX12_readLine_1 rfl ml_X12_letters lk_X12_110 iv_X12_letters rfl rfl ⟨(Nat.le_of_ble_eq_true rfl), (Nat.le_of_ble_eq_true rfl)⟩ (Nat.le_of_ble_eq_true rfl) ⟨rfl, rfl⟩ (ct_m_lettersQ g n C b hI.1) (fun g_1 p_1 => ?_)
  refine J_iload_n (nx := 5) dX12_readLine_4 rfl rfl ?_
  refine J_bipush (nx := 7) (i := 12) (v := 12) (by decide) dX12_readLine_5 rfl ?_
  refine J_icmp_ne (nx := 10) (tgt := 12) dX12_readLine_7 rfl (by decide) (fun c_7 => ?_) (fun c_7 => ?_)
  · have hln12 : ¬ ln = 12 := fun z => c_7 (by rw [z]; rfl)
    refine J_iconst (nx := 13) (i := 5) (v := 5) (by decide) dX12_readLine_12 rfl ?_
    refine J_iload_n (nx := 14) dX12_readLine_13 rfl rfl ?_
    refine JcS2 (R' := rm (1) 0 0) (nx := 17) dX12_readLine_14 rfl ml_X12_lineAt lk_X12_218 st_X12_lineAt ⟨(Nat.le_of_ble_eq_true rfl), (Nat.le_of_ble_eq_true rfl)⟩ (Nat.le_of_ble_eq_true rfl) ⟨rfl, rfl⟩ (ct_m_lineAt _ (5) (ln)) ?_
    refine J_istore_n (nx := 18) dX12_readLine_17 rfl rfl (Nat.le_of_ble_eq_true rfl) ?_
    refine J_aload_n (nx := 19) dX12_readLine_18 rfl rfl ?_
    refine Jg_63_1 (nx := 22) dX12_readLine_19 rfl fl_X12_13 ?_
    refine J_iload_n (nx := 23) dX12_readLine_22 rfl rfl ?_
    refine J_iconst (nx := 24) (i := 2) (v := 2) (by decide) dX12_readLine_23 rfl ?_
    refine J_iadd (nx := 25) dX12_readLine_24 rfl ?_
    refine J_iconst (nx := 26) (i := -1) (v := -1) (by decide) dX12_readLine_25 rfl ?_
    refine Jt_64 (nx := 27) dX12_readLine_26 rfl (vpE (n := ((1310 + 861 * 5 + 1 + 5 * ln) + 2)) (nIa (Eq.refl (nI ((1310 + 861 * 5 + 1 + 5 * ln)))) (nIc 2)) (by omega) (by decide)) ?_
    rw [clE (n := ((1310 + 861 * 5 + 1 + 5 * ln) + 2)) (nIa (Eq.refl (nI ((1310 + 861 * 5 + 1 + 5 * ln)))) (nIc 2)) (by omega)]
    refine J.gen (fun g_26 hg_26 => ?_)
    refine J_aload_n (nx := 28) dX12_readLine_27 rfl rfl ?_
    refine Jg_63_1 (nx := 31) dX12_readLine_28 rfl fl_X12_13 ?_
    refine J_iload_n (nx := 32) dX12_readLine_31 rfl rfl ?_
    refine J_iconst (nx := 33) (i := 3) (v := 3) (by decide) dX12_readLine_32 rfl ?_
    refine J_iadd (nx := 34) dX12_readLine_33 rfl ?_
    refine J_aload_n (nx := 35) dX12_readLine_34 rfl rfl ?_
    refine Jg_63_12 (nx := 38) dX12_readLine_35 rfl fl_X12_121 ?_
    refine Jt_64 (nx := 39) dX12_readLine_38 rfl (vpE (n := ((1310 + 861 * 5 + 1 + 5 * ln) + 3)) (nIa (Eq.refl (nI ((1310 + 861 * 5 + 1 + 5 * ln)))) (nIc 3)) (by omega) (by decide)) ?_
    rw [clE (n := ((1310 + 861 * 5 + 1 + 5 * ln) + 3)) (nIa (Eq.refl (nI ((1310 + 861 * 5 + 1 + 5 * ln)))) (nIc 3)) (by omega)]
    refine J.gen (fun g_38 hg_38 => ?_)
    refine J_aload_n (nx := 40) dX12_readLine_39 rfl rfl ?_
    refine J_iconst (nx := 41) (i := 0) (v := 0) (by decide) dX12_readLine_40 rfl ?_
    refine Jp_63_9 (nx := 44) dX12_readLine_41 rfl fl_X12_159 ?_
    refine J.gen (fun g_41 hg_41 => ?_)
    have hg : g_41 = sF (wU (wU g_1 (1310 + 861 * 5 + 1 + 5 * ln + 2) (-1)) (1310 + 861 * 5 + 1 + 5 * ln + 3) (gF g_1 63 12)) 63 9 0 := by rw [hg_41, hg_38, hg_26]; rfl
    have hq1 := hI.2.1.B p_1.1
    have h41 : MPt n C (leN n C b) g_41 := by rw [hg]; exact p_1.2.1
    have hb41 : gF g_41 63 8 = nI b := by rw [hg]; exact p_1.2.2
    have hq41 : SQ s.2 g_41 := by rw [hg]; exact ((hq1.U (by unfold stI; omega)).U (by unfold stI; omega)).cg rfl rfl
    have hd41 : gF g_41 63 9 = 0 := by rw [hg]; rfl
    have hkd41 : gF g_41 63 13 = kdI true := by rw [hg]; exact (p_1.1.1 63 13 rfl).trans hI.2.2.1
    have hf41 : RFq ln g g_41 := by rw [hg]; exact ((((RFq.rf (ln := ln)).B p_1.1).U (by unfold lC; omega)).U (by unfold lC; omega)).tr ⟨Fr.rf.sF rfl, fun _ _ => rfl⟩
    have hc2 : gA g_41 64 (lC ln + 2) = -1 := by rw [hg]; exact (wU_ne (by unfold lC; omega)).trans wU_at
    have hc3 : gA g_41 64 (lC ln + 3) = nI s.2.length := by rw [hg]; exact wU_at.trans hq1.1
    refine J_aload_n (nx := 45) dX12_readLine_44 rfl rfl ?_
    refine Jg_63_13 (nx := 48) dX12_readLine_45 rfl fl_X12_130 ?_
    rw [show gF g_41 63 13 = 2 from hkd41]
    refine J_if_ne (nx := 51) (tgt := 58) dX12_readLine_48 rfl (by decide) (fun c_48 => ?_) (fun c_48 => ?_)
    · refine J_aload_n (nx := 59) dX12_readLine_58 rfl rfl ?_
      refine Jg_63_13 (nx := 62) dX12_readLine_59 rfl fl_X12_130 ?_
      rw [show gF g_41 63 13 = 2 from hkd41]
      refine J_iconst (nx := 63) (i := 1) (v := 1) (by decide) dX12_readLine_62 rfl ?_
      refine J_icmp_ne (nx := 66) (tgt := 74) dX12_readLine_63 rfl (by decide) (fun c_63 => ?_) (fun c_63 => ?_)
      · refine J_aload_n (nx := 75) dX12_readLine_74 rfl rfl ?_
        refine J_iload_n (nx := 76) dX12_readLine_75 rfl rfl ?_
        refine JiV1 (R' := rm (40) 0 0) (nx := 79) dX12_readLine_76 rfl ml_X12_readRuleLine lk_X12_228 iv_X12_readRuleLine rfl rfl ⟨(Nat.le_of_ble_eq_true rfl), (Nat.le_of_ble_eq_true rfl)⟩ (Nat.le_of_ble_eq_true rfl) ⟨rfl, rfl⟩ (ct_m_ruleLine g_41 n C b h41 hbn.1 hb41 s.2 hq41 hd41 hI.2.2.2.1 ln (by omega) hkd41) (fun x_76 g_76 p_76 => ?_)
        have hx01 : x_76 = 0 ∨ x_76 = 1 := by
          obtain ⟨-, h2⟩ := p_76
          cases hr : pRule (obT n C) b s.2 with
          | inl e => rw [hr] at h2; exact Or.inl h2.1
          | inr q => rw [hr] at h2; exact Or.inr h2.1
        refine J_istore_n (nx := 80) dX12_readLine_79 rfl rfl (Nat.le_of_ble_eq_true rfl) ?_
        refine J_aload_n (nx := 81) dX12_readLine_80 rfl rfl ?_
        refine Jg_63_1 (nx := 84) dX12_readLine_81 rfl fl_X12_13 ?_
        refine J_iload_n (nx := 85) dX12_readLine_84 rfl rfl ?_
        refine J_iconst (nx := 86) (i := 4) (v := 4) (by decide) dX12_readLine_85 rfl ?_
        refine J_iadd (nx := 87) dX12_readLine_86 rfl ?_
        refine J_aload_n (nx := 88) dX12_readLine_87 rfl rfl ?_
        refine Jg_63_12 (nx := 91) dX12_readLine_88 rfl fl_X12_121 ?_
        refine Jt_64 (nx := 92) dX12_readLine_91 rfl (vpE (n := ((1310 + 861 * 5 + 1 + 5 * ln) + 4)) (nIa (Eq.refl (nI ((1310 + 861 * 5 + 1 + 5 * ln)))) (nIc 4)) (by omega) (by decide)) ?_
        rw [clE (n := ((1310 + 861 * 5 + 1 + 5 * ln) + 4)) (nIa (Eq.refl (nI ((1310 + 861 * 5 + 1 + 5 * ln)))) (nIc 4)) (by omega)]
        refine J.gen (fun g_91 hg_91 => ?_)
        refine J_iload_n (nx := 93) dX12_readLine_92 rfl rfl ?_
        exact Jrz dX12_readLine_93 rfl (by rcases hx01 with z | z <;> rw [z] <;> rfl) (Nat.zero_le _) (Nat.zero_le _) (RXi.of (by
  obtain ⟨hf, h2⟩ := p_76
  have hg91 : g_91 = wU g_76 (1310 + 861 * 5 + 1 + 5 * ln + 4) (gF g_76 63 12) := by rw [hg_91]; rfl
  have hF : RFq ln g g_91 := by rw [hg91]; exact (hf41.tr hf).U (by unfold lC; omega)
  cases hr : pRule (obT n C) b s.2 with
  | inl e =>
    rw [hr] at h2
    rw [mlnR_e hln12 hr]
    exact ⟨hF.T, h2.1, by rw [hg91]; exact h2.2⟩
  | inr q =>
    rw [hr] at h2
    obtain ⟨q1, q2, q3, q4, q5, q6⟩ := h2
    have hok := pRule_ok (obT_ok n C hn4) b s.2 hbn.1
    rw [hr] at hok
    obtain ⟨k1, k2, k3, k4⟩ := hok
    have hk4 : q.2.1.2.2.1 = s.2.length := by rw [k4]
    have hk5 : q.2.1.2.2.2 = q.2.2.length := by rw [k4]
    have k2' : q.1 ≤ n := k2
    have hI4 := hI.2.2.2.1
    rw [mlnR_y hln12 hr]
    have e91 : ∀ j, ¬ j = lC ln + 4 → gA g_91 64 j = gA g_76 64 j := fun j hj => by rw [hg91]; exact wU_ne hj
    refine ⟨hF.T, q1, by rw [hg91]; exact q2, by rw [hg91]; exact q3.U (by unfold stI; omega), (hF.1.1 63 13 rfl).trans hI.2.2.1, by show q.2.2.length ≤ q.1; omega, ?_, by show (s.1 ++ [q.2.1]).length = ln + 1; rw [List.length_append, hI.2.2.2.2.2]; rfl⟩
    have hls := hI.2.2.2.2.1
    have hlen := hI.2.2.2.2.2
    refine (hls.q (by rw [hlen]; exact hF)).ap ?_
    rw [hlen]
    refine ⟨⟨(e91 _ (by omega)).trans q4, (e91 _ (by omega)).trans (q5.trans hc2)⟩, (e91 _ (by omega)).trans (q6.trans (hc3.trans (by rw [hk4]))), ?_⟩
    rw [hg91]
    exact wU_at.trans (q3.1.trans (by rw [hk5]))))
      · exact absurd c_63 (by decide)
    · exact absurd c_48 (by decide)
  · refine J_iconst (nx := 11) (i := 0) (v := 0) (by decide) dX12_readLine_10 rfl ?_
    exact Jrz dX12_readLine_11 rfl (by decide) (Nat.zero_le _) (Nat.zero_le _) (RXi.of (by rw [show mlnR (pRule (obT n C)) ln b s = .inl b from if_pos (nI_inj (a := ln) (b := 12) (by omega) (by omega) c_7)]; exact ⟨(RFq.rf (ln := ln)).B p_1.1 |>.T, rfl, p_1.2.2⟩))

set_option maxRecDepth 100000 in
set_option maxHeartbeats 4000000 in
theorem ct_m_readLine1 (g : GS) (n : Nat) (C : Nat → Int32) (ln b : Nat) (s : HC) (hln : ln ≤ 12) (hI : IT n C false g ln b s) : Ct mX12_readLine (rm 41 0 0) [.ref 63, .int (nI (ln))] (Wd g) (RXi (PLn n C false ln g (mlnR (pGoal (obT n C)) ln b s))) := by
  refine Ct.of (by decide +kernel) (Nat.le_of_ble_eq_true rfl) ?_
  show J _ _ _ _ 0 [some (.ref 63), some (.int (nI (ln))), none, none] [] _ 0 0
  have hbn := hI.1.le
  have hn4 := hbn.2.1
  have hlel := leN_le (C := C) hbn.1
  refine J_aload_n (nx := 1) dX12_readLine_0 rfl rfl ?_
  refine JvV0 (R' := rm (2) 0 0) (nx := 4) dX12_readLine_1 rfl ml_X12_letters lk_X12_110 iv_X12_letters rfl rfl ⟨(Nat.le_of_ble_eq_true rfl), (Nat.le_of_ble_eq_true rfl)⟩ (Nat.le_of_ble_eq_true rfl) ⟨rfl, rfl⟩ (ct_m_lettersQ g n C b hI.1) (fun g_1 p_1 => ?_)
  refine J_iload_n (nx := 5) dX12_readLine_4 rfl rfl ?_
  refine J_bipush (nx := 7) (i := 12) (v := 12) (by decide) dX12_readLine_5 rfl ?_
  refine J_icmp_ne (nx := 10) (tgt := 12) dX12_readLine_7 rfl (by decide) (fun c_7 => ?_) (fun c_7 => ?_)
  · have hln12 : ¬ ln = 12 := fun z => c_7 (by rw [z]; rfl)
    refine J_iconst (nx := 13) (i := 5) (v := 5) (by decide) dX12_readLine_12 rfl ?_
    refine J_iload_n (nx := 14) dX12_readLine_13 rfl rfl ?_
    refine JcS2 (R' := rm (1) 0 0) (nx := 17) dX12_readLine_14 rfl ml_X12_lineAt lk_X12_218 st_X12_lineAt ⟨(Nat.le_of_ble_eq_true rfl), (Nat.le_of_ble_eq_true rfl)⟩ (Nat.le_of_ble_eq_true rfl) ⟨rfl, rfl⟩ (ct_m_lineAt _ (5) (ln)) ?_
    refine J_istore_n (nx := 18) dX12_readLine_17 rfl rfl (Nat.le_of_ble_eq_true rfl) ?_
    refine J_aload_n (nx := 19) dX12_readLine_18 rfl rfl ?_
    refine Jg_63_1 (nx := 22) dX12_readLine_19 rfl fl_X12_13 ?_
    refine J_iload_n (nx := 23) dX12_readLine_22 rfl rfl ?_
    refine J_iconst (nx := 24) (i := 2) (v := 2) (by decide) dX12_readLine_23 rfl ?_
    refine J_iadd (nx := 25) dX12_readLine_24 rfl ?_
    refine J_iconst (nx := 26) (i := -1) (v := -1) (by decide) dX12_readLine_25 rfl ?_
    refine Jt_64 (nx := 27) dX12_readLine_26 rfl (vpE (n := ((1310 + 861 * 5 + 1 + 5 * ln) + 2)) (nIa (Eq.refl (nI ((1310 + 861 * 5 + 1 + 5 * ln)))) (nIc 2)) (by omega) (by decide)) ?_
    rw [clE (n := ((1310 + 861 * 5 + 1 + 5 * ln) + 2)) (nIa (Eq.refl (nI ((1310 + 861 * 5 + 1 + 5 * ln)))) (nIc 2)) (by omega)]
    refine J.gen (fun g_26 hg_26 => ?_)
    refine J_aload_n (nx := 28) dX12_readLine_27 rfl rfl ?_
    refine Jg_63_1 (nx := 31) dX12_readLine_28 rfl fl_X12_13 ?_
    refine J_iload_n (nx := 32) dX12_readLine_31 rfl rfl ?_
    refine J_iconst (nx := 33) (i := 3) (v := 3) (by decide) dX12_readLine_32 rfl ?_
    refine J_iadd (nx := 34) dX12_readLine_33 rfl ?_
    refine J_aload_n (nx := 35) dX12_readLine_34 rfl rfl ?_
    refine Jg_63_12 (nx := 38) dX12_readLine_35 rfl fl_X12_121 ?_
    refine Jt_64 (nx := 39) dX12_readLine_38 rfl (vpE (n := ((1310 + 861 * 5 + 1 + 5 * ln) + 3)) (nIa (Eq.refl (nI ((1310 + 861 * 5 + 1 + 5 * ln)))) (nIc 3)) (by omega) (by decide)) ?_
    rw [clE (n := ((1310 + 861 * 5 + 1 + 5 * ln) + 3)) (nIa (Eq.refl (nI ((1310 + 861 * 5 + 1 + 5 * ln)))) (nIc 3)) (by omega)]
    refine J.gen (fun g_38 hg_38 => ?_)
    refine J_aload_n (nx := 40) dX12_readLine_39 rfl rfl ?_
    refine J_iconst (nx := 41) (i := 0) (v := 0) (by decide) dX12_readLine_40 rfl ?_
    refine Jp_63_9 (nx := 44) dX12_readLine_41 rfl fl_X12_159 ?_
    refine J.gen (fun g_41 hg_41 => ?_)
    have hg : g_41 = sF (wU (wU g_1 (1310 + 861 * 5 + 1 + 5 * ln + 2) (-1)) (1310 + 861 * 5 + 1 + 5 * ln + 3) (gF g_1 63 12)) 63 9 0 := by rw [hg_41, hg_38, hg_26]; rfl
    have hq1 := hI.2.1.B p_1.1
    have h41 : MPt n C (leN n C b) g_41 := by rw [hg]; exact p_1.2.1
    have hb41 : gF g_41 63 8 = nI b := by rw [hg]; exact p_1.2.2
    have hq41 : SQ s.2 g_41 := by rw [hg]; exact ((hq1.U (by unfold stI; omega)).U (by unfold stI; omega)).cg rfl rfl
    have hd41 : gF g_41 63 9 = 0 := by rw [hg]; rfl
    have hkd41 : gF g_41 63 13 = kdI false := by rw [hg]; exact (p_1.1.1 63 13 rfl).trans hI.2.2.1
    have hf41 : RFq ln g g_41 := by rw [hg]; exact ((((RFq.rf (ln := ln)).B p_1.1).U (by unfold lC; omega)).U (by unfold lC; omega)).tr ⟨Fr.rf.sF rfl, fun _ _ => rfl⟩
    have hc2 : gA g_41 64 (lC ln + 2) = -1 := by rw [hg]; exact (wU_ne (by unfold lC; omega)).trans wU_at
    have hc3 : gA g_41 64 (lC ln + 3) = nI s.2.length := by rw [hg]; exact wU_at.trans hq1.1
    refine J_aload_n (nx := 45) dX12_readLine_44 rfl rfl ?_
    refine Jg_63_13 (nx := 48) dX12_readLine_45 rfl fl_X12_130 ?_
    rw [show gF g_41 63 13 = 1 from hkd41]
    refine J_if_ne (nx := 51) (tgt := 58) dX12_readLine_48 rfl (by decide) (fun c_48 => ?_) (fun c_48 => ?_)
    · refine J_aload_n (nx := 59) dX12_readLine_58 rfl rfl ?_
      refine Jg_63_13 (nx := 62) dX12_readLine_59 rfl fl_X12_130 ?_
      rw [show gF g_41 63 13 = 1 from hkd41]
      refine J_iconst (nx := 63) (i := 1) (v := 1) (by decide) dX12_readLine_62 rfl ?_
      refine J_icmp_ne (nx := 66) (tgt := 74) dX12_readLine_63 rfl (by decide) (fun c_63 => ?_) (fun c_63 => ?_)
      · exact absurd c_63 (by decide)
      · refine J_aload_n (nx := 67) dX12_readLine_66 rfl rfl ?_
        refine J_iload_n (nx := 68) dX12_readLine_67 rfl rfl ?_
        refine JiV1 (R' := rm (40) 0 0) (nx := 71) dX12_readLine_68 rfl ml_X12_readGoalsLine lk_X12_225 iv_X12_readGoalsLine rfl rfl ⟨(Nat.le_of_ble_eq_true rfl), (Nat.le_of_ble_eq_true rfl)⟩ (Nat.le_of_ble_eq_true rfl) ⟨rfl, rfl⟩ (ct_m_goalLine g_41 n C b h41 hbn.1 hb41 s.2 hq41 hd41 hI.2.2.2.1 ln (by omega) hkd41) (fun x_68 g_68 p_68 => ?_)
        refine J_goto (nx := 79) dX12_readLine_71 (by decide) ?_
        have hx01 : x_68 = 0 ∨ x_68 = 1 := by
          obtain ⟨-, h2⟩ := p_68
          cases hr : pGoal (obT n C) b s.2 with
          | inl e => rw [hr] at h2; exact Or.inl h2.1
          | inr q => rw [hr] at h2; exact Or.inr h2.1
        refine J_istore_n (nx := 80) dX12_readLine_79 rfl rfl (Nat.le_of_ble_eq_true rfl) ?_
        refine J_aload_n (nx := 81) dX12_readLine_80 rfl rfl ?_
        refine Jg_63_1 (nx := 84) dX12_readLine_81 rfl fl_X12_13 ?_
        refine J_iload_n (nx := 85) dX12_readLine_84 rfl rfl ?_
        refine J_iconst (nx := 86) (i := 4) (v := 4) (by decide) dX12_readLine_85 rfl ?_
        refine J_iadd (nx := 87) dX12_readLine_86 rfl ?_
        refine J_aload_n (nx := 88) dX12_readLine_87 rfl rfl ?_
        refine Jg_63_12 (nx := 91) dX12_readLine_88 rfl fl_X12_121 ?_
        refine Jt_64 (nx := 92) dX12_readLine_91 rfl (vpE (n := ((1310 + 861 * 5 + 1 + 5 * ln) + 4)) (nIa (Eq.refl (nI ((1310 + 861 * 5 + 1 + 5 * ln)))) (nIc 4)) (by omega) (by decide)) ?_
        rw [clE (n := ((1310 + 861 * 5 + 1 + 5 * ln) + 4)) (nIa (Eq.refl (nI ((1310 + 861 * 5 + 1 + 5 * ln)))) (nIc 4)) (by omega)]
        refine J.gen (fun g_91 hg_91 => ?_)
        refine J_iload_n (nx := 93) dX12_readLine_92 rfl rfl ?_
        exact Jrz dX12_readLine_93 rfl (by rcases hx01 with z | z <;> rw [z] <;> rfl) (Nat.zero_le _) (Nat.zero_le _) (RXi.of (by
  obtain ⟨hf, h2⟩ := p_68
  have hg91 : g_91 = wU g_68 (1310 + 861 * 5 + 1 + 5 * ln + 4) (gF g_68 63 12) := by rw [hg_91]; rfl
  have hF : RFq ln g g_91 := by rw [hg91]; exact (hf41.tr hf).U (by unfold lC; omega)
  cases hr : pGoal (obT n C) b s.2 with
  | inl e =>
    rw [hr] at h2
    rw [mlnR_e hln12 hr]
    exact ⟨hF.T, h2.1, by rw [hg91]; exact h2.2⟩
  | inr q =>
    rw [hr] at h2
    obtain ⟨q1, q2, q3, ⟨v, hv, qv, q4⟩, q5, q6⟩ := h2
    have hok := pGoal_ok (obT_ok n C hn4) b s.2 hbn.1
    rw [hr] at hok
    obtain ⟨k1, k2, k3, k4⟩ := hok
    have hk4 : q.2.1.2.2.1 = s.2.length := by rw [k4]
    have hk5 : q.2.1.2.2.2 = q.2.2.length := by rw [k4]
    have k2' : q.1 ≤ n := k2
    have hI4 := hI.2.2.2.1
    rw [mlnR_y hln12 hr]
    have e91 : ∀ j, ¬ j = lC ln + 4 → gA g_91 64 j = gA g_68 64 j := fun j hj => by rw [hg91]; exact wU_ne hj
    refine ⟨hF.T, q1, by rw [hg91]; exact q2, by rw [hg91]; exact q3.U (by unfold stI; omega), (hF.1.1 63 13 rfl).trans hI.2.2.1, by show q.2.2.length ≤ q.1; omega, ?_, by show (s.1 ++ [q.2.1]).length = ln + 1; rw [List.length_append, hI.2.2.2.2.2]; rfl⟩
    have hls := hI.2.2.2.2.1
    have hlen := hI.2.2.2.2.2
    refine (hls.q (by rw [hlen]; exact hF)).ap ?_
    rw [hlen]
    refine ⟨⟨⟨v, hv, (e91 _ (by omega)).trans qv, q4.imp (fun z => ⟨(e91 _ (by omega)).trans z.1, z.2⟩) (fun z => ⟨(e91 _ (by omega)).trans z.1, z.2⟩)⟩, (e91 _ (by omega)).trans (q5.trans (by rw [hc2]))⟩, (e91 _ (by omega)).trans (q6.trans (hc3.trans (by rw [hk4]))), ?_⟩
    rw [hg91]
    exact wU_at.trans (q3.1.trans (by rw [hk5]))))
    · exact absurd c_48 (by decide)
  · refine J_iconst (nx := 11) (i := 0) (v := 0) (by decide) dX12_readLine_10 rfl ?_
    exact Jrz dX12_readLine_11 rfl (by decide) (Nat.zero_le _) (Nat.zero_le _) (RXi.of (by rw [show mlnR (pGoal (obT n C)) ln b s = .inl b from if_pos (nI_inj (a := ln) (b := 12) (by omega) (by omega) c_7)]; exact ⟨(RFq.rf (ln := ln)).B p_1.1 |>.T, rfl, p_1.2.2⟩))

