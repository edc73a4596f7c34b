
/-! the Model: a game's lines; feeding -/
def IGr (n : Nat) (C : Nat → Int32) : GS → Nat → Nat → Dr → Prop := fun g _ b d => MLq n C b g ∧ gF g 63 13 = 0 ∧ drM g = d
theorem fTg_Gm (c k : Nat) (h : fTg c k = false) : fGm c k = false := by
  unfold fTg at h; unfold fGm; revert h
  cases Nat.beq c 63 <;> cases Nat.beq k 6 <;> cases Nat.beq k 8 <;> cases Nat.beq k 16 <;> simp
theorem aTg_Gm (c : Nat) (h : aTg c = false) : aGm c = false := by unfold aTg at h; unfold aGm; revert h; cases Nat.beq c 64 <;> simp
theorem TG.M {g g1 g2 : GS} (h : TG g g1) (h2 : Fr fGm aGm g1 g2) : TG g g2 := h.tr ⟨h2.mono fTg_Gm aTg_Gm, fun i _ => congrFun (h2.2.1 64 rfl) i⟩
theorem TG.U {g g1 : GS} {i : Nat} {v : Int32} (h : TG g g1) (hi : lC 0 ≤ i) : TG g (wU g1 i v) := h.tr ⟨Fr.rf.sA rfl, fun j hj => upd_other (by omega)⟩
theorem TG.d9 {g g1 : GS} {v : Int32} (h : TG g g1) : TG g (sF g1 63 9 v) := h.tr ⟨Fr.rf.sF rfl, fun _ _ => rfl⟩
theorem gaLine_e {n : Nat} {C : Nat → Int32} {ln b e : Nat} {d : Dr} (h : ¬ ln = 12) (h2 : pGame (obT n C) b = .inl e) : lnO (gaLine (obT n C)) ln b d = .inl e := by unfold lnO gaLine; rw [if_neg h, h2]
theorem gaLine_y {n : Nat} {C : Nat → Int32} {ln b : Nat} {d : Dr} {q : Nat × Ed} (h : ¬ ln = 12) (h2 : pGame (obT n C) b = .inr q) : lnO (gaLine (obT n C)) ln b d = .inr (q.1, apE q.2 d) := by unfold lnO gaLine; rw [if_neg h, h2]
set_option maxRecDepth 100000 in
set_option maxHeartbeats 4000000 in
theorem ct_m_readLine0 (g : GS) (n : Nat) (C : Nat → Int32) (ln b : Nat) (d : Dr) (hln : ln ≤ 12) (hI : IGr n C g ln b d) : Ct mX12_readLine (rm 41 0 0) [.ref 63, .int (nI (ln))] (Wd g) (RXi (PLO (IGr n C) ln g (lnO (gaLine (obT n C)) ln b d))) := by
  refine Ct.of (by decide +kernel) (Nat.le_of_ble_eq_true rfl) ?_
  show J _ _ _ _ 0 [some (.ref 63), some (.int (nI (ln))), none, none] [] _ 0 0
  have hbn := hI.1.le
  have hn4 := hbn.2.1
  have hlel := leN_le (C := C) hbn.1
  refine J_aload_n (nx := 1) dX12_readLine_0 rfl rfl ?_
  refine JvV0 (R' := rm (2) 0 0) (nx := 4) dX12_readLine_1 rfl ml_X12_letters lk_X12_110 iv_X12_letters rfl rfl ⟨(Nat.le_of_ble_eq_true rfl), (Nat.le_of_ble_eq_true rfl)⟩ (Nat.le_of_ble_eq_true rfl) ⟨rfl, rfl⟩ (ct_m_lettersQ g n C b hI.1) (fun g_1 p_1 => ?_)
  refine J_iload_n (nx := 5) dX12_readLine_4 rfl rfl ?_
  refine J_bipush (nx := 7) (i := 12) (v := 12) (by decide) dX12_readLine_5 rfl ?_
  refine J_icmp_ne (nx := 10) (tgt := 12) dX12_readLine_7 rfl (by decide) (fun c_7 => ?_) (fun c_7 => ?_)
  · have hln12 : ¬ ln = 12 := fun z => c_7 (by rw [z]; rfl)
    refine J_iconst (nx := 13) (i := 5) (v := 5) (by decide) dX12_readLine_12 rfl ?_
    refine J_iload_n (nx := 14) dX12_readLine_13 rfl rfl ?_
    refine JcS2 (R' := rm (1) 0 0) (nx := 17) dX12_readLine_14 rfl ml_X12_lineAt lk_X12_218 st_X12_lineAt ⟨(Nat.le_of_ble_eq_true rfl), (Nat.le_of_ble_eq_true rfl)⟩ (Nat.le_of_ble_eq_true rfl) ⟨rfl, rfl⟩ (ct_m_lineAt _ (5) (ln)) ?_
    refine J_istore_n (nx := 18) dX12_readLine_17 rfl rfl (Nat.le_of_ble_eq_true rfl) ?_
    refine J_aload_n (nx := 19) dX12_readLine_18 rfl rfl ?_
    refine Jg_63_1 (nx := 22) dX12_readLine_19 rfl fl_X12_13 ?_
    refine J_iload_n (nx := 23) dX12_readLine_22 rfl rfl ?_
    refine J_iconst (nx := 24) (i := 2) (v := 2) (by decide) dX12_readLine_23 rfl ?_
    refine J_iadd (nx := 25) dX12_readLine_24 rfl ?_
    refine J_iconst (nx := 26) (i := -1) (v := -1) (by decide) dX12_readLine_25 rfl ?_
    refine Jt_64 (nx := 27) dX12_readLine_26 rfl (vpE (n := ((1310 + 861 * 5 + 1 + 5 * ln) + 2)) (nIa (Eq.refl (nI ((1310 + 861 * 5 + 1 + 5 * ln)))) (nIc 2)) (by omega) (by decide)) ?_
    rw [clE (n := ((1310 + 861 * 5 + 1 + 5 * ln) + 2)) (nIa (Eq.refl (nI ((1310 + 861 * 5 + 1 + 5 * ln)))) (nIc 2)) (by omega)]
    refine J.gen (fun g_26 hg_26 => ?_)
    refine J_aload_n (nx := 28) dX12_readLine_27 rfl rfl ?_
    refine Jg_63_1 (nx := 31) dX12_readLine_28 rfl fl_X12_13 ?_
    refine J_iload_n (nx := 32) dX12_readLine_31 rfl rfl ?_
    refine J_iconst (nx := 33) (i := 3) (v := 3) (by decide) dX12_readLine_32 rfl ?_
    refine J_iadd (nx := 34) dX12_readLine_33 rfl ?_
    refine J_aload_n (nx := 35) dX12_readLine_34 rfl rfl ?_
    refine Jg_63_12 (nx := 38) dX12_readLine_35 rfl fl_X12_121 ?_
    refine Jt_64 (nx := 39) dX12_readLine_38 rfl (vpE (n := ((1310 + 861 * 5 + 1 + 5 * ln) + 3)) (nIa (Eq.refl (nI ((1310 + 861 * 5 + 1 + 5 * ln)))) (nIc 3)) (by omega) (by decide)) ?_
    rw [clE (n := ((1310 + 861 * 5 + 1 + 5 * ln) + 3)) (nIa (Eq.refl (nI ((1310 + 861 * 5 + 1 + 5 * ln)))) (nIc 3)) (by omega)]
    refine J.gen (fun g_38 hg_38 => ?_)
    refine J_aload_n (nx := 40) dX12_readLine_39 rfl rfl ?_
    refine J_iconst (nx := 41) (i := 0) (v := 0) (by decide) dX12_readLine_40 rfl ?_
    refine Jp_63_9 (nx := 44) dX12_readLine_41 rfl fl_X12_159 ?_
    refine J.gen (fun g_41 hg_41 => ?_)
    have hg : g_41 = sF (wU (wU g_1 (1310 + 861 * 5 + 1 + 5 * ln + 2) (-1)) (1310 + 861 * 5 + 1 + 5 * ln + 3) (gF g_1 63 12)) 63 9 0 := by rw [hg_41, hg_38, hg_26]; rfl
    have h41 : MPt n C (leN n C b) g_41 := by rw [hg]; exact p_1.2.1
    have hb41 : gF g_41 63 8 = nI b := by rw [hg]; exact p_1.2.2
    have hT41 : TG g g_41 := by rw [hg]; exact (((TG.rf.B p_1.1).U (by unfold lC; omega)).U (by unfold lC; omega)).d9
    have hdr : drM g_41 = d := by rw [hg]; exact (drM_B p_1.1).trans hI.2.2
    have hkd41 : gF g_41 63 13 = 0 := by rw [hg]; exact (p_1.1.1 63 13 rfl).trans hI.2.1
    refine J_aload_n (nx := 45) dX12_readLine_44 rfl rfl ?_
    refine Jg_63_13 (nx := 48) dX12_readLine_45 rfl fl_X12_130 ?_
    rw [hkd41]
    refine J_if_ne (nx := 51) (tgt := 58) dX12_readLine_48 rfl (by decide) (fun c_48 => ?_) (fun c_48 => ?_)
    · exact absurd c_48 (by decide)
    · refine J_aload_n (nx := 52) dX12_readLine_51 rfl rfl ?_
      refine JiV0 (R' := rm (5) 0 0) (nx := 55) dX12_readLine_52 rfl ml_X12_readGameLine lk_X12_222 iv_X12_readGameLine rfl rfl ⟨(Nat.le_of_ble_eq_true rfl), (Nat.le_of_ble_eq_true rfl)⟩ (Nat.le_of_ble_eq_true rfl) ⟨rfl, rfl⟩ (ct_m_gameLine g_41 n C b h41 hbn.1 hb41) (fun x_52 g_52 p_52 => ?_)
      refine J_goto (nx := 79) dX12_readLine_55 (by decide) ?_
      have hx01 : x_52 = 0 ∨ x_52 = 1 := by
        obtain ⟨-, h2⟩ := p_52
        cases hr : pGame (obT n C) b with
        | inl e => rw [hr] at h2; exact Or.inl h2.1
        | inr q => rw [hr] at h2; exact Or.inr h2.1
      refine J_istore_n (nx := 80) dX12_readLine_79 rfl rfl (Nat.le_of_ble_eq_true rfl) ?_
      refine J_aload_n (nx := 81) dX12_readLine_80 rfl rfl ?_
      refine Jg_63_1 (nx := 84) dX12_readLine_81 rfl fl_X12_13 ?_
      refine J_iload_n (nx := 85) dX12_readLine_84 rfl rfl ?_
      refine J_iconst (nx := 86) (i := 4) (v := 4) (by decide) dX12_readLine_85 rfl ?_
      refine J_iadd (nx := 87) dX12_readLine_86 rfl ?_
      refine J_aload_n (nx := 88) dX12_readLine_87 rfl rfl ?_
      refine Jg_63_12 (nx := 91) dX12_readLine_88 rfl fl_X12_121 ?_
      refine Jt_64 (nx := 92) dX12_readLine_91 rfl (vpE (n := ((1310 + 861 * 5 + 1 + 5 * ln) + 4)) (nIa (Eq.refl (nI ((1310 + 861 * 5 + 1 + 5 * ln)))) (nIc 4)) (by omega) (by decide)) ?_
      rw [clE (n := ((1310 + 861 * 5 + 1 + 5 * ln) + 4)) (nIa (Eq.refl (nI ((1310 + 861 * 5 + 1 + 5 * ln)))) (nIc 4)) (by omega)]
      refine J.gen (fun g_91 hg_91 => ?_)
      refine J_iload_n (nx := 93) dX12_readLine_92 rfl rfl ?_
      exact Jrz dX12_readLine_93 rfl (by rcases hx01 with z | z <;> rw [z] <;> rfl) (Nat.zero_le _) (Nat.zero_le _) (RXi.of (by
  obtain ⟨hf, h2⟩ := p_52
  have hg91 : g_91 = wU g_52 (1310 + 861 * 5 + 1 + 5 * ln + 4) (gF g_52 63 12) := by rw [hg_91]; rfl
  have hT : TG g g_91 := by rw [hg91]; exact (hT41.M hf).U (by unfold lC; omega)
  cases hr : pGame (obT n C) b with
  | inl e =>
    rw [hr] at h2
    rw [gaLine_e hln12 hr]
    exact ⟨hT, h2.1, by rw [hg91]; exact h2.2⟩
  | inr q =>
    rw [hr] at h2
    rw [gaLine_y hln12 hr]
    exact ⟨hT, h2.1, by rw [hg91]; exact h2.2.1, by rw [hg91]; exact (hf.1 63 13 rfl).trans hkd41, by rw [hg91]; exact h2.2.2.trans (by rw [hdr])⟩))
  · refine J_iconst (nx := 11) (i := 0) (v := 0) (by decide) dX12_readLine_10 rfl ?_
    exact Jrz dX12_readLine_11 rfl (by decide) (Nat.zero_le _) (Nat.zero_le _) (RXi.of (by rw [show lnO (gaLine (obT n C)) ln b d = .inl b from if_pos (nI_inj (a := ln) (b := 12) (by omega) (by omega) c_7)]; exact ⟨TG.rf.B p_1.1, rfl, p_1.2.2⟩))

theorem IGr.mv {n : Nat} {C : Nat → Int32} (g g2 : GS) (ln b b2 : Nat) (d : Dr) (h : IGr n C g ln b d) (hf : Fr fB aNo g g2) (hQ : MLq n C b2 g2) (_ : b ≤ b2) : IGr n C g2 ln b2 d :=
  ⟨hQ, (hf.1 63 13 rfl).trans h.2.1, (drM_B hf).trans h.2.2⟩
theorem IGr.z {n : Nat} {C : Nat → Int32} {g : GS} (g1 : GS) (b : Nat) (hf : Fr fB aNo (rdM 0 n g) g1) (hQ : MLq n C b g1) : IGr n C g1 0 b (drM g) :=
  ⟨hQ, hf.1 63 13 rfl, (drM_B (g := rdM 0 n g) hf).trans (rfl : drM (rdM 0 n g) = drM g)⟩
theorem ct_m_reads0 (g : GS) (n : Nat) (hn : gF g 63 5 = nI n) (hn4 : n ≤ 400) : Ct mX12_reads (rm 42 0 0) [.ref 63, .int 0] (Wd g) (RXi (PRd n (IGr n (gA g 66)) (rdM 0 n g) (pRead (obT n (gA g 66)) (gaLine (obT n (gA g 66))) (sk n (gA g 66) 0) (drM g)))) :=
  ct_m_reads g n hn hn4 0 (gaLine (obT n (gA g 66))) (IGr n (gA g 66)) (fun g2 ln b s hl hI => ct_m_readLine0 g2 n (gA g 66) ln b s hl hI) (fun g2 ln b s h => h.1) IGr.mv (drM g) (fun g1 hf hQ => IGr.z g1 _ hf hQ)
def vs5 (a b c d e : Int32) (q : Nat) : Int32 := if q = 0 then a else if q = 1 then b else if q = 2 then c else if q = 3 then d else e
def fdB (vs : Nat → Int32) (i : Nat) : Int32 := vp_nar FieldType.byte (vs (i / 4) >>> (nI (24 - 8 * (i % 4)) &&& 31)).toInt8.toInt32
def a66 (c : Nat) : Bool := Nat.beq c 66
def fFd (c k : Nat) : Bool := Nat.beq c 63 && (Nat.beq k 0 || Nat.beq k 5)
def aFd (c : Nat) : Bool := Nat.beq c 66 || Nat.beq c 67
theorem aFd_66 (c : Nat) (h : aFd c = false) : a66 c = false := by unfold aFd at h; unfold a66; revert h; cases Nat.beq c 66 <;> simp
def FdR (n : Nat) (a b c d e : Int32) (g : GS) (x : Int32) (g2 : GS) : Prop :=
  (400 < n + 20 ∧ x = -1 ∧ g2 = sF g 63 0 0) ∨ (n + 20 ≤ 400 ∧ x = nI (n + 20) ∧ Fr fFd aFd g g2 ∧ gF g2 63 0 = 0 ∧ gF g2 63 5 = nI (n + 20) ∧ ∀ i, gA g2 66 i = if n ≤ i ∧ i < n + 20 then fdB (vs5 a b c d e) (i - n) else gA g 66 i)
set_option maxRecDepth 100000 in
set_option maxHeartbeats 4000000 in
theorem lp_m_feed (Q : Res → List ME → Prop) (g0 : GS) (n : Nat) (hn : gF g0 63 5 = nI n) (hn4 : n + 20 ≤ 400) (a b c d e : Int32) (n0 : Nat) : ∀ (k : Nat) (i : Nat) (g : GS), i + k = 20 → Fr f0 a66 g0 g → (∀ x, gA g 66 x = if n ≤ x ∧ x < n + i then fdB (gA g0 67) (x - n) else gA g0 66 x) → (∀ g, Fr f0 a66 g0 g → (∀ x, gA g 66 x = if n ≤ x ∧ x < n + 20 then fdB (gA g0 67) (x - n) else gA g0 66 x) → J mX12_feed (rm 1 0 0) Q n0 106 [some (.ref 63), some (.int a), some (.int b), some (.int c), some (.int d), some (.int e), some (.int (nI (20)))] [] (Wd g) 0 0) → J mX12_feed (rm 1 0 0) (Q) n0 60 [some (.ref 63), some (.int a), some (.int b), some (.int c), some (.int d), some (.int e), some (.int (nI (i)))] [] (Wd g) 0 0 := by
  intro k
  induction k with
  | zero =>
    intro i g hk hfr hI hK
    refine J_iload (nx := 62) dX12_feed_60 rfl rfl ?_
    refine J_bipush (nx := 64) (i := 20) (v := 20) (by decide) dX12_feed_62 rfl ?_
    refine J_icmp_ge (nx := 67) (tgt := 106) dX12_feed_64 rfl (by decide) (fun c_64 => ?_) (fun c_64 => ?_)
    · obtain rfl : i = 20 := by omega
      exact hK g hfr hI
    · exact absurd (show nI 20 ≤ nI i from by rw [show i = 20 by omega]; exact le_self_nI) c_64
  | succ k ih =>
    intro i g hk hfr hI hK
    refine J_iload (nx := 62) dX12_feed_60 rfl rfl ?_
    refine J_bipush (nx := 64) (i := 20) (v := 20) (by decide) dX12_feed_62 rfl ?_
    refine J_icmp_ge (nx := 67) (tgt := 106) dX12_feed_64 rfl (by decide) (fun c_64 => ?_) (fun c_64 => ?_)
    · exact absurd c_64 (nlt_nI (n := 20) (by omega) (by omega))
    · have hi : i < 20 := by omega
      refine J_aload_n (nx := 68) dX12_feed_67 rfl rfl ?_
      refine Jg_63_4 (nx := 71) dX12_feed_68 rfl fl_X12_20 ?_
      refine J_aload_n (nx := 72) dX12_feed_71 rfl rfl ?_
      refine Jg_63_5 (nx := 75) dX12_feed_72 rfl fl_X12_81 ?_
      rw [show gF g 63 5 = nI n from (hfr.1 63 5 rfl).trans hn]
      refine J_iload (nx := 77) dX12_feed_75 rfl rfl ?_
      refine J_iadd (nx := 78) dX12_feed_77 rfl ?_
      refine J_aload_n (nx := 79) dX12_feed_78 rfl rfl ?_
      refine Jg_63_11 (nx := 82) dX12_feed_79 rfl fl_X12_27 ?_
      refine J_iload (nx := 84) dX12_feed_82 rfl rfl ?_
      refine J_iconst (nx := 85) (i := 4) (v := 4) (by decide) dX12_feed_84 rfl ?_
      refine J_idiv (nx := 86) (by decide) dX12_feed_85 rfl ?_
      refine Ja_67 (nx := 87) dX12_feed_86 rfl (vpE (n := (i / 4)) (nId (by omega) (by omega) (Eq.refl (nI (i))) (nIc 4)) (by omega) (by decide)) ?_
      rw [clE (n := (i / 4)) (nId (by omega) (by omega) (Eq.refl (nI (i))) (nIc 4)) (by omega)]
      refine J_bipush (nx := 89) (i := 24) (v := 24) (by decide) dX12_feed_87 rfl ?_
      refine J_bipush (nx := 91) (i := 8) (v := 8) (by decide) dX12_feed_89 rfl ?_
      refine J_iload (nx := 93) dX12_feed_91 rfl rfl ?_
      refine J_iconst (nx := 94) (i := 4) (v := 4) (by decide) dX12_feed_93 rfl ?_
      refine J_irem (nx := 95) (by decide) dX12_feed_94 rfl ?_
      rw [show (nI (i) - nI (i) / (4 : Int32) * (4 : Int32)) = nI ((i % 4)) from (nIr (by omega) (by omega) (Eq.refl (nI (i))) (nIc 4))]
      refine J_imul (nx := 96) dX12_feed_95 rfl ?_
      refine J_isub (nx := 97) dX12_feed_96 rfl ?_
      rw [show ((24 : Int32) - ((8 : Int32) * nI ((i % 4)))) = nI ((24 - (8 * (i % 4)))) from (nIs (by omega) (nIc 24) (nIm (nIc 8) (Eq.refl (nI ((i % 4))))))]
      refine J_ishr (nx := 98) dX12_feed_97 rfl ?_
      refine J_i2b (nx := 99) dX12_feed_98 rfl ?_
      refine Jt_66 (nx := 100) dX12_feed_99 rfl (vpE (n := (n + i)) (nIa (Eq.refl (nI (n))) (Eq.refl (nI (i)))) (by omega) (by decide)) ?_
      rw [clE (n := (n + i)) (nIa (Eq.refl (nI (n))) (Eq.refl (nI (i)))) (by omega)]
      refine J.gen (fun g_99 hg_99 => ?_)
      refine J_iinc (nx := 103) dX12_feed_100 rfl rfl rfl (Nat.le_of_ble_eq_true rfl) ?_
      refine J_goto (nx := 60) dX12_feed_103 (by decide) ?_
      rw [show (nI (i) + Int32.ofInt 1) = nI (i + 1) from (show nI (i) + Int32.ofInt 1 = nI (i + 1) from nI_add (i) 1)]
      refine ih (i + 1) g_99 (by omega) (by rw [hg_99]; exact hfr.sA rfl) (fun x => ?_) hK
      rw [hg_99]
      show (if x = n + i then vp_nar FieldType.byte (gA g 67 (i / 4) >>> (nI (24 - 8 * (i % 4)) &&& 31)).toInt8.toInt32 else gA g 66 x) = _
      rw [show gA g 67 = gA g0 67 from hfr.2.1 67 rfl]
      by_cases e1 : x = n + i
      · rw [if_pos e1, if_pos (by omega), e1, show n + i - n = i by omega]; rfl
      · rw [if_neg e1, hI x]
        by_cases e2 : n ≤ x ∧ x < n + i
        · rw [if_pos e2, if_pos (by omega)]
        · rw [if_neg e2, if_neg (by omega)]

theorem fdB_congr {vs vs' : Nat → Int32} {i : Nat} (hi : i < 20) (h : ∀ q, q < 5 → vs q = vs' q) : fdB vs i = fdB vs' i := by unfold fdB; rw [h (i / 4) (by omega)]
set_option maxRecDepth 100000 in
set_option maxHeartbeats 4000000 in
theorem ct_m_feed (g : GS) (n : Nat) (hn : gF g 63 5 = nI n) (hn4 : n ≤ 400) (a b c d e : Int32) : Ct mX12_feed (rm 1 0 0) [.ref 63, .int a, .int b, .int c, .int d, .int e] (Wd g) (RXi (FdR n a b c d e g)) := by
  refine Ct.of (by decide +kernel) (Nat.le_of_ble_eq_true rfl) ?_
  show J _ _ _ _ 0 [some (.ref 63), some (.int a), some (.int b), some (.int c), some (.int d), some (.int e), none] [] _ 0 0
  refine J_aload_n (nx := 1) dX12_feed_0 rfl rfl ?_
  refine J_iconst (nx := 2) (i := 0) (v := 0) (by decide) dX12_feed_1 rfl ?_
  refine Jp_63_0 (nx := 5) dX12_feed_2 rfl fl_X12_3 ?_
  refine J.gen (fun g_2 hg_2 => ?_)
  refine J_aload_n (nx := 6) dX12_feed_5 rfl rfl ?_
  refine Jg_63_5 (nx := 9) dX12_feed_6 rfl fl_X12_81 ?_
  rw [show gF g_2 63 5 = nI n from by rw [hg_2]; exact hn]
  refine J_bipush (nx := 11) (i := 20) (v := 20) (by decide) dX12_feed_9 rfl ?_
  refine J_iadd (nx := 12) dX12_feed_11 rfl ?_
  refine J_sipush (nx := 15) (i := 400) (v := 400) (by decide) dX12_feed_12 rfl ?_
  rw [show (nI (n) + (20 : Int32)) = nI (n + 20) from (nIa (Eq.refl (nI (n))) (nIc 20))]
  refine J_icmp_le (nx := 18) (tgt := 20) dX12_feed_15 rfl (by decide) (fun c_15 => ?_) (fun c_15 => ?_)
  · have hle : n + 20 ≤ 400 := nI_led (by omega) (by omega) c_15
    refine J_aload_n (nx := 21) dX12_feed_20 rfl rfl ?_
    refine Jg_63_11 (nx := 24) dX12_feed_21 rfl fl_X12_27 ?_
    refine J_iconst (nx := 25) (i := 0) (v := 0) (by decide) dX12_feed_24 rfl ?_
    refine J_iload_n (nx := 26) dX12_feed_25 rfl rfl ?_
    refine Jt_67 (nx := 27) dX12_feed_26 rfl (vpE (n := 0) (nIc 0) (by omega) (by decide)) ?_
    rw [clE (n := 0) (nIc 0) (by omega)]
    refine J.gen (fun g_26 hg_26 => ?_)
    refine J_aload_n (nx := 28) dX12_feed_27 rfl rfl ?_
    refine Jg_63_11 (nx := 31) dX12_feed_28 rfl fl_X12_27 ?_
    refine J_iconst (nx := 32) (i := 1) (v := 1) (by decide) dX12_feed_31 rfl ?_
    refine J_iload_n (nx := 33) dX12_feed_32 rfl rfl ?_
    refine Jt_67 (nx := 34) dX12_feed_33 rfl (vpE (n := 1) (nIc 1) (by omega) (by decide)) ?_
    rw [clE (n := 1) (nIc 1) (by omega)]
    refine J.gen (fun g_33 hg_33 => ?_)
    refine J_aload_n (nx := 35) dX12_feed_34 rfl rfl ?_
    refine Jg_63_11 (nx := 38) dX12_feed_35 rfl fl_X12_27 ?_
    refine J_iconst (nx := 39) (i := 2) (v := 2) (by decide) dX12_feed_38 rfl ?_
    refine J_iload_n (nx := 40) dX12_feed_39 rfl rfl ?_
    refine Jt_67 (nx := 41) dX12_feed_40 rfl (vpE (n := 2) (nIc 2) (by omega) (by decide)) ?_
    rw [clE (n := 2) (nIc 2) (by omega)]
    refine J.gen (fun g_40 hg_40 => ?_)
    refine J_aload_n (nx := 42) dX12_feed_41 rfl rfl ?_
    refine Jg_63_11 (nx := 45) dX12_feed_42 rfl fl_X12_27 ?_
    refine J_iconst (nx := 46) (i := 3) (v := 3) (by decide) dX12_feed_45 rfl ?_
    refine J_iload (nx := 48) dX12_feed_46 rfl rfl ?_
    refine Jt_67 (nx := 49) dX12_feed_48 rfl (vpE (n := 3) (nIc 3) (by omega) (by decide)) ?_
    rw [clE (n := 3) (nIc 3) (by omega)]
    refine J.gen (fun g_48 hg_48 => ?_)
    refine J_aload_n (nx := 50) dX12_feed_49 rfl rfl ?_
    refine Jg_63_11 (nx := 53) dX12_feed_50 rfl fl_X12_27 ?_
    refine J_iconst (nx := 54) (i := 4) (v := 4) (by decide) dX12_feed_53 rfl ?_
    refine J_iload (nx := 56) dX12_feed_54 rfl rfl ?_
    refine Jt_67 (nx := 57) dX12_feed_56 rfl (vpE (n := 4) (nIc 4) (by omega) (by decide)) ?_
    rw [clE (n := 4) (nIc 4) (by omega)]
    refine J.gen (fun g_56 hg_56 => ?_)
    refine J_iconst (nx := 58) (i := 0) (v := 0) (by decide) dX12_feed_57 rfl ?_
    refine J_istore (nx := 60) dX12_feed_58 rfl rfl (Nat.le_of_ble_eq_true rfl) ?_
    have hn5 : gF g_56 63 5 = nI n := by rw [hg_56, hg_48, hg_40, hg_33, hg_26, hg_2]; exact hn
    have hv5 : ∀ q, q < 5 → gA g_56 67 q = vs5 a b c d e q := fun q hq => by
      rw [hg_56, hg_48, hg_40, hg_33, hg_26]
      rcases q with _ | _ | _ | _ | _ | q
      · rfl
      · rfl
      · rfl
      · rfl
      · rfl
      · omega
    have h66 : gA g_56 66 = gA g 66 := by rw [hg_56, hg_48, hg_40, hg_33, hg_26, hg_2]; rfl
    have hf56 : Fr fFd aFd g g_56 := by rw [hg_56, hg_48, hg_40, hg_33, hg_26, hg_2]; exact (((((Fr.rf.sF rfl).sA rfl).sA rfl).sA rfl).sA rfl).sA rfl
    have h056 : gF g_56 63 0 = 0 := by rw [hg_56, hg_48, hg_40, hg_33, hg_26, hg_2]; rfl
    refine lp_m_feed _ g_56 n hn5 hle a b c d e _ 20 0 g_56 rfl Fr.rf (fun x => by rw [if_neg (by omega)]) (fun ge hfe hIe => ?_)
    refine J_aload_n (nx := 107) dX12_feed_106 rfl rfl ?_
    refine J_dup (nx := 108) rfl dX12_feed_107 rfl ?_
    refine Jg_63_5 (nx := 111) dX12_feed_108 rfl fl_X12_81 ?_
    rw [show gF ge 63 5 = nI n from (hfe.1 63 5 rfl).trans hn5]
    refine J_bipush (nx := 113) (i := 20) (v := 20) (by decide) dX12_feed_111 rfl ?_
    refine J_iadd (nx := 114) dX12_feed_113 rfl ?_
    rw [show (nI (n) + (20 : Int32)) = nI (n + 20) from (nIa (Eq.refl (nI (n))) (nIc 20))]
    refine Jp_63_5 (nx := 117) dX12_feed_114 rfl fl_X12_81 ?_
    refine J.gen (fun g_114 hg_114 => ?_)
    refine J_aload_n (nx := 118) dX12_feed_117 rfl rfl ?_
    refine Jg_63_5 (nx := 121) dX12_feed_118 rfl fl_X12_81 ?_
    exact Jri dX12_feed_121 rfl (Nat.zero_le _) (Nat.zero_le _) (RXi.of (Or.inr ⟨hle, by rw [hg_114]; rfl, by rw [hg_114]; exact (hf56.tr (hfe.mono (fun _ _ _ => rfl) aFd_66)).sF rfl, by rw [hg_114]; exact (hfe.1 63 0 rfl).trans h056, by rw [hg_114]; rfl, fun i => by
  rw [hg_114]
  refine (hIe i).trans ?_
  by_cases e1 : n ≤ i ∧ i < n + 20
  · rw [if_pos e1, if_pos e1]; exact fdB_congr (by omega) hv5
  · rw [if_neg e1, if_neg e1, h66]⟩))
  · refine J_iconst (nx := 19) (i := -1) (v := -1) (by decide) dX12_feed_18 rfl ?_
    exact Jri dX12_feed_19 rfl (Nat.zero_le _) (Nat.zero_le _) (RXi.of (Or.inl ⟨nge_lt (a := n + 20) (b := 400) (by omega) (by omega) c_15, rfl, by rw [hg_2]⟩))

