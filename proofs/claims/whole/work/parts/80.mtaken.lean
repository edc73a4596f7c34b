
/-! the Model: goals and rules taken -/
def ITr (n : Nat) (C : Nat → Int32) (rl : Bool) : GS → Nat → Nat → HC → Prop := fun g ln b s => IT n C rl g ln b s
theorem hl_r (n : Nat) (C : Nat → Int32) (g : GS) (ln b : Nat) (s : HC) (hl : ln ≤ 12) (hI : ITr n C true g ln b s) : Ct mX12_readLine (rm 41 0 0) [.ref 63, .int (nI (ln))] (Wd g) (RXi (PLO (ITr n C true) ln g (lnO (hdLine (pRule (obT n C))) ln b s))) :=
  (ct_m_readLine2 g n C ln b s hl hI).imp (fun r es q => by
    obtain ⟨x, g2, hr, he, hT, h⟩ := q
    refine ⟨x, g2, hr, he, hT.G, ?_⟩
    rw [show lnO (hdLine (pRule (obT n C))) ln b s = mlnR (pRule (obT n C)) ln b s from rfl]
    revert h
    cases mlnR (pRule (obT n C)) ln b s with
    | inl e => exact fun h => h
    | inr q => exact fun h => h)
theorem hl_g (n : Nat) (C : Nat → Int32) (g : GS) (ln b : Nat) (s : HC) (hl : ln ≤ 12) (hI : ITr n C false g ln b s) : Ct mX12_readLine (rm 41 0 0) [.ref 63, .int (nI (ln))] (Wd g) (RXi (PLO (ITr n C false) ln g (lnO (hdLine (pGoal (obT n C))) ln b s))) :=
  (ct_m_readLine1 g n C ln b s hl hI).imp (fun r es q => by
    obtain ⟨x, g2, hr, he, hT, h⟩ := q
    refine ⟨x, g2, hr, he, hT.G, ?_⟩
    rw [show lnO (hdLine (pGoal (obT n C))) ln b s = mlnR (pGoal (obT n C)) ln b s from rfl]
    revert h
    cases mlnR (pGoal (obT n C)) ln b s with
    | inl e => exact fun h => h
    | inr q => exact fun h => h)
theorem ITr.mv {n : Nat} {C : Nat → Int32} {rl : Bool} (g g2 : GS) (ln b b2 : Nat) (s : HC) (h : ITr n C rl g ln b s) (hf : Fr fB aNo g g2) (hQ : MLq n C b2 g2) (hb : b ≤ b2) : ITr n C rl g2 ln b2 s :=
  ⟨hQ, h.2.1.B hf, (hf.1 63 13 rfl).trans h.2.2.1, Nat.le_trans h.2.2.2.1 hb, h.2.2.2.2.1.q (RFq.rf.B hf), h.2.2.2.2.2⟩
theorem ITr.z {n : Nat} {C : Nat → Int32} {rl : Bool} {g : GS} (g1 : GS) (b : Nat) (hf : Fr fB aNo (rdM (kdI rl) n g) g1) (hQ : MLq n C b g1) : ITr n C rl g1 0 b ([], []) :=
  ⟨hQ, ⟨hf.1 63 12 rfl, fun i h => absurd h (Nat.not_lt_zero _)⟩, hf.1 63 13 rfl, Nat.zero_le _, fun i h => absurd h (Nat.not_lt_zero _), rfl⟩
def kpS (t i : Nat) (g : GS) : GS := wU g (1310 + 861 * t + i) (gA g 64 (1310 + 861 * 5 + i))
def kpG (t : Nat) (g : GS) : GS := itU (kpS t) 861 0 g
set_option maxRecDepth 100000 in
set_option maxHeartbeats 4000000 in
theorem lp_m_keeps (t : Nat) (ht : t ≤ 4) (n0 : Nat) : ∀ (k : Nat) (i : Nat) (g r : GS), i + k = 861 → r = itU (kpS t) k i g → J mX12_keeps (rm 1 0 0) (RXv (fun g2 => g2 = r)) n0 2 [some (.ref 63), some (.int (nI t)), some (.int (nI i))] [] (Wd g) 0 0 := by
  intro k
  induction k with
  | zero =>
    intro i g r hk hr
    refine J_iload_n (nx := 3) dX12_keeps_2 rfl rfl ?_
    refine J_sipush (nx := 6) (i := 861) (v := 861) (by decide) dX12_keeps_3 rfl ?_
    refine J_icmp_ge (nx := 9) (tgt := 37) dX12_keeps_6 rfl (by decide) (fun c_6 => ?_) (fun c_6 => ?_)
    · exact Jrv dX12_keeps_37 rfl (Nat.zero_le _) (Nat.zero_le _) (RXv.of (by rw [hr]; rfl))
    · exact absurd (show nI 861 ≤ nI i from by rw [show i = 861 by omega]; exact le_self_nI) c_6
  | succ k ih =>
    intro i g r hk hr
    refine J_iload_n (nx := 3) dX12_keeps_2 rfl rfl ?_
    refine J_sipush (nx := 6) (i := 861) (v := 861) (by decide) dX12_keeps_3 rfl ?_
    refine J_icmp_ge (nx := 9) (tgt := 37) dX12_keeps_6 rfl (by decide) (fun c_6 => ?_) (fun c_6 => ?_)
    · exact absurd c_6 (nlt_nI (n := 861) (by omega) (by omega))
    · have hi : i < 861 := by omega
      refine J_aload_n (nx := 10) dX12_keeps_9 rfl rfl ?_
      refine Jg_63_1 (nx := 13) dX12_keeps_10 rfl fl_X12_13 ?_
      refine J_iload_n (nx := 14) dX12_keeps_13 rfl rfl ?_
      refine JcS1 (R' := rm (0) 0 0) (nx := 17) dX12_keeps_14 rfl ml_X12_textAt lk_X12_117 st_X12_textAt ⟨(Nat.le_of_ble_eq_true rfl), (Nat.le_of_ble_eq_true rfl)⟩ (Nat.le_of_ble_eq_true rfl) ⟨rfl, rfl⟩ (ct_m_textAt _ (t)) ?_
      refine J_iload_n (nx := 18) dX12_keeps_17 rfl rfl ?_
      refine J_iadd (nx := 19) dX12_keeps_18 rfl ?_
      refine J_aload_n (nx := 20) dX12_keeps_19 rfl rfl ?_
      refine Jg_63_1 (nx := 23) dX12_keeps_20 rfl fl_X12_13 ?_
      refine J_iconst (nx := 24) (i := 5) (v := 5) (by decide) dX12_keeps_23 rfl ?_
      refine JcS1 (R' := rm (0) 0 0) (nx := 27) dX12_keeps_24 rfl ml_X12_textAt lk_X12_117 st_X12_textAt ⟨(Nat.le_of_ble_eq_true rfl), (Nat.le_of_ble_eq_true rfl)⟩ (Nat.le_of_ble_eq_true rfl) ⟨rfl, rfl⟩ (ct_m_textAt _ (5)) ?_
      refine J_iload_n (nx := 28) dX12_keeps_27 rfl rfl ?_
      refine J_iadd (nx := 29) dX12_keeps_28 rfl ?_
      refine Ja_64 (nx := 30) dX12_keeps_29 rfl (vpE (n := ((1310 + 861 * 5) + i)) (nIa (Eq.refl (nI ((1310 + 861 * 5)))) (Eq.refl (nI (i)))) (by omega) (by decide)) ?_
      rw [clE (n := ((1310 + 861 * 5) + i)) (nIa (Eq.refl (nI ((1310 + 861 * 5)))) (Eq.refl (nI (i)))) (by omega)]
      refine Jt_64 (nx := 31) dX12_keeps_30 rfl (vpE (n := ((1310 + 861 * t) + i)) (nIa (Eq.refl (nI ((1310 + 861 * t)))) (Eq.refl (nI (i)))) (by omega) (by decide)) ?_
      rw [clE (n := ((1310 + 861 * t) + i)) (nIa (Eq.refl (nI ((1310 + 861 * t)))) (Eq.refl (nI (i)))) (by omega)]
      refine J.gen (fun g_30 hg_30 => ?_)
      refine J_iinc (nx := 34) dX12_keeps_31 rfl rfl rfl (Nat.le_of_ble_eq_true rfl) ?_
      refine J_goto (nx := 2) dX12_keeps_34 (by decide) ?_
      rw [show (nI (i) + Int32.ofInt 1) = nI (i + 1) from (show nI (i) + Int32.ofInt 1 = nI (i + 1) from nI_add (i) 1)]
      exact ih (i + 1) g_30 r (by omega) (hr.trans (by rw [hg_30]; rfl))

set_option maxRecDepth 100000 in
set_option maxHeartbeats 4000000 in
theorem ct_m_keeps (g : GS) (t : Nat) (ht : t ≤ 4) : Ct mX12_keeps (rm 1 0 0) [.ref 63, .int (nI (t))] (Wd g) (RXv (fun g2 => g2 = kpG t g)) := by
  refine Ct.of (by decide +kernel) (Nat.le_of_ble_eq_true rfl) ?_
  show J _ _ _ _ 0 [some (.ref 63), some (.int (nI (t))), none] [] _ 0 0
  refine J_iconst (nx := 1) (i := 0) (v := 0) (by decide) dX12_keeps_0 rfl ?_
  refine J_istore_n (nx := 2) dX12_keeps_1 rfl rfl (Nat.le_of_ble_eq_true rfl) ?_
  exact lp_m_keeps t ht _ 861 0 g (kpG t g) rfl rfl

def MGo (n : Nat) (g : GS) (x : Int32) (g2 : GS) : Prop := ∃ (x1 : Int32) (g1 : GS), PRd n (ITr n (gA g 66) false) (rdM 1 n g) (pRead (obT n (gA g 66)) (hdLine (pGoal (obT n (gA g 66)))) (sk n (gA g 66) 0) ([], [])) x1 g1 ∧ ((x1 = 0 ∧ x = 0 ∧ g2 = sF g1 63 0 1) ∨ (¬ x1 = 0 ∧ x = gA (wU (kpG 4 g1) 3 1) 64 (1310 + 861 * 4) ∧ g2 = wU (kpG 4 g1) 3 1))
def MRu (n R : Nat) (g : GS) (x : Int32) (g2 : GS) : Prop := ∃ (x1 : Int32) (g1 : GS), PRd n (ITr n (gA g 66) true) (rdM 2 n g) (pRead (obT n (gA g 66)) (hdLine (pRule (obT n (gA g 66)))) (sk n (gA g 66) 0) ([], [])) x1 g1 ∧ ((x1 = 0 ∧ x = 0 ∧ g2 = sF g1 63 0 1) ∨ (¬ x1 = 0 ∧ R = 4 ∧ x = 0 ∧ g2 = sF g1 63 0 2) ∨ (¬ x1 = 0 ∧ R < 4 ∧ x = 5 + nI (R + 1) - 1 ∧ g2 = wU (kpG R g1) 1 (nI (R + 1))))
set_option maxRecDepth 100000 in
set_option maxHeartbeats 4000000 in
theorem ct_m_goals (g : GS) (n : Nat) (hn : gF g 63 5 = nI n) (hn4 : n ≤ 400) : Ct mX12_goals (rm 43 0 0) [.ref 63] (Wd g) (RXi (MGo n g)) := by
  refine Ct.of (by decide +kernel) (Nat.le_of_ble_eq_true rfl) ?_
  show J _ _ _ _ 0 [some (.ref 63)] [] _ 0 0
  refine J_aload_n (nx := 1) dX12_goals_0 rfl rfl ?_
  refine J_aload_n (nx := 2) dX12_goals_1 rfl rfl ?_
  refine J_iconst (nx := 3) (i := 1) (v := 1) (by decide) dX12_goals_2 rfl ?_
  refine JiV1 (R' := rm (42) 0 0) (nx := 6) dX12_goals_3 rfl ml_X12_reads lk_X12_234 iv_X12_reads rfl rfl ⟨(Nat.le_of_ble_eq_true rfl), (Nat.le_of_ble_eq_true rfl)⟩ (Nat.le_of_ble_eq_true rfl) ⟨rfl, rfl⟩ (ct_m_reads g n hn hn4 1 (hdLine (pGoal (obT n (gA g 66)))) (ITr n (gA g 66) false) (hl_g n (gA g 66)) (fun g ln b s h => h.1) ITr.mv ([], []) (fun g1 hf hQ => ITr.z (rl := false) g1 _ hf hQ)) (fun x_3 g_3 p_3 => ?_)
  refine J_if_ne (nx := 9) (tgt := 13) dX12_goals_6 rfl (by decide) (fun c_6 => ?_) (fun c_6 => ?_)
  · refine J_iconst (nx := 14) (i := 0) (v := 0) (by decide) dX12_goals_13 rfl ?_
    refine J_iconst (nx := 15) (i := 1) (v := 1) (by decide) dX12_goals_14 rfl ?_
    refine J_thr (b := false) (nx := 18) dX12_goals_15 rfl lk_X12_237 ⟨(Nat.le_of_ble_eq_true rfl), (Nat.le_of_ble_eq_true rfl)⟩ (Nat.le_of_ble_eq_true rfl) (fun b_15 => ?_) (fun b_15 => ?_)
    · exact absurd b_15 (by decide)
    · refine J_if_eq (nx := 21) (tgt := 23) dX12_goals_18 rfl (by decide) (fun c_18 => ?_) (fun c_18 => ?_)
      · refine J_aload_n (nx := 24) dX12_goals_23 rfl rfl ?_
        refine J_iconst (nx := 25) (i := 4) (v := 4) (by decide) dX12_goals_24 rfl ?_
        refine JvV1 (R' := rm (1) 0 0) (nx := 28) dX12_goals_25 rfl ml_X12_keeps lk_X12_241 iv_X12_keeps rfl rfl ⟨(Nat.le_of_ble_eq_true rfl), (Nat.le_of_ble_eq_true rfl)⟩ (Nat.le_of_ble_eq_true rfl) ⟨rfl, rfl⟩ (ct_m_keeps g_3 4 (by decide)) (fun g_25 p_25 => ?_)
        rw [p_25]
        refine J_aload_n (nx := 29) dX12_goals_28 rfl rfl ?_
        refine Jg_63_1 (nx := 32) dX12_goals_29 rfl fl_X12_13 ?_
        refine J_iconst (nx := 33) (i := 3) (v := 3) (by decide) dX12_goals_32 rfl ?_
        refine J_iconst (nx := 34) (i := 1) (v := 1) (by decide) dX12_goals_33 rfl ?_
        refine Jt_64 (nx := 35) dX12_goals_34 rfl (vpE (n := 3) (nIc 3) (by omega) (by decide)) ?_
        rw [clE (n := 3) (nIc 3) (by omega)]
        refine J_aload_n (nx := 36) dX12_goals_35 rfl rfl ?_
        refine Jg_63_1 (nx := 39) dX12_goals_36 rfl fl_X12_13 ?_
        refine J_iconst (nx := 40) (i := 4) (v := 4) (by decide) dX12_goals_39 rfl ?_
        refine JcS1 (R' := rm (0) 0 0) (nx := 43) dX12_goals_40 rfl ml_X12_textAt lk_X12_117 st_X12_textAt ⟨(Nat.le_of_ble_eq_true rfl), (Nat.le_of_ble_eq_true rfl)⟩ (Nat.le_of_ble_eq_true rfl) ⟨rfl, rfl⟩ (ct_m_textAt _ (4)) ?_
        refine Ja_64 (nx := 44) dX12_goals_43 rfl (vpE (n := (1310 + 861 * 4)) (Eq.refl (nI ((1310 + 861 * 4)))) (by omega) (by decide)) ?_
        rw [clE (n := (1310 + 861 * 4)) (Eq.refl (nI ((1310 + 861 * 4)))) (by omega)]
        exact Jri dX12_goals_44 rfl (Nat.zero_le _) (Nat.zero_le _) (RXi.of ⟨x_3, g_3, p_3, Or.inr ⟨c_6, rfl, rfl⟩⟩)
      · exact absurd c_18 (by decide)
  · refine J_iconst (nx := 10) (i := 1) (v := 1) (by decide) dX12_goals_9 rfl ?_
    refine J_goto (nx := 14) dX12_goals_10 (by decide) ?_
    refine J_iconst (nx := 15) (i := 1) (v := 1) (by decide) dX12_goals_14 rfl ?_
    refine J_thr (b := true) (nx := 18) dX12_goals_15 rfl lk_X12_237 ⟨(Nat.le_of_ble_eq_true rfl), (Nat.le_of_ble_eq_true rfl)⟩ (Nat.le_of_ble_eq_true rfl) (fun b_15 => ?_) (fun b_15 => ?_)
    · refine J_if_eq (nx := 21) (tgt := 23) dX12_goals_18 rfl (by decide) (fun c_18 => ?_) (fun c_18 => ?_)
      · exact absurd c_18 (by decide)
      · refine J_iconst (nx := 22) (i := 0) (v := 0) (by decide) dX12_goals_21 rfl ?_
        exact Jri dX12_goals_22 rfl (Nat.zero_le _) (Nat.zero_le _) (RXi.of ⟨x_3, g_3, p_3, Or.inl ⟨c_6, rfl, rfl⟩⟩)
    · exact absurd b_15 (by decide)

theorem kpI_lo (t : Nat) : ∀ (k i : Nat) (g : GS) (j : Nat), j < 1310 + 861 * t → gA (itU (kpS t) k i g) 64 j = gA g 64 j := by
  intro k
  induction k with
  | zero => intro i g j _; rfl
  | succ k ih =>
    intro i g j hj
    show gA (itU (kpS t) k (i + 1) (kpS t i g)) 64 j = gA g 64 j
    rw [ih _ _ j hj]
    exact wU_ne (by omega)
theorem kpG_lo (g : GS) (t j : Nat) (hj : j < 1310 + 861 * t) : gA (kpG t g) 64 j = gA g 64 j := kpI_lo t 861 0 g j hj
set_option maxRecDepth 100000 in
set_option maxHeartbeats 4000000 in
theorem ct_m_rule (g : GS) (n : Nat) (hn : gF g 63 5 = nI n) (hn4 : n ≤ 400) (R : Nat) (hR : gA g 64 1 = nI R) (hR4 : R ≤ 4) : Ct mX12_rule (rm 43 0 0) [.ref 63] (Wd g) (RXi (MRu n R g)) := by
  refine Ct.of (by decide +kernel) (Nat.le_of_ble_eq_true rfl) ?_
  show J _ _ _ _ 0 [some (.ref 63)] [] _ 0 0
  refine J_aload_n (nx := 1) dX12_rule_0 rfl rfl ?_
  refine J_aload_n (nx := 2) dX12_rule_1 rfl rfl ?_
  refine J_iconst (nx := 3) (i := 2) (v := 2) (by decide) dX12_rule_2 rfl ?_
  refine JiV1 (R' := rm (42) 0 0) (nx := 6) dX12_rule_3 rfl ml_X12_reads lk_X12_234 iv_X12_reads rfl rfl ⟨(Nat.le_of_ble_eq_true rfl), (Nat.le_of_ble_eq_true rfl)⟩ (Nat.le_of_ble_eq_true rfl) ⟨rfl, rfl⟩ (ct_m_reads g n hn hn4 2 (hdLine (pRule (obT n (gA g 66)))) (ITr n (gA g 66) true) (hl_r n (gA g 66)) (fun g ln b s h => h.1) ITr.mv ([], []) (fun g1 hf hQ => ITr.z (rl := true) g1 _ hf hQ)) (fun x_3 g_3 p_3 => ?_)
  refine J_if_ne (nx := 9) (tgt := 13) dX12_rule_6 rfl (by decide) (fun c_6 => ?_) (fun c_6 => ?_)
  · refine J_iconst (nx := 14) (i := 0) (v := 0) (by decide) dX12_rule_13 rfl ?_
    refine J_iconst (nx := 15) (i := 1) (v := 1) (by decide) dX12_rule_14 rfl ?_
    refine J_thr (b := false) (nx := 18) dX12_rule_15 rfl lk_X12_237 ⟨(Nat.le_of_ble_eq_true rfl), (Nat.le_of_ble_eq_true rfl)⟩ (Nat.le_of_ble_eq_true rfl) (fun b_15 => ?_) (fun b_15 => ?_)
    · exact absurd b_15 (by decide)
    · refine J_if_ne (nx := 21) (tgt := 44) dX12_rule_18 rfl (by decide) (fun c_18 => ?_) (fun c_18 => ?_)
      · exact absurd c_18 (by decide)
      · have hR3 : gA g_3 64 1 = nI R := by
          obtain ⟨g1, ln, hT, hl, h2⟩ := p_3
          have e : gA g_3 64 1 = gA g1 64 1 := by
            revert h2
            cases pRead (obT n (gA g 66)) (hdLine (pRule (obT n (gA g 66)))) (sk n (gA g 66) 0) ([], []) with
            | inl e => intro h2; rw [h2.2]; exact wU_ne (by omega)
            | inr s => intro h2; rw [h2.2.1]; exact wU_ne (by omega)
          rw [e, hT.2 1 (by unfold lC; omega)]
          exact hR
        refine J_aload_n (nx := 22) dX12_rule_21 rfl rfl ?_
        refine J_aload_n (nx := 23) dX12_rule_22 rfl rfl ?_
        refine Jg_63_1 (nx := 26) dX12_rule_23 rfl fl_X12_13 ?_
        refine J_iconst (nx := 27) (i := 1) (v := 1) (by decide) dX12_rule_26 rfl ?_
        refine Ja_64 (nx := 28) dX12_rule_27 rfl (vpE (n := 1) (nIc 1) (by omega) (by decide)) ?_
        rw [clE (n := 1) (nIc 1) (by omega)]
        rw [hR3]
        refine J_iconst (nx := 29) (i := 4) (v := 4) (by decide) dX12_rule_28 rfl ?_
        refine J_icmp_ne (nx := 32) (tgt := 36) dX12_rule_29 rfl (by decide) (fun c_29 => ?_) (fun c_29 => ?_)
        · refine J_iconst (nx := 37) (i := 0) (v := 0) (by decide) dX12_rule_36 rfl ?_
          refine J_iconst (nx := 38) (i := 2) (v := 2) (by decide) dX12_rule_37 rfl ?_
          refine J_thr (b := false) (nx := 41) dX12_rule_38 rfl lk_X12_237 ⟨(Nat.le_of_ble_eq_true rfl), (Nat.le_of_ble_eq_true rfl)⟩ (Nat.le_of_ble_eq_true rfl) (fun b_38 => ?_) (fun b_38 => ?_)
          · exact absurd b_38 (by decide)
          · refine J_if_eq (nx := 44) (tgt := 46) dX12_rule_41 rfl (by decide) (fun c_41 => ?_) (fun c_41 => ?_)
            · refine J_aload_n (nx := 47) dX12_rule_46 rfl rfl ?_
              refine J_aload_n (nx := 48) dX12_rule_47 rfl rfl ?_
              refine Jg_63_1 (nx := 51) dX12_rule_48 rfl fl_X12_13 ?_
              refine J_iconst (nx := 52) (i := 1) (v := 1) (by decide) dX12_rule_51 rfl ?_
              refine Ja_64 (nx := 53) dX12_rule_52 rfl (vpE (n := 1) (nIc 1) (by omega) (by decide)) ?_
              rw [clE (n := 1) (nIc 1) (by omega)]
              have hR4' : R < 4 := by
                rcases Nat.lt_or_ge R 4 with z | z
                · exact z
                · exact absurd (show nI R = 4 by rw [show R = 4 by omega]; rfl) c_29
              rw [hR3]
              refine JvV1 (R' := rm (1) 0 0) (nx := 56) dX12_rule_53 rfl ml_X12_keeps lk_X12_241 iv_X12_keeps rfl rfl ⟨(Nat.le_of_ble_eq_true rfl), (Nat.le_of_ble_eq_true rfl)⟩ (Nat.le_of_ble_eq_true rfl) ⟨rfl, rfl⟩ (ct_m_keeps g_3 R (by omega)) (fun g_53 p_53 => ?_)
              have hRk : gA (kpG R g_3) 64 1 = nI R := (kpG_lo g_3 R 1 (by omega)).trans hR3
              rw [p_53]
              refine J_aload_n (nx := 57) dX12_rule_56 rfl rfl ?_
              refine Jg_63_1 (nx := 60) dX12_rule_57 rfl fl_X12_13 ?_
              refine J_iconst (nx := 61) (i := 1) (v := 1) (by decide) dX12_rule_60 rfl ?_
              refine J_dup2 (nx := 62) rfl rfl dX12_rule_61 rfl ?_
              refine Ja_64 (nx := 63) dX12_rule_62 rfl (vpE (n := 1) (nIc 1) (by omega) (by decide)) ?_
              rw [clE (n := 1) (nIc 1) (by omega)]
              rw [hRk]
              refine J_iconst (nx := 64) (i := 1) (v := 1) (by decide) dX12_rule_63 rfl ?_
              refine J_iadd (nx := 65) dX12_rule_64 rfl ?_
              refine Jt_64 (nx := 66) dX12_rule_65 rfl (vpE (n := 1) (nIc 1) (by omega) (by decide)) ?_
              rw [clE (n := 1) (nIc 1) (by omega)]
              refine J_iconst (nx := 67) (i := 5) (v := 5) (by decide) dX12_rule_66 rfl ?_
              refine J_aload_n (nx := 68) dX12_rule_67 rfl rfl ?_
              refine Jg_63_1 (nx := 71) dX12_rule_68 rfl fl_X12_13 ?_
              refine J_iconst (nx := 72) (i := 1) (v := 1) (by decide) dX12_rule_71 rfl ?_
              refine Ja_64 (nx := 73) dX12_rule_72 rfl (vpE (n := 1) (nIc 1) (by omega) (by decide)) ?_
              rw [clE (n := 1) (nIc 1) (by omega)]
              rw [show gA (sA (kpG R g_3) 64 (upd (gA (kpG R g_3) 64) 1 (nI R + 1))) 64 1 = nI (R + 1) from (show gA (wU (kpG R g_3) 1 (nI R + 1)) 64 1 = nI (R + 1) from wU_at.trans (nI_add R 1))]
              refine J_iadd (nx := 74) dX12_rule_73 rfl ?_
              refine J_iconst (nx := 75) (i := 1) (v := 1) (by decide) dX12_rule_74 rfl ?_
              refine J_isub (nx := 76) dX12_rule_75 rfl ?_
              exact Jri dX12_rule_76 rfl (Nat.zero_le _) (Nat.zero_le _) (RXi.of ⟨x_3, g_3, p_3, Or.inr (Or.inr ⟨c_6, hR4', rfl, by rw [show nI R + 1 = nI (R + 1) from nI_add R 1]; rfl⟩)⟩)
            · exact absurd c_41 (by decide)
        · refine J_iconst (nx := 33) (i := 1) (v := 1) (by decide) dX12_rule_32 rfl ?_
          refine J_goto (nx := 37) dX12_rule_33 (by decide) ?_
          refine J_iconst (nx := 38) (i := 2) (v := 2) (by decide) dX12_rule_37 rfl ?_
          refine J_thr (b := true) (nx := 41) dX12_rule_38 rfl lk_X12_237 ⟨(Nat.le_of_ble_eq_true rfl), (Nat.le_of_ble_eq_true rfl)⟩ (Nat.le_of_ble_eq_true rfl) (fun b_38 => ?_) (fun b_38 => ?_)
          · refine J_if_eq (nx := 44) (tgt := 46) dX12_rule_41 rfl (by decide) (fun c_41 => ?_) (fun c_41 => ?_)
            · exact absurd c_41 (by decide)
            · refine J_iconst (nx := 45) (i := 0) (v := 0) (by decide) dX12_rule_44 rfl ?_
              exact Jri dX12_rule_45 rfl (Nat.zero_le _) (Nat.zero_le _) (RXi.of ⟨x_3, g_3, p_3, by first | exact Or.inl ⟨c_6, rfl, rfl⟩ | exact Or.inr (Or.inl ⟨c_6, nI_inj (by omega) (by omega) c_29, rfl, rfl⟩)⟩)
          · exact absurd b_38 (by decide)
  · refine J_iconst (nx := 10) (i := 1) (v := 1) (by decide) dX12_rule_9 rfl ?_
    refine J_goto (nx := 14) dX12_rule_10 (by decide) ?_
    refine J_iconst (nx := 15) (i := 1) (v := 1) (by decide) dX12_rule_14 rfl ?_
    refine J_thr (b := true) (nx := 18) dX12_rule_15 rfl lk_X12_237 ⟨(Nat.le_of_ble_eq_true rfl), (Nat.le_of_ble_eq_true rfl)⟩ (Nat.le_of_ble_eq_true rfl) (fun b_15 => ?_) (fun b_15 => ?_)
    · refine J_if_ne (nx := 21) (tgt := 44) dX12_rule_18 rfl (by decide) (fun c_18 => ?_) (fun c_18 => ?_)
      · refine J_iconst (nx := 45) (i := 0) (v := 0) (by decide) dX12_rule_44 rfl ?_
        exact Jri dX12_rule_45 rfl (Nat.zero_le _) (Nat.zero_le _) (RXi.of ⟨x_3, g_3, p_3, by first | exact Or.inl ⟨c_6, rfl, rfl⟩ | exact Or.inr (Or.inl ⟨c_6, nI_inj (by omega) (by omega) c_29, rfl, rfl⟩)⟩)
      · exact absurd c_18 (by decide)
    · exact absurd b_15 (by decide)

