
/-! the Model: a text read -/
def rdM (kd : Int32) (n : Nat) (g : GS) : GS := sF (sF (sF (sF (sF (sF g 63 0 0) 63 7 (nI n)) 63 5 0) 63 6 0) 63 12 0) 63 13 kd
def PRd {α : Type} (n : Nat) (I : GS → Nat → Nat → α → Prop) (g0 : GS) (r : Nat ⊕ α) (x : Int32) (g2 : GS) : Prop := ∃ (g1 : GS) (ln : Nat), TG g0 g1 ∧ ln ≤ 13 ∧ (match r with
  | .inl e => x = 0 ∧ g2 = wU (sF g1 63 10 (nI e)) (1310 + 861 * 5) (nI ln)
  | .inr s => x = 1 ∧ g2 = wU (sF g1 63 10 (-1)) (1310 + 861 * 5) (nI ln) ∧ ln ≤ 12 ∧ ∃ b, n ≤ b ∧ I g1 ln b s)
set_option maxRecDepth 100000 in
set_option maxHeartbeats 4000000 in
theorem sg_m_rdG (n0 : Nat) {α : Type} (n : Nat) (I : GS → Nat → Nat → α → Prop) (g0 g1 : GS) (kd : Int32) (ln b : Nat) (s : α) (hT : TG g0 g1) (hl : ln ≤ 13) (hl12 : ln ≤ 12) (hb : n ≤ b) (hI : I g1 ln b s) : J mX12_reads (rm 42 0 0) (RXi (PRd n I g0 (.inr s))) n0 142 [some (.ref 63), some (.int kd), some (.int (nI (ln))), some (.int 1), some (.int 0)] [] (Wd g1) 0 0 := by
  refine J_aload_n (nx := 143) dX12_reads_142 rfl rfl ?_
  refine J_iload_n (nx := 144) dX12_reads_143 rfl rfl ?_
  refine J_if_eq (nx := 147) (tgt := 151) dX12_reads_144 rfl (by decide) (fun c_144 => ?_) (fun c_144 => ?_)
  · exact absurd c_144 (by decide)
  · refine J_iconst (nx := 148) (i := -1) (v := -1) (by decide) dX12_reads_147 rfl ?_
    refine J_goto (nx := 155) dX12_reads_148 (by decide) ?_
    refine Jp_63_10 (nx := 158) dX12_reads_155 rfl fl_X12_24 ?_
    refine J.gen (fun g_155 hg_155 => ?_)
    refine J_aload_n (nx := 159) dX12_reads_158 rfl rfl ?_
    refine Jg_63_1 (nx := 162) dX12_reads_159 rfl fl_X12_13 ?_
    refine J_iconst (nx := 163) (i := 5) (v := 5) (by decide) dX12_reads_162 rfl ?_
    refine JcS1 (R' := rm (0) 0 0) (nx := 166) dX12_reads_163 rfl ml_X12_textAt lk_X12_117 st_X12_textAt ⟨(Nat.le_of_ble_eq_true rfl), (Nat.le_of_ble_eq_true rfl)⟩ (Nat.le_of_ble_eq_true rfl) ⟨rfl, rfl⟩ (ct_m_textAt _ (5)) ?_
    refine J_iload_n (nx := 167) dX12_reads_166 rfl rfl ?_
    refine Jt_64 (nx := 168) dX12_reads_167 rfl (vpE (n := (1310 + 861 * 5)) (Eq.refl (nI ((1310 + 861 * 5)))) (by omega) (by decide)) ?_
    rw [clE (n := (1310 + 861 * 5)) (Eq.refl (nI ((1310 + 861 * 5)))) (by omega)]
    refine J.gen (fun g_167 hg_167 => ?_)
    refine J_iload_n (nx := 169) dX12_reads_168 rfl rfl ?_
    exact Jrz dX12_reads_169 rfl (by decide) (Nat.zero_le _) (Nat.zero_le _) (RXi.of ⟨g1, ln, hT, hl, rfl, by rw [hg_167, hg_155]; rfl, hl12, b, hb, hI⟩)

set_option maxRecDepth 100000 in
set_option maxHeartbeats 4000000 in
theorem sg_m_rdB (n0 : Nat) {α : Type} (n : Nat) (I : GS → Nat → Nat → α → Prop) (g0 g1 : GS) (kd : Int32) (ln e : Nat) (he : gF g1 63 8 = nI e) (hT : TG g0 g1) (hl : ln ≤ 13) : J mX12_reads (rm 42 0 0) (RXi (PRd n I g0 (Sum.inl e : Nat ⊕ α))) n0 142 [some (.ref 63), some (.int kd), some (.int (nI (ln))), some (.int 0), some (.int 0)] [] (Wd g1) 0 0 := by
  refine J_aload_n (nx := 143) dX12_reads_142 rfl rfl ?_
  refine J_iload_n (nx := 144) dX12_reads_143 rfl rfl ?_
  refine J_if_eq (nx := 147) (tgt := 151) dX12_reads_144 rfl (by decide) (fun c_144 => ?_) (fun c_144 => ?_)
  · refine J_aload_n (nx := 152) dX12_reads_151 rfl rfl ?_
    refine Jg_63_8 (nx := 155) dX12_reads_152 rfl fl_X12_94 ?_
    rw [he]
    refine Jp_63_10 (nx := 158) dX12_reads_155 rfl fl_X12_24 ?_
    refine J.gen (fun g_155 hg_155 => ?_)
    refine J_aload_n (nx := 159) dX12_reads_158 rfl rfl ?_
    refine Jg_63_1 (nx := 162) dX12_reads_159 rfl fl_X12_13 ?_
    refine J_iconst (nx := 163) (i := 5) (v := 5) (by decide) dX12_reads_162 rfl ?_
    refine JcS1 (R' := rm (0) 0 0) (nx := 166) dX12_reads_163 rfl ml_X12_textAt lk_X12_117 st_X12_textAt ⟨(Nat.le_of_ble_eq_true rfl), (Nat.le_of_ble_eq_true rfl)⟩ (Nat.le_of_ble_eq_true rfl) ⟨rfl, rfl⟩ (ct_m_textAt _ (5)) ?_
    refine J_iload_n (nx := 167) dX12_reads_166 rfl rfl ?_
    refine Jt_64 (nx := 168) dX12_reads_167 rfl (vpE (n := (1310 + 861 * 5)) (Eq.refl (nI ((1310 + 861 * 5)))) (by omega) (by decide)) ?_
    rw [clE (n := (1310 + 861 * 5)) (Eq.refl (nI ((1310 + 861 * 5)))) (by omega)]
    refine J.gen (fun g_167 hg_167 => ?_)
    refine J_iload_n (nx := 169) dX12_reads_168 rfl rfl ?_
    exact Jrz dX12_reads_169 rfl (by decide) (Nat.zero_le _) (Nat.zero_le _) (RXi.of ⟨g1, ln, hT, hl, rfl, by rw [hg_167, hg_155]; rfl⟩)
  · exact absurd c_144 (by decide)

set_option maxRecDepth 100000 in
set_option maxHeartbeats 4000000 in
theorem ct_m_reads {α : Type} (g : GS) (n : Nat) (hn : gF g 63 5 = nI n) (hn4 : n ≤ 400) (kd : Int32) (line : Nat → α → Nat ⊕ (Nat × α)) (I : GS → Nat → Nat → α → Prop) (hLine : ∀ (g : GS) (ln b : Nat) (s : α), ln ≤ 12 → I g ln b s → Ct mX12_readLine (rm 41 0 0) [.ref 63, .int (nI (ln))] (Wd g) (RXi (PLO I ln g (lnO line ln b s)))) (hM : ∀ (g2 : GS) (ln b : Nat) (s : α), I g2 ln b s → MLq n (gA g 66) b g2) (hmv : ∀ (g1 g2 : GS) (ln b b2 : Nat) (s : α), I g1 ln b s → Fr fB aNo g1 g2 → MLq n (gA g 66) b2 g2 → b ≤ b2 → I g2 ln b2 s) (s0 : α) (h0 : ∀ g1, Fr fB aNo (rdM kd n g) g1 → MLq n (gA g 66) (sk n (gA g 66) 0) g1 → I g1 0 (sk n (gA g 66) 0) s0) : Ct mX12_reads (rm 42 0 0) [.ref 63, .int kd] (Wd g) (RXi (PRd n I (rdM kd n g) (pRead (obT n (gA g 66)) line (sk n (gA g 66) 0) s0))) := by
  refine Ct.of (by decide +kernel) (Nat.le_of_ble_eq_true rfl) ?_
  show J _ _ _ _ 0 [some (.ref 63), some (.int kd), none, none, none] [] _ 0 0
  refine J_aload_n (nx := 1) dX12_reads_0 rfl rfl ?_
  refine J_iconst (nx := 2) (i := 0) (v := 0) (by decide) dX12_reads_1 rfl ?_
  refine Jp_63_0 (nx := 5) dX12_reads_2 rfl fl_X12_3 ?_
  refine J.gen (fun g_2 hg_2 => ?_)
  refine J_aload_n (nx := 6) dX12_reads_5 rfl rfl ?_
  refine J_aload_n (nx := 7) dX12_reads_6 rfl rfl ?_
  refine Jg_63_5 (nx := 10) dX12_reads_7 rfl fl_X12_81 ?_
  rw [show gF g_2 63 5 = nI n from by rw [hg_2]; exact hn]
  refine Jp_63_7 (nx := 13) dX12_reads_10 rfl fl_X12_87 ?_
  refine J.gen (fun g_10 hg_10 => ?_)
  refine J_aload_n (nx := 14) dX12_reads_13 rfl rfl ?_
  refine J_iconst (nx := 15) (i := 0) (v := 0) (by decide) dX12_reads_14 rfl ?_
  refine Jp_63_5 (nx := 18) dX12_reads_15 rfl fl_X12_81 ?_
  refine J.gen (fun g_15 hg_15 => ?_)
  refine J_aload_n (nx := 19) dX12_reads_18 rfl rfl ?_
  refine J_iconst (nx := 20) (i := 0) (v := 0) (by decide) dX12_reads_19 rfl ?_
  refine Jp_63_6 (nx := 23) dX12_reads_20 rfl fl_X12_84 ?_
  refine J.gen (fun g_20 hg_20 => ?_)
  refine J_aload_n (nx := 24) dX12_reads_23 rfl rfl ?_
  refine J_iconst (nx := 25) (i := 0) (v := 0) (by decide) dX12_reads_24 rfl ?_
  refine Jp_63_12 (nx := 28) dX12_reads_25 rfl fl_X12_121 ?_
  refine J.gen (fun g_25 hg_25 => ?_)
  refine J_aload_n (nx := 29) dX12_reads_28 rfl rfl ?_
  refine J_iload_n (nx := 30) dX12_reads_29 rfl rfl ?_
  refine Jp_63_13 (nx := 33) dX12_reads_30 rfl fl_X12_130 ?_
  refine J.gen (fun g_30 hg_30 => ?_)
  refine J_iconst (nx := 34) (i := 0) (v := 0) (by decide) dX12_reads_33 rfl ?_
  refine J_istore_n (nx := 35) dX12_reads_34 rfl rfl (Nat.le_of_ble_eq_true rfl) ?_
  refine J_iconst (nx := 36) (i := 1) (v := 1) (by decide) dX12_reads_35 rfl ?_
  refine J_istore_n (nx := 37) dX12_reads_36 rfl rfl (Nat.le_of_ble_eq_true rfl) ?_
  have hg0 : g_30 = rdM kd n g := by rw [hg_30, hg_25, hg_20, hg_15, hg_10, hg_2]; rfl
  have hP0 : MPt n (gA g 66) 0 g_30 := by rw [hg0]; exact ⟨rfl, hn4, rfl, rfl, Nat.zero_le _⟩
  have hsk := sk_le n (gA g 66) 0 (Nat.zero_le _)
  refine J_aload_n (nx := 38) dX12_reads_37 rfl rfl ?_
  refine JvV0 (R' := rm (1) 0 0) (nx := 41) dX12_reads_38 rfl ml_X12_blanks lk_X12_97 iv_X12_blanks rfl rfl ⟨(Nat.le_of_ble_eq_true rfl), (Nat.le_of_ble_eq_true rfl)⟩ (Nat.le_of_ble_eq_true rfl) ⟨rfl, rfl⟩ (ct_m_blanks g_30 n (gA g 66) 0 hP0) (fun g_38 p_38 => ?_)
  have hQ1 : MLq n (gA g 66) (sk n (gA g 66) 0) g_38 := ⟨_, p_38.2.1, sk_sk hn4 (Nat.zero_le _)⟩
  have hI0 := h0 g_38 (by rw [← hg0]; exact p_38.1) hQ1
  have hT0 : TG (rdM kd n g) g_38 := by rw [← hg0]; exact TG.rf.B p_38.1
  refine J_aload_n (nx := 42) dX12_reads_41 rfl rfl ?_
  refine Jg_63_6 (nx := 45) dX12_reads_42 rfl fl_X12_84 ?_
  rw [p_38.2.1.2.2.2.1]
  refine J_aload_n (nx := 46) dX12_reads_45 rfl rfl ?_
  refine Jg_63_7 (nx := 49) dX12_reads_46 rfl fl_X12_87 ?_
  rw [p_38.2.1.1]
  refine J_icmp_ge (nx := 52) (tgt := 56) dX12_reads_49 rfl (by decide) (fun c_49 => ?_) (fun c_49 => ?_)
  · refine J_iconst (nx := 57) (i := 0) (v := 0) (by decide) dX12_reads_56 rfl ?_
    refine J_istore (nx := 59) dX12_reads_57 rfl rfl (Nat.le_of_ble_eq_true rfl) ?_
    refine J_iload (nx := 61) dX12_reads_59 rfl rfl ?_
    refine J_if_eq (nx := 64) (tgt := 142) dX12_reads_61 rfl (by decide) (fun c_61 => ?_) (fun c_61 => ?_)
    · have hge : n ≤ sk n (gA g 66) 0 := nI_led (by omega) (by omega) c_49
      rw [show pRead (obT n (gA g 66)) line (sk n (gA g 66) 0) s0 = .inr s0 from if_pos hge]
      exact sg_m_rdG _ n I (rdM kd n g) g_38 kd 0 (sk n (gA g 66) 0) s0 hT0 (by omega) (by omega) hge hI0
    · exact absurd c_61 (by decide)
  · refine J_iconst (nx := 53) (i := 1) (v := 1) (by decide) dX12_reads_52 rfl ?_
    refine J_goto (nx := 57) dX12_reads_53 (by decide) ?_
    refine J_istore (nx := 59) dX12_reads_57 rfl rfl (Nat.le_of_ble_eq_true rfl) ?_
    have hlt : ¬ n ≤ sk n (gA g 66) 0 := fun z => c_49 (nI_le_n z (by omega))
    rw [show pRead (obT n (gA g 66)) line (sk n (gA g 66) 0) s0 = pText (obT n (gA g 66)) line 12 (sk n (gA g 66) 0) s0 from if_neg hlt]
    refine lp_m_reads _ _ kd n (gA g 66) line I hLine hM hmv (rdM kd n g) 13 0 (sk n (gA g 66) 0) s0 g_38 _ rfl hI0 hT0 rfl (fun g2 ln2 b2 s2 hr hI2 hl2 hb2 hT2 => ?_) (fun g2 ln2 e hr he hT2 hl3 => ?_) (by omega)
    · rw [hr]
      exact sg_m_rdG _ n I (rdM kd n g) g2 kd ln2 b2 s2 hT2 (by omega) hl2 hb2 hI2
    · rw [hr]
      exact sg_m_rdB _ n I (rdM kd n g) g2 kd ln2 e he hT2 hl3

