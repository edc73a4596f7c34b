
/-! the Model: a line of a rule, of goals -/
def kpV (v : Int32) : Int32 := if v < 0 then 0 else 1
def lC (ln : Nat) : Nat := 1310 + 861 * 5 + 1 + 5 * ln
def RFq (ln : Nat) (g g2 : GS) : Prop := Fr fRd a64o g g2 ∧ ∀ i, i < lC ln → gA g2 64 i = gA g 64 i
theorem RFq.rf {ln : Nat} {g : GS} : RFq ln g g := ⟨Fr.rf, fun _ _ => rfl⟩
theorem RFq.tr {ln : Nat} {g g1 g2 : GS} (h : RFq ln g g1) (h2 : RFq ln g1 g2) : RFq ln g g2 := ⟨h.1.tr h2.1, fun i hi => (h2.2 i hi).trans (h.2 i hi)⟩
theorem RFq.B {ln : Nat} {g g1 g2 : GS} (h : RFq ln g g1) (h2 : Fr fB aNo g1 g2) : RFq ln g g2 := h.tr ⟨h2.mono fRd_B (fun _ _ => rfl), fun i _ => congrFun (h2.2.1 64 rfl) i⟩
theorem RFq.R {ln : Nat} {g g1 g2 : GS} (hl : ln < 12) (h : RFq ln g g1) (h2 : RFr g1 g2) : RFq ln g g2 := h.tr ⟨h2.1, fun i hi => h2.2 i (by unfold lC at hi; unfold stI; omega)⟩
theorem RFq.U {ln : Nat} {g g1 : GS} {i : Nat} {v : Int32} (h : RFq ln g g1) (hi : lC ln ≤ i) : RFq ln g (wU g1 i v) := h.tr ⟨Fr.rf.sA rfl, fun j hj => upd_other (by omega)⟩
theorem SQ.U {cs : List Int32} {g : GS} {i : Nat} {v : Int32} (h : SQ cs g) (hi : i < stI 0) : SQ cs (wU g i v) := ⟨h.1, fun q hq => ⟨(upd_other (by unfold stI at *; omega)).trans (h.2 q hq).1, (upd_other (by unfold stI at *; omega)).trans (h.2 q hq).2⟩⟩
theorem MLq.U {n : Nat} {C : Nat → Int32} {b i : Nat} {v : Int32} {g : GS} (h : MLq n C b g) : MLq n C b (wU g i v) := h
theorem wU_at {g : GS} {i : Nat} {v : Int32} : gA (wU g i v) 64 i = v := if_pos rfl
theorem wU_ne {g : GS} {i j : Nat} {v : Int32} (h : ¬ j = i) : gA (wU g i v) 64 j = gA g 64 j := upd_other h

set_option maxRecDepth 100000 in
set_option maxHeartbeats 4000000 in
theorem ct_m_keepsAt (g : GS) (k : Nat) (hk : k < 6476) (v : Int32) : Ct mX12_keepsAt (rm 0 0 0) [.ref 63, .int (nI (k)), .int v] (Wd g) (RR (.inl (some (.int (kpV v)))) (wU g k v)) := by
  refine Ct.of (by decide +kernel) (Nat.le_of_ble_eq_true rfl) ?_
  show J _ _ _ _ 0 [some (.ref 63), some (.int (nI (k))), some (.int v)] [] _ 0 0
  refine J_aload_n (nx := 1) dX12_keepsAt_0 rfl rfl ?_
  refine Jg_63_1 (nx := 4) dX12_keepsAt_1 rfl fl_X12_13 ?_
  refine J_iload_n (nx := 5) dX12_keepsAt_4 rfl rfl ?_
  refine J_iload_n (nx := 6) dX12_keepsAt_5 rfl rfl ?_
  refine Jt_64 (nx := 7) dX12_keepsAt_6 rfl (vpE (n := k) (Eq.refl (nI (k))) (by omega) (by decide)) ?_
  rw [clE (n := k) (Eq.refl (nI (k))) (by omega)]
  refine J_iload_n (nx := 8) dX12_keepsAt_7 rfl rfl ?_
  refine J_if_lt (nx := 11) (tgt := 15) dX12_keepsAt_8 rfl (by decide) (fun c_8 => ?_) (fun c_8 => ?_)
  · refine J_iconst (nx := 16) (i := 0) (v := 0) (by decide) dX12_keepsAt_15 rfl ?_
    exact Jrz dX12_keepsAt_16 rfl (by decide) (Nat.zero_le _) (Nat.zero_le _) ⟨by unfold kpV; first | rw [if_pos c_8] | rw [if_neg c_8], rfl⟩
  · refine J_iconst (nx := 12) (i := 1) (v := 1) (by decide) dX12_keepsAt_11 rfl ?_
    refine J_goto (nx := 16) dX12_keepsAt_12 (by decide) ?_
    exact Jrz dX12_keepsAt_16 rfl (by decide) (Nat.zero_le _) (Nat.zero_le _) ⟨by unfold kpV; first | rw [if_pos c_8] | rw [if_neg c_8], rfl⟩

def PLr (n : Nat) (C : Nat → Int32) (ln : Nat) (g : GS) (r : LR) (x : Int32) (g2 : GS) : Prop := RFq ln g g2 ∧ (match r with
  | .inl e => x = 0 ∧ gF g2 63 8 = nI e
  | .inr q => x = 1 ∧ MLq n C q.1 g2 ∧ SQ q.2.2 g2 ∧ gA g2 64 (lC ln) = q.2.1.1 ∧ gA g2 64 (lC ln + 2) = gA g 64 (lC ln + 2) ∧ gA g2 64 (lC ln + 3) = gA g 64 (lC ln + 3))
theorem pDeed_n {n : Nat} {C : Nat → Int32} {b : Nat} {cs : List Int32} (h : pDeed (obT n C) b = -1) : pRule (obT n C) b cs = .inl b := if_pos h
theorem pRule_if {n : Nat} {C : Nat → Int32} {b : Nat} {cs : List Int32} (h : ¬ pDeed (obT n C) b = -1) (h2 : ¬ obWrd n C (obNxt n C b) = 8) : pRule (obT n C) b cs = .inl (obNxt n C b) := (if_neg h).trans (if_neg h2)
theorem pRule_y {n : Nat} {C : Nat → Int32} {b : Nat} {cs : List Int32} (h : ¬ pDeed (obT n C) b = -1) (h2 : obWrd n C (obNxt n C b) = 8) : pRule (obT n C) b cs = (match pCond (obT n C) true 6 (obNxt n C (obNxt n C b)) cs with
  | .inl e => (Sum.inl e : LR)
  | .inr q => .inr (q.1, (pDeed (obT n C) b, -1, cs.length, q.2.length), q.2)) := (if_neg h).trans (if_pos h2)
theorem pDeed_9 {n : Nat} {C : Nat → Int32} {b : Nat} (h : obWrd n C b = 9) : pDeed (obT n C) b = 0 := if_pos h
theorem pDeed_10 {n : Nat} {C : Nat → Int32} {b : Nat} (h : obWrd n C b = 10) : pDeed (obT n C) b = 1 := (if_neg (show ¬ obWrd n C b = 9 by omega)).trans (if_pos h)
theorem pDeed_11 {n : Nat} {C : Nat → Int32} {b : Nat} (h : obWrd n C b = 11) : pDeed (obT n C) b = 2 := (if_neg (show ¬ obWrd n C b = 9 by omega)).trans ((if_neg (show ¬ obWrd n C b = 10 by omega)).trans (if_pos h))
theorem pDeed_no {n : Nat} {C : Nat → Int32} {b : Nat} (h : ¬ obWrd n C b = 9) (h1 : ¬ obWrd n C b = 10) (h2 : ¬ obWrd n C b = 11) : pDeed (obT n C) b = -1 := (if_neg h).trans ((if_neg h1).trans (if_neg h2))
set_option maxRecDepth 100000 in
set_option maxHeartbeats 4000000 in
theorem ct_m_ruleLine (g : GS) (n : Nat) (C : Nat → Int32) (b : Nat) (h : MPt n C (leN n C b) g) (hbn : b ≤ n) (hb : gF g 63 8 = nI b) (cs : List Int32) (hq : SQ cs g) (hd : gF g 63 9 = 0) (hl : cs.length ≤ b) (ln : Nat) (hln : ln < 12) (hkd : gF g 63 13 = kdI true) : Ct mX12_readRuleLine (rm 40 0 0) [.ref 63, .int (nI (1310 + 861 * 5 + 1 + 5 * ln))] (Wd g) (RXi (PLr n C ln g (pRule (obT n C) b cs))) := by
  refine Ct.of (by decide +kernel) (Nat.le_of_ble_eq_true rfl) ?_
  show J _ _ _ _ 0 [some (.ref 63), some (.int (nI (1310 + 861 * 5 + 1 + 5 * ln)))] [] _ 0 0
  have hn4 := h.2.1
  have hlel := leN_le (C := C) hbn
  refine J_aload_n (nx := 1) dX12_readRuleLine_0 rfl rfl ?_
  refine J_iload_n (nx := 2) dX12_readRuleLine_1 rfl rfl ?_
  refine J_aload_n (nx := 3) dX12_readRuleLine_2 rfl rfl ?_
  refine J_ldcS (nx := 5) (j := 9) dX12_readRuleLine_3 rfl rfl (by decide) (by decide) ?_
  refine JcV1 (R' := rm (4) 0 0) (nx := 8) dX12_readRuleLine_5 rfl ml_X12_isWord lk_X12_113 iv_X12_isWord rfl rfl ⟨(Nat.le_of_ble_eq_true rfl), (Nat.le_of_ble_eq_true rfl)⟩ (Nat.le_of_ble_eq_true rfl) ⟨rfl, rfl⟩ (ct_m_isWord g n C (leN n C b) b 9 h hb hlel.1 (by decide)) ?_
  rw [iw_wrd hn4 (by decide) (by decide)]
  refine J_if_eq (nx := 11) (tgt := 15) dX12_readRuleLine_8 rfl (by decide) (fun c_8 => ?_) (fun c_8 => ?_)
  · refine J_aload_n (nx := 16) dX12_readRuleLine_15 rfl rfl ?_
    refine J_ldcS (nx := 18) (j := 10) dX12_readRuleLine_16 rfl rfl (by decide) (by decide) ?_
    refine JcV1 (R' := rm (4) 0 0) (nx := 21) dX12_readRuleLine_18 rfl ml_X12_isWord lk_X12_113 iv_X12_isWord rfl rfl ⟨(Nat.le_of_ble_eq_true rfl), (Nat.le_of_ble_eq_true rfl)⟩ (Nat.le_of_ble_eq_true rfl) ⟨rfl, rfl⟩ (ct_m_isWord g n C (leN n C b) b 10 h hb hlel.1 (by decide)) ?_
    rw [iw_wrd hn4 (by decide) (by decide)]
    refine J_if_eq (nx := 24) (tgt := 28) dX12_readRuleLine_21 rfl (by decide) (fun c_21 => ?_) (fun c_21 => ?_)
    · refine J_aload_n (nx := 29) dX12_readRuleLine_28 rfl rfl ?_
      refine J_ldcS (nx := 31) (j := 11) dX12_readRuleLine_29 rfl rfl (by decide) (by decide) ?_
      refine JcV1 (R' := rm (4) 0 0) (nx := 34) dX12_readRuleLine_31 rfl ml_X12_isWord lk_X12_113 iv_X12_isWord rfl rfl ⟨(Nat.le_of_ble_eq_true rfl), (Nat.le_of_ble_eq_true rfl)⟩ (Nat.le_of_ble_eq_true rfl) ⟨rfl, rfl⟩ (ct_m_isWord g n C (leN n C b) b 11 h hb hlel.1 (by decide)) ?_
      rw [iw_wrd hn4 (by decide) (by decide)]
      refine J_if_eq (nx := 37) (tgt := 41) dX12_readRuleLine_34 rfl (by decide) (fun c_34 => ?_) (fun c_34 => ?_)
      · have hdn := pDeed_no (of_decide_eq_false (bI_0.mp c_8)) (of_decide_eq_false (bI_0.mp c_21)) (of_decide_eq_false (bI_0.mp c_34))
        refine J_iconst (nx := 42) (i := -1) (v := -1) (by decide) dX12_readRuleLine_41 rfl ?_
        refine JcV2 (R' := rm (0) 0 0) (nx := 45) dX12_readRuleLine_42 rfl ml_X12_keepsAt lk_X12_204 iv_X12_keepsAt rfl rfl ⟨(Nat.le_of_ble_eq_true rfl), (Nat.le_of_ble_eq_true rfl)⟩ (Nat.le_of_ble_eq_true rfl) ⟨rfl, rfl⟩ (ct_m_keepsAt _ ((1310 + 861 * 5 + 1 + 5 * ln)) (by omega) _) ?_
        refine J_if_eq (nx := 48) (tgt := 66) dX12_readRuleLine_45 rfl (by decide) (fun c_45 => ?_) (fun c_45 => ?_)
        · refine J_iconst (nx := 67) (i := 0) (v := 0) (by decide) dX12_readRuleLine_66 rfl ?_
          exact Jrz dX12_readRuleLine_67 rfl (by decide) (Nat.zero_le _) (Nat.zero_le _) (RXi.of (by
  first
    | (rw [pDeed_n hdn]
       exact ⟨RFq.rf.U (Nat.le_refl _), rfl, hb⟩)
    | (obtain ⟨e, he, hb3, hf⟩ := p_56.no c_59
       rw [pRule_y hdm hi.1, he]
       exact ⟨hf49.R hln hf, rfl, hb3⟩)
    | (rcases p_49.2.2 with ⟨h1, h2, h3⟩ | ⟨h1, h2⟩
       · rw [h2] at c_52; exact absurd c_52 (by decide)
       · rw [pRule_if hdm h1]
         exact ⟨hfk.B p_49.1, rfl, p_49.2.1⟩)))
        · exact absurd c_45 (by decide)
      · have hw := of_decide_eq_true (bI_n0.mp c_34)
        have hdd := pDeed_11 hw
        have hq1 := leN_nx hn4 (by decide) hw h
        have hbb := wrd_in (by decide) hw
        have hnx := obNxt_le n C b hbb.1
        refine J_iconst (nx := 38) (i := 2) (v := 2) (by decide) dX12_readRuleLine_37 rfl ?_
        refine J_goto (nx := 42) dX12_readRuleLine_38 (by decide) ?_
        refine JcV2 (R' := rm (0) 0 0) (nx := 45) dX12_readRuleLine_42 rfl ml_X12_keepsAt lk_X12_204 iv_X12_keepsAt rfl rfl ⟨(Nat.le_of_ble_eq_true rfl), (Nat.le_of_ble_eq_true rfl)⟩ (Nat.le_of_ble_eq_true rfl) ⟨rfl, rfl⟩ (ct_m_keepsAt _ ((1310 + 861 * 5 + 1 + 5 * ln)) (by omega) _) ?_
        refine J_if_eq (nx := 48) (tgt := 66) dX12_readRuleLine_45 rfl (by decide) (fun c_45 => ?_) (fun c_45 => ?_)
        · exact absurd c_45 (by decide)
        · obtain ⟨gk, hgk⟩ : ∃ gk, gk = wU g (1310 + 861 * 5 + 1 + 5 * ln) 2 := ⟨_, rfl⟩
          rw [← hgk]
          have hQk : MLq n C (obNxt n C b) gk := by rw [hgk]; exact hq1
          have hqk : SQ cs gk := by rw [hgk]; exact hq.U (by unfold stI; omega)
          have hfk : RFq ln g gk := by rw [hgk]; exact RFq.rf.U (Nat.le_refl _)
          have hkk : gF gk 63 13 = kdI true := by rw [hgk]; exact hkd
          have hdk : gF gk 63 9 = nI 0 := by rw [hgk]; exact hd
          have hck : gA gk 64 (lC ln) = pDeed (obT n C) b := by rw [hgk, hdd]; exact wU_at
          have hc2 : gA gk 64 (lC ln + 2) = gA g 64 (lC ln + 2) := by rw [hgk]; exact wU_ne (by unfold lC; omega)
          have hc3 : gA gk 64 (lC ln + 3) = gA g 64 (lC ln + 3) := by rw [hgk]; exact wU_ne (by unfold lC; omega)
          have hdm : ¬ pDeed (obT n C) b = -1 := by rw [hdd]; decide
          refine J_aload_n (nx := 49) dX12_readRuleLine_48 rfl rfl ?_
          refine JiV0 (R' := rm (5) 0 0) (nx := 52) dX12_readRuleLine_49 rfl ml_X12_hasIf lk_X12_215 iv_X12_hasIf rfl rfl ⟨(Nat.le_of_ble_eq_true rfl), (Nat.le_of_ble_eq_true rfl)⟩ (Nat.le_of_ble_eq_true rfl) ⟨rfl, rfl⟩ (ct_m_hasIf gk n C (obNxt n C b) hQk) (fun x_49 g_49 p_49 => ?_)
          refine J_if_eq (nx := 55) (tgt := 66) dX12_readRuleLine_52 rfl (by decide) (fun c_52 => ?_) (fun c_52 => ?_)
          · refine J_iconst (nx := 67) (i := 0) (v := 0) (by decide) dX12_readRuleLine_66 rfl ?_
            exact Jrz dX12_readRuleLine_67 rfl (by decide) (Nat.zero_le _) (Nat.zero_le _) (RXi.of (by
  first
    | (rw [pDeed_n hdn]
       exact ⟨RFq.rf.U (Nat.le_refl _), rfl, hb⟩)
    | (obtain ⟨e, he, hb3, hf⟩ := p_56.no c_59
       rw [pRule_y hdm hi.1, he]
       exact ⟨hf49.R hln hf, rfl, hb3⟩)
    | (rcases p_49.2.2 with ⟨h1, h2, h3⟩ | ⟨h1, h2⟩
       · rw [h2] at c_52; exact absurd c_52 (by decide)
       · rw [pRule_if hdm h1]
         exact ⟨hfk.B p_49.1, rfl, p_49.2.1⟩)))
          · have hi : obWrd n C (obNxt n C b) = 8 ∧ MLq n C (obNxt n C (obNxt n C b)) g_49 := by
              rcases p_49.2.2 with ⟨h1, h2, h3⟩ | ⟨h1, h2⟩
              · exact ⟨h1, h3⟩
              · exact absurd h2 c_52
            have hb2 := (wrd_in (by decide) hi.1).1
            have hnx2 := obNxt_le n C (obNxt n C b) hb2
            have hf49 := hfk.B p_49.1
            have hS49 : RSt n C (obNxt n C (obNxt n C b)) cs true g_49 := ⟨hi.2, hqk.B p_49.1, (p_49.1.1 63 13 rfl).trans hkk⟩
            refine J_aload_n (nx := 56) dX12_readRuleLine_55 rfl rfl ?_
            refine JiV0 (R' := rm (28) 0 0) (nx := 59) dX12_readRuleLine_56 rfl ml_X12_readCond lk_X12_162 iv_X12_readCond rfl rfl ⟨(Nat.le_of_ble_eq_true rfl), (Nat.le_of_ble_eq_true rfl)⟩ (Nat.le_of_ble_eq_true rfl) ⟨rfl, rfl⟩ (ct_m_cond g_49 n C (obNxt n C (obNxt n C b)) cs true hS49 (by omega) ((p_49.1.1 63 9 rfl).trans hdk)) (fun x_56 g_56 p_56 => ?_)
            refine J_if_eq (nx := 62) (tgt := 66) dX12_readRuleLine_59 rfl (by decide) (fun c_59 => ?_) (fun c_59 => ?_)
            · refine J_iconst (nx := 67) (i := 0) (v := 0) (by decide) dX12_readRuleLine_66 rfl ?_
              exact Jrz dX12_readRuleLine_67 rfl (by decide) (Nat.zero_le _) (Nat.zero_le _) (RXi.of (by
  first
    | (rw [pDeed_n hdn]
       exact ⟨RFq.rf.U (Nat.le_refl _), rfl, hb⟩)
    | (obtain ⟨e, he, hb3, hf⟩ := p_56.no c_59
       rw [pRule_y hdm hi.1, he]
       exact ⟨hf49.R hln hf, rfl, hb3⟩)
    | (rcases p_49.2.2 with ⟨h1, h2, h3⟩ | ⟨h1, h2⟩
       · rw [h2] at c_52; exact absurd c_52 (by decide)
       · rw [pRule_if hdm h1]
         exact ⟨hfk.B p_49.1, rfl, p_49.2.1⟩)))
            · refine J_iconst (nx := 63) (i := 1) (v := 1) (by decide) dX12_readRuleLine_62 rfl ?_
              refine J_goto (nx := 67) dX12_readRuleLine_63 (by decide) ?_
              obtain ⟨q, he, hq2, hq3, hq4, hf⟩ := p_56.yes c_59
              have hr2 := hf.2
              exact Jrz dX12_readRuleLine_67 rfl (by decide) (Nat.zero_le _) (Nat.zero_le _) (RXi.of (by
  rw [pRule_y hdm hi.1, he]
  have e : ∀ i, i < stI 0 → gA g_56 64 i = gA gk 64 i := fun i hi => (hf.2 i hi).trans (congrFun (p_49.1.2.1 64 rfl) i)
  exact ⟨hf49.R hln hf, rfl, hq2, hq3, (e _ (by unfold lC stI; omega)).trans hck, (e _ (by unfold lC stI; omega)).trans hc2, (e _ (by unfold lC stI; omega)).trans hc3⟩))
    · have hw := of_decide_eq_true (bI_n0.mp c_21)
      have hdd := pDeed_10 hw
      have hq1 := leN_nx hn4 (by decide) hw h
      have hbb := wrd_in (by decide) hw
      have hnx := obNxt_le n C b hbb.1
      refine J_iconst (nx := 25) (i := 1) (v := 1) (by decide) dX12_readRuleLine_24 rfl ?_
      refine J_goto (nx := 42) dX12_readRuleLine_25 (by decide) ?_
      refine JcV2 (R' := rm (0) 0 0) (nx := 45) dX12_readRuleLine_42 rfl ml_X12_keepsAt lk_X12_204 iv_X12_keepsAt rfl rfl ⟨(Nat.le_of_ble_eq_true rfl), (Nat.le_of_ble_eq_true rfl)⟩ (Nat.le_of_ble_eq_true rfl) ⟨rfl, rfl⟩ (ct_m_keepsAt _ ((1310 + 861 * 5 + 1 + 5 * ln)) (by omega) _) ?_
      refine J_if_eq (nx := 48) (tgt := 66) dX12_readRuleLine_45 rfl (by decide) (fun c_45 => ?_) (fun c_45 => ?_)
      · exact absurd c_45 (by decide)
      · obtain ⟨gk, hgk⟩ : ∃ gk, gk = wU g (1310 + 861 * 5 + 1 + 5 * ln) 1 := ⟨_, rfl⟩
        rw [← hgk]
        have hQk : MLq n C (obNxt n C b) gk := by rw [hgk]; exact hq1
        have hqk : SQ cs gk := by rw [hgk]; exact hq.U (by unfold stI; omega)
        have hfk : RFq ln g gk := by rw [hgk]; exact RFq.rf.U (Nat.le_refl _)
        have hkk : gF gk 63 13 = kdI true := by rw [hgk]; exact hkd
        have hdk : gF gk 63 9 = nI 0 := by rw [hgk]; exact hd
        have hck : gA gk 64 (lC ln) = pDeed (obT n C) b := by rw [hgk, hdd]; exact wU_at
        have hc2 : gA gk 64 (lC ln + 2) = gA g 64 (lC ln + 2) := by rw [hgk]; exact wU_ne (by unfold lC; omega)
        have hc3 : gA gk 64 (lC ln + 3) = gA g 64 (lC ln + 3) := by rw [hgk]; exact wU_ne (by unfold lC; omega)
        have hdm : ¬ pDeed (obT n C) b = -1 := by rw [hdd]; decide
        refine J_aload_n (nx := 49) dX12_readRuleLine_48 rfl rfl ?_
        refine JiV0 (R' := rm (5) 0 0) (nx := 52) dX12_readRuleLine_49 rfl ml_X12_hasIf lk_X12_215 iv_X12_hasIf rfl rfl ⟨(Nat.le_of_ble_eq_true rfl), (Nat.le_of_ble_eq_true rfl)⟩ (Nat.le_of_ble_eq_true rfl) ⟨rfl, rfl⟩ (ct_m_hasIf gk n C (obNxt n C b) hQk) (fun x_49 g_49 p_49 => ?_)
        refine J_if_eq (nx := 55) (tgt := 66) dX12_readRuleLine_52 rfl (by decide) (fun c_52 => ?_) (fun c_52 => ?_)
        · refine J_iconst (nx := 67) (i := 0) (v := 0) (by decide) dX12_readRuleLine_66 rfl ?_
          exact Jrz dX12_readRuleLine_67 rfl (by decide) (Nat.zero_le _) (Nat.zero_le _) (RXi.of (by
  first
    | (rw [pDeed_n hdn]
       exact ⟨RFq.rf.U (Nat.le_refl _), rfl, hb⟩)
    | (obtain ⟨e, he, hb3, hf⟩ := p_56.no c_59
       rw [pRule_y hdm hi.1, he]
       exact ⟨hf49.R hln hf, rfl, hb3⟩)
    | (rcases p_49.2.2 with ⟨h1, h2, h3⟩ | ⟨h1, h2⟩
       · rw [h2] at c_52; exact absurd c_52 (by decide)
       · rw [pRule_if hdm h1]
         exact ⟨hfk.B p_49.1, rfl, p_49.2.1⟩)))
        · have hi : obWrd n C (obNxt n C b) = 8 ∧ MLq n C (obNxt n C (obNxt n C b)) g_49 := by
            rcases p_49.2.2 with ⟨h1, h2, h3⟩ | ⟨h1, h2⟩
            · exact ⟨h1, h3⟩
            · exact absurd h2 c_52
          have hb2 := (wrd_in (by decide) hi.1).1
          have hnx2 := obNxt_le n C (obNxt n C b) hb2
          have hf49 := hfk.B p_49.1
          have hS49 : RSt n C (obNxt n C (obNxt n C b)) cs true g_49 := ⟨hi.2, hqk.B p_49.1, (p_49.1.1 63 13 rfl).trans hkk⟩
          refine J_aload_n (nx := 56) dX12_readRuleLine_55 rfl rfl ?_
          refine JiV0 (R' := rm (28) 0 0) (nx := 59) dX12_readRuleLine_56 rfl ml_X12_readCond lk_X12_162 iv_X12_readCond rfl rfl ⟨(Nat.le_of_ble_eq_true rfl), (Nat.le_of_ble_eq_true rfl)⟩ (Nat.le_of_ble_eq_true rfl) ⟨rfl, rfl⟩ (ct_m_cond g_49 n C (obNxt n C (obNxt n C b)) cs true hS49 (by omega) ((p_49.1.1 63 9 rfl).trans hdk)) (fun x_56 g_56 p_56 => ?_)
          refine J_if_eq (nx := 62) (tgt := 66) dX12_readRuleLine_59 rfl (by decide) (fun c_59 => ?_) (fun c_59 => ?_)
          · refine J_iconst (nx := 67) (i := 0) (v := 0) (by decide) dX12_readRuleLine_66 rfl ?_
            exact Jrz dX12_readRuleLine_67 rfl (by decide) (Nat.zero_le _) (Nat.zero_le _) (RXi.of (by
  first
    | (rw [pDeed_n hdn]
       exact ⟨RFq.rf.U (Nat.le_refl _), rfl, hb⟩)
    | (obtain ⟨e, he, hb3, hf⟩ := p_56.no c_59
       rw [pRule_y hdm hi.1, he]
       exact ⟨hf49.R hln hf, rfl, hb3⟩)
    | (rcases p_49.2.2 with ⟨h1, h2, h3⟩ | ⟨h1, h2⟩
       · rw [h2] at c_52; exact absurd c_52 (by decide)
       · rw [pRule_if hdm h1]
         exact ⟨hfk.B p_49.1, rfl, p_49.2.1⟩)))
          · refine J_iconst (nx := 63) (i := 1) (v := 1) (by decide) dX12_readRuleLine_62 rfl ?_
            refine J_goto (nx := 67) dX12_readRuleLine_63 (by decide) ?_
            obtain ⟨q, he, hq2, hq3, hq4, hf⟩ := p_56.yes c_59
            have hr2 := hf.2
            exact Jrz dX12_readRuleLine_67 rfl (by decide) (Nat.zero_le _) (Nat.zero_le _) (RXi.of (by
  rw [pRule_y hdm hi.1, he]
  have e : ∀ i, i < stI 0 → gA g_56 64 i = gA gk 64 i := fun i hi => (hf.2 i hi).trans (congrFun (p_49.1.2.1 64 rfl) i)
  exact ⟨hf49.R hln hf, rfl, hq2, hq3, (e _ (by unfold lC stI; omega)).trans hck, (e _ (by unfold lC stI; omega)).trans hc2, (e _ (by unfold lC stI; omega)).trans hc3⟩))
  · have hw := of_decide_eq_true (bI_n0.mp c_8)
    have hdd := pDeed_9 hw
    have hq1 := leN_nx hn4 (by decide) hw h
    have hbb := wrd_in (by decide) hw
    have hnx := obNxt_le n C b hbb.1
    refine J_iconst (nx := 12) (i := 0) (v := 0) (by decide) dX12_readRuleLine_11 rfl ?_
    refine J_goto (nx := 42) dX12_readRuleLine_12 (by decide) ?_
    refine JcV2 (R' := rm (0) 0 0) (nx := 45) dX12_readRuleLine_42 rfl ml_X12_keepsAt lk_X12_204 iv_X12_keepsAt rfl rfl ⟨(Nat.le_of_ble_eq_true rfl), (Nat.le_of_ble_eq_true rfl)⟩ (Nat.le_of_ble_eq_true rfl) ⟨rfl, rfl⟩ (ct_m_keepsAt _ ((1310 + 861 * 5 + 1 + 5 * ln)) (by omega) _) ?_
    refine J_if_eq (nx := 48) (tgt := 66) dX12_readRuleLine_45 rfl (by decide) (fun c_45 => ?_) (fun c_45 => ?_)
    · exact absurd c_45 (by decide)
    · obtain ⟨gk, hgk⟩ : ∃ gk, gk = wU g (1310 + 861 * 5 + 1 + 5 * ln) 0 := ⟨_, rfl⟩
      rw [← hgk]
      have hQk : MLq n C (obNxt n C b) gk := by rw [hgk]; exact hq1
      have hqk : SQ cs gk := by rw [hgk]; exact hq.U (by unfold stI; omega)
      have hfk : RFq ln g gk := by rw [hgk]; exact RFq.rf.U (Nat.le_refl _)
      have hkk : gF gk 63 13 = kdI true := by rw [hgk]; exact hkd
      have hdk : gF gk 63 9 = nI 0 := by rw [hgk]; exact hd
      have hck : gA gk 64 (lC ln) = pDeed (obT n C) b := by rw [hgk, hdd]; exact wU_at
      have hc2 : gA gk 64 (lC ln + 2) = gA g 64 (lC ln + 2) := by rw [hgk]; exact wU_ne (by unfold lC; omega)
      have hc3 : gA gk 64 (lC ln + 3) = gA g 64 (lC ln + 3) := by rw [hgk]; exact wU_ne (by unfold lC; omega)
      have hdm : ¬ pDeed (obT n C) b = -1 := by rw [hdd]; decide
      refine J_aload_n (nx := 49) dX12_readRuleLine_48 rfl rfl ?_
      refine JiV0 (R' := rm (5) 0 0) (nx := 52) dX12_readRuleLine_49 rfl ml_X12_hasIf lk_X12_215 iv_X12_hasIf rfl rfl ⟨(Nat.le_of_ble_eq_true rfl), (Nat.le_of_ble_eq_true rfl)⟩ (Nat.le_of_ble_eq_true rfl) ⟨rfl, rfl⟩ (ct_m_hasIf gk n C (obNxt n C b) hQk) (fun x_49 g_49 p_49 => ?_)
      refine J_if_eq (nx := 55) (tgt := 66) dX12_readRuleLine_52 rfl (by decide) (fun c_52 => ?_) (fun c_52 => ?_)
      · refine J_iconst (nx := 67) (i := 0) (v := 0) (by decide) dX12_readRuleLine_66 rfl ?_
        exact Jrz dX12_readRuleLine_67 rfl (by decide) (Nat.zero_le _) (Nat.zero_le _) (RXi.of (by
  first
    | (rw [pDeed_n hdn]
       exact ⟨RFq.rf.U (Nat.le_refl _), rfl, hb⟩)
    | (obtain ⟨e, he, hb3, hf⟩ := p_56.no c_59
       rw [pRule_y hdm hi.1, he]
       exact ⟨hf49.R hln hf, rfl, hb3⟩)
    | (rcases p_49.2.2 with ⟨h1, h2, h3⟩ | ⟨h1, h2⟩
       · rw [h2] at c_52; exact absurd c_52 (by decide)
       · rw [pRule_if hdm h1]
         exact ⟨hfk.B p_49.1, rfl, p_49.2.1⟩)))
      · have hi : obWrd n C (obNxt n C b) = 8 ∧ MLq n C (obNxt n C (obNxt n C b)) g_49 := by
          rcases p_49.2.2 with ⟨h1, h2, h3⟩ | ⟨h1, h2⟩
          · exact ⟨h1, h3⟩
          · exact absurd h2 c_52
        have hb2 := (wrd_in (by decide) hi.1).1
        have hnx2 := obNxt_le n C (obNxt n C b) hb2
        have hf49 := hfk.B p_49.1
        have hS49 : RSt n C (obNxt n C (obNxt n C b)) cs true g_49 := ⟨hi.2, hqk.B p_49.1, (p_49.1.1 63 13 rfl).trans hkk⟩
        refine J_aload_n (nx := 56) dX12_readRuleLine_55 rfl rfl ?_
        refine JiV0 (R' := rm (28) 0 0) (nx := 59) dX12_readRuleLine_56 rfl ml_X12_readCond lk_X12_162 iv_X12_readCond rfl rfl ⟨(Nat.le_of_ble_eq_true rfl), (Nat.le_of_ble_eq_true rfl)⟩ (Nat.le_of_ble_eq_true rfl) ⟨rfl, rfl⟩ (ct_m_cond g_49 n C (obNxt n C (obNxt n C b)) cs true hS49 (by omega) ((p_49.1.1 63 9 rfl).trans hdk)) (fun x_56 g_56 p_56 => ?_)
        refine J_if_eq (nx := 62) (tgt := 66) dX12_readRuleLine_59 rfl (by decide) (fun c_59 => ?_) (fun c_59 => ?_)
        · refine J_iconst (nx := 67) (i := 0) (v := 0) (by decide) dX12_readRuleLine_66 rfl ?_
          exact Jrz dX12_readRuleLine_67 rfl (by decide) (Nat.zero_le _) (Nat.zero_le _) (RXi.of (by
  first
    | (rw [pDeed_n hdn]
       exact ⟨RFq.rf.U (Nat.le_refl _), rfl, hb⟩)
    | (obtain ⟨e, he, hb3, hf⟩ := p_56.no c_59
       rw [pRule_y hdm hi.1, he]
       exact ⟨hf49.R hln hf, rfl, hb3⟩)
    | (rcases p_49.2.2 with ⟨h1, h2, h3⟩ | ⟨h1, h2⟩
       · rw [h2] at c_52; exact absurd c_52 (by decide)
       · rw [pRule_if hdm h1]
         exact ⟨hfk.B p_49.1, rfl, p_49.2.1⟩)))
        · refine J_iconst (nx := 63) (i := 1) (v := 1) (by decide) dX12_readRuleLine_62 rfl ?_
          refine J_goto (nx := 67) dX12_readRuleLine_63 (by decide) ?_
          obtain ⟨q, he, hq2, hq3, hq4, hf⟩ := p_56.yes c_59
          have hr2 := hf.2
          exact Jrz dX12_readRuleLine_67 rfl (by decide) (Nat.zero_le _) (Nat.zero_le _) (RXi.of (by
  rw [pRule_y hdm hi.1, he]
  have e : ∀ i, i < stI 0 → gA g_56 64 i = gA gk 64 i := fun i hi => (hf.2 i hi).trans (congrFun (p_49.1.2.1 64 rfl) i)
  exact ⟨hf49.R hln hf, rfl, hq2, hq3, (e _ (by unfold lC stI; omega)).trans hck, (e _ (by unfold lC stI; omega)).trans hc2, (e _ (by unfold lC stI; omega)).trans hc3⟩))

theorem pIf_no {n : Nat} {C : Nat → Int32} {b : Nat} {cs : List Int32} (h : ¬ obWrd n C b = 8) : pIf (obT n C) b cs = .inr (b, cs) := if_neg h
theorem pIf_y {n : Nat} {C : Nat → Int32} {b : Nat} {cs : List Int32} (h : obWrd n C b = 8) : pIf (obT n C) b cs = pCond (obT n C) false 6 (obNxt n C b) cs := if_pos h
def facM (f old : Int32) : Int32 := if f = -1 then old else nI (cv (10000 + f)).1
def PLg (n : Nat) (C : Nat → Int32) (ln : Nat) (g : GS) (r : LR) (x : Int32) (g2 : GS) : Prop := RFq ln g g2 ∧ (match r with
  | .inl e => x = 0 ∧ gF g2 63 8 = nI e
  | .inr q => x = 1 ∧ MLq n C q.1 g2 ∧ SQ q.2.2 g2 ∧ (∃ v, v ≤ 9999 ∧ gA g2 64 (lC ln + 1) = nI v ∧ ((gA g2 64 (lC ln) = 0 ∧ q.2.1.1 = nI v) ∨ (gA g2 64 (lC ln) = 1 ∧ q.2.1.1 = -(nI v)))) ∧ gA g2 64 (lC ln + 2) = facM q.2.1.2.1 (gA g 64 (lC ln + 2)) ∧ gA g2 64 (lC ln + 3) = gA g 64 (lC ln + 3))
set_option maxRecDepth 100000 in
set_option maxHeartbeats 4000000 in
theorem sg_m_gi (n0 : Nat) (g : GS) (n : Nat) (C : Nat → Int32) (b : Nat) (cs : List Int32) (hQ : MLq n C b g) (hq : SQ cs g) (hkd : gF g 63 13 = kdI false) (hd : gF g 63 9 = nI 0) (hl : cs.length ≤ b) (k : Nat) : J mX12_readGoalsLine (rm 40 0 0) (RXi (PM n C g (pIf (obT n C) b cs))) n0 83 [some (.ref 63), some (.int (nI k))] [] (Wd g) 0 0 := by
  refine J_aload_n (nx := 84) dX12_readGoalsLine_83 rfl rfl ?_
  refine J_ldcS (nx := 86) (j := 8) dX12_readGoalsLine_84 rfl rfl (by decide) (by decide) ?_
  refine JiV1 (R' := rm (5) 0 0) (nx := 89) dX12_readGoalsLine_86 rfl ml_X12_passes lk_X12_167 iv_X12_passes rfl rfl ⟨(Nat.le_of_ble_eq_true rfl), (Nat.le_of_ble_eq_true rfl)⟩ (Nat.le_of_ble_eq_true rfl) ⟨rfl, rfl⟩ (ct_m_passes g n C b hQ 8 (by decide) (by decide)) (fun x_86 g_86 p_86 => ?_)
  refine J_if_eq (nx := 92) (tgt := 99) dX12_readGoalsLine_89 rfl (by decide) (fun c_89 => ?_) (fun c_89 => ?_)
  · refine J_iconst (nx := 100) (i := 1) (v := 1) (by decide) dX12_readGoalsLine_99 rfl ?_
    refine J_goto (nx := 104) dX12_readGoalsLine_100 (by decide) ?_
    exact Jrz dX12_readGoalsLine_104 rfl (by decide) (Nat.zero_le _) (Nat.zero_le _) (RXi.of (by
  rcases p_86.2.2 with ⟨h1, h2, h3⟩ | ⟨h1, h2, h3⟩
  · first
      | (rw [h2] at c_89; exact absurd c_89 (by decide))
      | (obtain ⟨q, he, hq2, hq3, hq4, hf⟩ := p_93.yes c_96
         rw [pIf_y h1, he]
         exact PM.mkY ((RFr.rf.B p_86.1).tr hf) hq2 hq3 (hq4.trans (p_86.1.1 63 9 rfl)))
  · first
      | exact absurd h2 c_89
      | (rw [pIf_no h1]
         exact PM.mkY (RFr.rf.B p_86.1) h3 (hq.B p_86.1) (p_86.1.1 63 9 rfl))))
  · have hs : obWrd n C b = 8 ∧ MLq n C (obNxt n C b) g_86 := by
      rcases p_86.2.2 with ⟨h1, h2, h3⟩ | ⟨h1, h2, h3⟩
      · exact ⟨h1, h3⟩
      · exact absurd h2 c_89
    have hbb := wrd_in (by decide) hs.1
    have hnx := obNxt_le n C b hbb.1
    refine J_aload_n (nx := 93) dX12_readGoalsLine_92 rfl rfl ?_
    refine JiV0 (R' := rm (28) 0 0) (nx := 96) dX12_readGoalsLine_93 rfl ml_X12_readCond lk_X12_162 iv_X12_readCond rfl rfl ⟨(Nat.le_of_ble_eq_true rfl), (Nat.le_of_ble_eq_true rfl)⟩ (Nat.le_of_ble_eq_true rfl) ⟨rfl, rfl⟩ (ct_m_cond g_86 n C (obNxt n C b) cs false ⟨hs.2, hq.B p_86.1, (p_86.1.1 63 13 rfl).trans hkd⟩ (by omega) ((p_86.1.1 63 9 rfl).trans hd)) (fun x_93 g_93 p_93 => ?_)
    refine J_if_eq (nx := 99) (tgt := 103) dX12_readGoalsLine_96 rfl (by decide) (fun c_96 => ?_) (fun c_96 => ?_)
    · refine J_iconst (nx := 104) (i := 0) (v := 0) (by decide) dX12_readGoalsLine_103 rfl ?_
      obtain ⟨e, he, hb3, hf⟩ := p_93.no c_96
      exact Jrz dX12_readGoalsLine_104 rfl (by decide) (Nat.zero_le _) (Nat.zero_le _) (RXi.of (by rw [pIf_y hs.1, he]; exact PM.mkN ((RFr.rf.B p_86.1).tr hf) hb3))
    · refine J_iconst (nx := 100) (i := 1) (v := 1) (by decide) dX12_readGoalsLine_99 rfl ?_
      refine J_goto (nx := 104) dX12_readGoalsLine_100 (by decide) ?_
      exact Jrz dX12_readGoalsLine_104 rfl (by decide) (Nat.zero_le _) (Nat.zero_le _) (RXi.of (by
  rcases p_86.2.2 with ⟨h1, h2, h3⟩ | ⟨h1, h2, h3⟩
  · first
      | (rw [h2] at c_89; exact absurd c_89 (by decide))
      | (obtain ⟨q, he, hq2, hq3, hq4, hf⟩ := p_93.yes c_96
         rw [pIf_y h1, he]
         exact PM.mkY ((RFr.rf.B p_86.1).tr hf) hq2 hq3 (hq4.trans (p_86.1.1 63 9 rfl)))
  · first
      | exact absurd h2 c_89
      | (rw [pIf_no h1]
         exact PM.mkY (RFr.rf.B p_86.1) h3 (hq.B p_86.1) (p_86.1.1 63 9 rfl))))

/-- behind the factor -/
theorem PLg.of {n : Nat} {C : Nat → Int32} {ln b3 : Nat} {cs : List Int32} {g g1 g2 : GS} {v : Nat} {f x : Int32} {ad : Bool} (hln : ln < 12) (hf : RFq ln g g1) (hv : v ≤ 9999) (h0 : gA g1 64 (lC ln) = if ad = true then 0 else 1) (h1 : gA g1 64 (lC ln + 1) = nI v) (h2 : gA g1 64 (lC ln + 2) = facM f (gA g 64 (lC ln + 2))) (h3 : gA g1 64 (lC ln + 3) = gA g 64 (lC ln + 3)) (hp : PM n C g1 (pIf (obT n C) b3 cs) x g2) (r : LR) (hr : r = (match pIf (obT n C) b3 cs with
      | .inl e => (Sum.inl e : LR)
      | .inr w => .inr (w.1, (if ad = true then nI v else -(nI v), f, cs.length, w.2.length), w.2))) : PLg n C ln g r x g2 := by
  obtain ⟨p1, p2⟩ := hp
  refine ⟨hf.R hln p1, ?_⟩
  rw [hr]
  cases hc : pIf (obT n C) b3 cs with
  | inl e => rw [hc] at p2; exact p2
  | inr w =>
    rw [hc] at p2
    have e : ∀ i, i < stI 0 → gA g2 64 i = gA g1 64 i := p1.2
    refine ⟨p2.1, p2.2.1, p2.2.2.1, ⟨v, hv, (e _ (by unfold lC stI; omega)).trans h1, ?_⟩, (e _ (by unfold lC stI; omega)).trans h2, (e _ (by unfold lC stI; omega)).trans h3⟩
    cases ad with
    | true => exact Or.inl ⟨(e _ (by unfold lC stI; omega)).trans h0, rfl⟩
    | false => exact Or.inr ⟨(e _ (by unfold lC stI; omega)).trans h0, rfl⟩
theorem pGoal_no {n : Nat} {C : Nat → Int32} {b : Nat} {cs : List Int32} (h : ¬ obWrd n C b = 6) (h2 : ¬ obWrd n C b = 7) : pGoal (obT n C) b cs = .inl b := if_neg (fun z => z.elim h h2)
def goF (n : Nat) (C : Nat → Int32) (ad : Bool) (v b3 : Nat) (f : Int32) (cs : List Int32) : LR := (match pIf (obT n C) b3 cs with
      | .inl e => (Sum.inl e : LR)
      | .inr w => .inr (w.1, (if ad = true then nI v else -(nI v), f, cs.length, w.2.length), w.2))
theorem pGoal_y {n : Nat} {C : Nat → Int32} {b : Nat} {cs : List Int32} {ad : Bool} (h : obWrd n C b = if ad = true then 6 else 7) : pGoal (obT n C) b cs = (match pNum (obT n C) (obNxt n C b) 9999 with
  | .inl e => (Sum.inl e : LR)
  | .inr q => match pFac (obT n C) q.1 with
    | .inl e => .inl e
    | .inr u => goF n C ad q.2 u.1 u.2 cs) := by
  have h6 : obWrd n C b = 6 ∨ obWrd n C b = 7 := by cases ad <;> simp at h <;> omega
  refine (if_pos (show oWrd (obT n C) b = 6 ∨ oWrd (obT n C) b = 7 from h6)).trans ?_
  cases hp : pNum (obT n C) (obNxt n C b) 9999 with
  | inl e =>
    show (match pNum (obT n C) (obNxt n C b) 9999 with | .inl e => (Sum.inl e : LR) | .inr q => _) = _
    rw [hp]
  | inr q =>
    show (match pNum (obT n C) (obNxt n C b) 9999 with | .inl e => (Sum.inl e : LR) | .inr q => _) = _
    rw [hp]
    show (match pFac (obT n C) q.1 with | .inl e => (Sum.inl e : LR) | .inr u => _) = (match pFac (obT n C) q.1 with | .inl e => (Sum.inl e : LR) | .inr u => goF n C ad q.2 u.1 u.2 cs)
    cases hf : pFac (obT n C) q.1 with
    | inl e => rfl
    | inr u =>
      show (match pIf (obT n C) u.1 cs with | .inl e => (Sum.inl e : LR) | .inr v => .inr (v.1, (if obWrd n C b = 6 then nI q.2 else -(nI q.2), u.2, cs.length, v.2.length), v.2)) = goF n C ad q.2 u.1 u.2 cs
      unfold goF
      cases pIf (obT n C) u.1 cs with
      | inl e => rfl
      | inr v =>
        show (Sum.inr (v.1, (if obWrd n C b = 6 then nI q.2 else -(nI q.2), u.2, cs.length, v.2.length), v.2) : LR) = Sum.inr (v.1, (if ad = true then nI q.2 else -(nI q.2), u.2, cs.length, v.2.length), v.2)
        rw [h]
        cases ad <;> rfl
theorem kpV_pos {x : Int32} (h : ¬ kpV x = 0) : ¬ x < 0 := fun z => h (if_pos z)
theorem kpV_neg {x : Int32} (h : kpV x = 0) : x < 0 := by
  unfold kpV at h
  by_cases c : x < 0
  · exact c
  · rw [if_neg c] at h; exact absurd h (by decide)
theorem pFac_no {n : Nat} {C : Nat → Int32} {b : Nat} (h : ¬ obSgn n C b = 42) : pFac (obT n C) b = .inr (b, -1) := if_neg h
theorem pFac_n {n : Nat} {C : Nat → Int32} {b : Nat} (h : obSgn n C b = 42) (h2 : pfW false (obWrd n C (obNxt n C b)) = -1) : pFac (obT n C) b = .inl (obNxt n C b) := (if_pos h).trans (if_pos h2)
theorem pFac_y {n : Nat} {C : Nat → Int32} {b : Nat} (h : obSgn n C b = 42) (h2 : ¬ pfW false (obWrd n C (obNxt n C b)) = -1) : pFac (obT n C) b = .inr (obNxt n C (obNxt n C b), pfW false (obWrd n C (obNxt n C b))) := (if_pos h).trans (if_neg h2)
theorem pGoal_1 {n : Nat} {C : Nat → Int32} {b e : Nat} {cs : List Int32} {ad : Bool} (h : obWrd n C b = if ad = true then 6 else 7) (h2 : pNum (obT n C) (obNxt n C b) 9999 = .inl e) : pGoal (obT n C) b cs = .inl e := by rw [pGoal_y h, h2]
theorem pGoal_2 {n : Nat} {C : Nat → Int32} {b b1 v e : Nat} {cs : List Int32} {ad : Bool} (h : obWrd n C b = if ad = true then 6 else 7) (h2 : pNum (obT n C) (obNxt n C b) 9999 = .inr (b1, v)) (h3 : pFac (obT n C) b1 = .inl e) : pGoal (obT n C) b cs = .inl e := by
  rw [pGoal_y h, h2]
  show (match pFac (obT n C) b1 with | .inl e => (Sum.inl e : LR) | .inr u => goF n C ad v u.1 u.2 cs) = _
  rw [h3]
theorem pGoal_3 {n : Nat} {C : Nat → Int32} {b b1 b3 v : Nat} {f : Int32} {cs : List Int32} {ad : Bool} (h : obWrd n C b = if ad = true then 6 else 7) (h2 : pNum (obT n C) (obNxt n C b) 9999 = .inr (b1, v)) (h3 : pFac (obT n C) b1 = .inr (b3, f)) : pGoal (obT n C) b cs = goF n C ad v b3 f cs := by
  rw [pGoal_y h, h2]
  show (match pFac (obT n C) b1 with | .inl e => (Sum.inl e : LR) | .inr u => goF n C ad v u.1 u.2 cs) = _
  rw [h3]
set_option maxRecDepth 100000 in
set_option maxHeartbeats 4000000 in
theorem ct_m_goalLine (g : GS) (n : Nat) (C : Nat → Int32) (b : Nat) (h : MPt n C (leN n C b) g) (hbn : b ≤ n) (hb : gF g 63 8 = nI b) (cs : List Int32) (hq : SQ cs g) (hd : gF g 63 9 = 0) (hl : cs.length ≤ b) (ln : Nat) (hln : ln < 12) (hkd : gF g 63 13 = kdI false) : Ct mX12_readGoalsLine (rm 40 0 0) [.ref 63, .int (nI (1310 + 861 * 5 + 1 + 5 * ln))] (Wd g) (RXi (PLg n C ln g (pGoal (obT n C) b cs))) := by
  refine Ct.of (by decide +kernel) (Nat.le_of_ble_eq_true rfl) ?_
  show J _ _ _ _ 0 [some (.ref 63), some (.int (nI (1310 + 861 * 5 + 1 + 5 * ln)))] [] _ 0 0
  have hn4 := h.2.1
  have hlel := leN_le (C := C) hbn
  refine J_aload_n (nx := 1) dX12_readGoalsLine_0 rfl rfl ?_
  refine J_iload_n (nx := 2) dX12_readGoalsLine_1 rfl rfl ?_
  refine J_aload_n (nx := 3) dX12_readGoalsLine_2 rfl rfl ?_
  refine J_ldcS (nx := 5) (j := 6) dX12_readGoalsLine_3 rfl rfl (by decide) (by decide) ?_
  refine JcV1 (R' := rm (4) 0 0) (nx := 8) dX12_readGoalsLine_5 rfl ml_X12_isWord lk_X12_113 iv_X12_isWord rfl rfl ⟨(Nat.le_of_ble_eq_true rfl), (Nat.le_of_ble_eq_true rfl)⟩ (Nat.le_of_ble_eq_true rfl) ⟨rfl, rfl⟩ (ct_m_isWord g n C (leN n C b) b 6 h hb hlel.1 (by decide)) ?_
  rw [iw_wrd hn4 (by decide) (by decide)]
  refine J_if_eq (nx := 11) (tgt := 15) dX12_readGoalsLine_8 rfl (by decide) (fun c_8 => ?_) (fun c_8 => ?_)
  · refine J_aload_n (nx := 16) dX12_readGoalsLine_15 rfl rfl ?_
    refine J_ldcS (nx := 18) (j := 7) dX12_readGoalsLine_16 rfl rfl (by decide) (by decide) ?_
    refine JcV1 (R' := rm (4) 0 0) (nx := 21) dX12_readGoalsLine_18 rfl ml_X12_isWord lk_X12_113 iv_X12_isWord rfl rfl ⟨(Nat.le_of_ble_eq_true rfl), (Nat.le_of_ble_eq_true rfl)⟩ (Nat.le_of_ble_eq_true rfl) ⟨rfl, rfl⟩ (ct_m_isWord g n C (leN n C b) b 7 h hb hlel.1 (by decide)) ?_
    rw [iw_wrd hn4 (by decide) (by decide)]
    refine J_if_eq (nx := 24) (tgt := 28) dX12_readGoalsLine_21 rfl (by decide) (fun c_21 => ?_) (fun c_21 => ?_)
    · have hdn := pGoal_no (cs := cs) (of_decide_eq_false (bI_0.mp c_8)) (of_decide_eq_false (bI_0.mp c_21))
      refine J_iconst (nx := 29) (i := -1) (v := -1) (by decide) dX12_readGoalsLine_28 rfl ?_
      refine JcV2 (R' := rm (0) 0 0) (nx := 32) dX12_readGoalsLine_29 rfl ml_X12_keepsAt lk_X12_204 iv_X12_keepsAt rfl rfl ⟨(Nat.le_of_ble_eq_true rfl), (Nat.le_of_ble_eq_true rfl)⟩ (Nat.le_of_ble_eq_true rfl) ⟨rfl, rfl⟩ (ct_m_keepsAt _ ((1310 + 861 * 5 + 1 + 5 * ln)) (by omega) _) ?_
      refine J_if_eq (nx := 35) (tgt := 52) dX12_readGoalsLine_32 rfl (by decide) (fun c_32 => ?_) (fun c_32 => ?_)
      · refine J_iconst (nx := 53) (i := 0) (v := 0) (by decide) dX12_readGoalsLine_52 rfl ?_
        exact Jrz dX12_readGoalsLine_53 rfl (by decide) (Nat.zero_le _) (Nat.zero_le _) (RXi.of (by rw [hdn]; exact ⟨RFq.rf.U (Nat.le_refl _), rfl, hb⟩))
      · exact absurd c_32 (by decide)
    · have hw := of_decide_eq_true (bI_n0.mp c_21)
      have hwd : obWrd n C b = if false = true then 6 else 7 := hw
      have hq1 := leN_nx hn4 (by decide) hw h
      have hbb := wrd_in (by decide) hw
      have hnx := obNxt_le n C b hbb.1
      refine J_iconst (nx := 25) (i := 1) (v := 1) (by decide) dX12_readGoalsLine_24 rfl ?_
      refine J_goto (nx := 29) dX12_readGoalsLine_25 (by decide) ?_
      refine JcV2 (R' := rm (0) 0 0) (nx := 32) dX12_readGoalsLine_29 rfl ml_X12_keepsAt lk_X12_204 iv_X12_keepsAt rfl rfl ⟨(Nat.le_of_ble_eq_true rfl), (Nat.le_of_ble_eq_true rfl)⟩ (Nat.le_of_ble_eq_true rfl) ⟨rfl, rfl⟩ (ct_m_keepsAt _ ((1310 + 861 * 5 + 1 + 5 * ln)) (by omega) _) ?_
      refine J_if_eq (nx := 35) (tgt := 52) dX12_readGoalsLine_32 rfl (by decide) (fun c_32 => ?_) (fun c_32 => ?_)
      · exact absurd c_32 (by decide)
      · obtain ⟨gk, hgk⟩ : ∃ gk, gk = wU g (1310 + 861 * 5 + 1 + 5 * ln) 1 := ⟨_, rfl⟩
        rw [← hgk]
        have hQk : MLq n C (obNxt n C b) gk := by rw [hgk]; exact hq1
        have hqk : SQ cs gk := by rw [hgk]; exact hq.U (by unfold stI; omega)
        have hfk : RFq ln g gk := by rw [hgk]; exact RFq.rf.U (Nat.le_refl _)
        have hkk : gF gk 63 13 = kdI false := by rw [hgk]; exact hkd
        have hdk : gF gk 63 9 = nI 0 := by rw [hgk]; exact hd
        have hck : gA gk 64 (lC ln) = if false = true then 0 else 1 := by rw [hgk]; exact wU_at
        have hc2 : gA gk 64 (lC ln + 2) = gA g 64 (lC ln + 2) := by rw [hgk]; exact wU_ne (by unfold lC; omega)
        have hc3 : gA gk 64 (lC ln + 3) = gA g 64 (lC ln + 3) := by rw [hgk]; exact wU_ne (by unfold lC; omega)
        refine J_aload_n (nx := 36) dX12_readGoalsLine_35 rfl rfl ?_
        refine J_iload_n (nx := 37) dX12_readGoalsLine_36 rfl rfl ?_
        refine J_iconst (nx := 38) (i := 1) (v := 1) (by decide) dX12_readGoalsLine_37 rfl ?_
        refine J_iadd (nx := 39) dX12_readGoalsLine_38 rfl ?_
        refine J_aload_n (nx := 40) dX12_readGoalsLine_39 rfl rfl ?_
        refine J_sipush (nx := 43) (i := 9999) (v := 9999) (by decide) dX12_readGoalsLine_40 rfl ?_
        refine JiV1 (R' := rm (2) 0 0) (nx := 46) dX12_readGoalsLine_43 rfl ml_X12_number lk_X12_148 iv_X12_number rfl rfl ⟨(Nat.le_of_ble_eq_true rfl), (Nat.le_of_ble_eq_true rfl)⟩ (Nat.le_of_ble_eq_true rfl) ⟨rfl, rfl⟩ (ct_m_num gk n C (obNxt n C b) hQk 9999) (fun x_43 g_43 p_43 => ?_)
        rw [show (nI ((1310 + 861 * 5 + 1 + 5 * ln)) + (1 : Int32)) = nI (((1310 + 861 * 5 + 1 + 5 * ln) + 1)) from (nIa (Eq.refl (nI ((1310 + 861 * 5 + 1 + 5 * ln)))) (nIc 1))]
        refine JcV2 (R' := rm (0) 0 0) (nx := 49) dX12_readGoalsLine_46 rfl ml_X12_keepsAt lk_X12_204 iv_X12_keepsAt rfl rfl ⟨(Nat.le_of_ble_eq_true rfl), (Nat.le_of_ble_eq_true rfl)⟩ (Nat.le_of_ble_eq_true rfl) ⟨rfl, rfl⟩ (ct_m_keepsAt _ (((1310 + 861 * 5 + 1 + 5 * ln) + 1)) (by omega) _) ?_
        refine J_if_ne (nx := 52) (tgt := 54) dX12_readGoalsLine_49 rfl (by decide) (fun c_49 => ?_) (fun c_49 => ?_)
        · obtain ⟨b1, v, he, hx, hv9, hq2, hf1⟩ := p_43.pos (kpV_pos c_49)
          obtain ⟨gm, hgm⟩ : ∃ gm, gm = wU g_43 (1310 + 861 * 5 + 1 + 5 * ln + 1) x_43 := ⟨_, rfl⟩
          rw [← hgm]
          have hQm : MLq n C b1 gm := by rw [hgm]; exact hq2
          have hqm : SQ cs gm := by rw [hgm]; exact (hqk.B hf1).U (by unfold stI; omega)
          have hfm : RFq ln g gm := by rw [hgm]; exact (hfk.B hf1).U (by unfold lC; omega)
          have hkm : gF gm 63 13 = kdI false := by rw [hgm]; exact (hf1.1 63 13 rfl).trans hkk
          have hdm : gF gm 63 9 = nI 0 := by rw [hgm]; exact (hf1.1 63 9 rfl).trans hdk
          have e43 : gA g_43 64 = gA gk 64 := hf1.2.1 64 rfl
          have hm0 : gA gm 64 (lC ln) = gA gk 64 (lC ln) := by rw [hgm]; exact (wU_ne (by unfold lC; omega)).trans (congrFun e43 _)
          have hm1 : gA gm 64 (lC ln + 1) = nI v := by rw [hgm, ← hx]; exact wU_at
          have hm2 : gA gm 64 (lC ln + 2) = gA gk 64 (lC ln + 2) := by rw [hgm]; exact (wU_ne (by unfold lC; omega)).trans (congrFun e43 _)
          have hm3 : gA gm 64 (lC ln + 3) = gA gk 64 (lC ln + 3) := by rw [hgm]; exact (wU_ne (by unfold lC; omega)).trans (congrFun e43 _)
          have hb1 : obNxt n C b < b1 ∧ b1 ≤ n := by
            have := hQm.le
            unfold pNum at he
            by_cases c : oNum (obT n C) (obNxt n C b) < 0
            · rw [if_pos c] at he; cases he
            · rw [if_neg c] at he
              by_cases c2 : oNum (obT n C) (obNxt n C b) ≤ nI 9999
              · rw [if_pos c2] at he
                cases he
                have hlt : obNxt n C b < n := (obT_ok n C hn4).num (fun z => c (by rw [z]; decide))
                exact obNxt_le n C (obNxt n C b) hlt
              · rw [if_neg c2] at he; cases he
          refine J_aload_n (nx := 55) dX12_readGoalsLine_54 rfl rfl ?_
          refine J_bipush (nx := 57) (i := 42) (v := 42) (by decide) dX12_readGoalsLine_55 rfl ?_
          refine JiV1 (R' := rm (2) 0 0) (nx := 60) dX12_readGoalsLine_57 rfl ml_X12_sign lk_X12_155 iv_X12_sign rfl rfl ⟨(Nat.le_of_ble_eq_true rfl), (Nat.le_of_ble_eq_true rfl)⟩ (Nat.le_of_ble_eq_true rfl) ⟨rfl, rfl⟩ (ct_m_sign gm n C b1 hQm 42 (by decide) (by decide) (by decide)) (fun x_57 g_57 p_57 => ?_)
          refine J_if_eq (nx := 63) (tgt := 83) dX12_readGoalsLine_60 rfl (by decide) (fun c_60 => ?_) (fun c_60 => ?_)
          · have hs : ¬ obSgn n C b1 = 42 ∧ MLq n C b1 g_57 := by
              rcases p_57.2.2 with ⟨h1, h2, h3⟩ | ⟨h1, h2, h3⟩
              · rw [h2] at c_60; exact absurd c_60 (by decide)
              · exact ⟨h1, h3⟩
            refine J.post (sg_m_gi _ g_57 n C b1 cs hs.2 (hqm.B p_57.1) ((p_57.1.1 63 13 rfl).trans hkm) ((p_57.1.1 63 9 rfl).trans hdm) (by omega) _) (fun r es q => ?_)
            obtain ⟨x, g2, hr, he2, hx2⟩ := q
            have e57 : ∀ i, gA g_57 64 i = gA gm 64 i := fun i => congrFun (p_57.1.2.1 64 rfl) i
            exact ⟨x, g2, hr, he2, PLg.of (ad := false) (v := v) (f := -1) hln (hfm.B p_57.1) hv9 ((e57 _).trans (hm0.trans hck)) ((e57 _).trans hm1) ((e57 _).trans (hm2.trans hc2)) ((e57 _).trans (hm3.trans hc3)) hx2 _ (pGoal_3 hwd he (pFac_no hs.1))⟩
          · have hs : obSgn n C b1 = 42 ∧ MLq n C (obNxt n C b1) g_57 := by
              rcases p_57.2.2 with ⟨h1, h2, h3⟩ | ⟨h1, h2, h3⟩
              · exact ⟨h1, h3⟩
              · exact absurd h2 c_60
            have hb2n := hs.2.le
            have hb1n := (sgn_in (by decide) hs.1).1
            have hnx1 := obNxt_le n C b1 hb1n
            refine J_aload_n (nx := 64) dX12_readGoalsLine_63 rfl rfl ?_
            refine JvV0 (R' := rm (2) 0 0) (nx := 67) dX12_readGoalsLine_64 rfl ml_X12_letters lk_X12_110 iv_X12_letters rfl rfl ⟨(Nat.le_of_ble_eq_true rfl), (Nat.le_of_ble_eq_true rfl)⟩ (Nat.le_of_ble_eq_true rfl) ⟨rfl, rfl⟩ (ct_m_lettersQ g_57 n C (obNxt n C b1) hs.2) (fun g_64 p_64 => ?_)
            refine J_aload_n (nx := 68) dX12_readGoalsLine_67 rfl rfl ?_
            refine J_iload_n (nx := 69) dX12_readGoalsLine_68 rfl rfl ?_
            refine J_iconst (nx := 70) (i := 2) (v := 2) (by decide) dX12_readGoalsLine_69 rfl ?_
            refine J_iadd (nx := 71) dX12_readGoalsLine_70 rfl ?_
            refine J_aload_n (nx := 72) dX12_readGoalsLine_71 rfl rfl ?_
            refine JcV0 (R' := rm (5) 0 0) (nx := 75) dX12_readGoalsLine_72 rfl ml_X12_factAt lk_X12_141 iv_X12_factAt rfl rfl ⟨(Nat.le_of_ble_eq_true rfl), (Nat.le_of_ble_eq_true rfl)⟩ (Nat.le_of_ble_eq_true rfl) ⟨rfl, rfl⟩ (ct_m_factAt g_64 n C (obNxt n C b1) false p_64.2.1 hb2n.1 p_64.2.2 ((p_64.1.1 63 13 rfl).trans ((p_57.1.1 63 13 rfl).trans hkm))) ?_
            rw [show (nI ((1310 + 861 * 5 + 1 + 5 * ln)) + (2 : Int32)) = nI (((1310 + 861 * 5 + 1 + 5 * ln) + 2)) from (nIa (Eq.refl (nI ((1310 + 861 * 5 + 1 + 5 * ln)))) (nIc 2))]
            refine JcV2 (R' := rm (0) 0 0) (nx := 78) dX12_readGoalsLine_75 rfl ml_X12_keepsAt lk_X12_204 iv_X12_keepsAt rfl rfl ⟨(Nat.le_of_ble_eq_true rfl), (Nat.le_of_ble_eq_true rfl)⟩ (Nat.le_of_ble_eq_true rfl) ⟨rfl, rfl⟩ (ct_m_keepsAt _ (((1310 + 861 * 5 + 1 + 5 * ln) + 2)) (by omega) _) ?_
            refine J_if_ne (nx := 81) (tgt := 83) dX12_readGoalsLine_78 rfl (by decide) (fun c_78 => ?_) (fun c_78 => ?_)
            · have hp := mfA_pf _ (obWrd_lt n C (obNxt n C b1)) false
              have hpf : ¬ pfW false (obWrd n C (obNxt n C b1)) = -1 := fun c => kpV_pos c_78 (by rw [hp.1 c]; decide)
              obtain ⟨hp1, hp2, hp3⟩ := hp.2 hpf
              have hw2 : 1 ≤ (obWrd n C (obNxt n C b1)) := by
                rcases Nat.eq_zero_or_pos (obWrd n C (obNxt n C b1)) with z | z
                · rw [z] at hpf; exact absurd (pf_0 false) hpf
                · exact z
              have hq64 := leN_nx hn4 hw2 rfl p_64.2.1
              obtain ⟨gs, hgs⟩ : ∃ gs, gs = wU g_64 (1310 + 861 * 5 + 1 + 5 * ln + 2) (mfA false (obWrd n C (obNxt n C b1))) := ⟨_, rfl⟩
              rw [← hgs]
              have e64 : ∀ i, gA g_64 64 i = gA gm 64 i := fun i => congrFun ((p_64.1.2.1 64 rfl).trans (p_57.1.2.1 64 rfl)) i
              have hbb2 := wrd_in hw2 rfl
              have hnx2 := obNxt_le n C (obNxt n C b1) hbb2.1
              refine J.post (sg_m_gi _ gs n C (obNxt n C (obNxt n C b1)) cs (by rw [hgs]; exact hq64) (by rw [hgs]; exact ((hqm.B p_57.1).B p_64.1).U (by unfold stI; omega)) (by rw [hgs]; exact (p_64.1.1 63 13 rfl).trans ((p_57.1.1 63 13 rfl).trans hkm)) (by rw [hgs]; exact (p_64.1.1 63 9 rfl).trans ((p_57.1.1 63 9 rfl).trans hdm)) (by omega) _) (fun r es q => ?_)
              obtain ⟨x, g2, hr, he2, hx2⟩ := q
              exact ⟨x, g2, hr, he2, PLg.of (ad := false) (v := v) (f := pfW false (obWrd n C (obNxt n C b1))) hln (by rw [hgs]; exact ((hfm.B p_57.1).B p_64.1).U (by unfold lC; omega)) hv9 (by rw [hgs]; exact (wU_ne (by unfold lC; omega)).trans ((e64 _).trans (hm0.trans hck))) (by rw [hgs]; exact (wU_ne (by unfold lC; omega)).trans ((e64 _).trans hm1)) (by rw [hgs]; refine wU_at.trans ?_; unfold facM; rw [if_neg hpf]; exact hp2) (by rw [hgs]; exact (wU_ne (by unfold lC; omega)).trans ((e64 _).trans (hm3.trans hc3))) hx2 _ (pGoal_3 hwd he (pFac_y hs.1 hpf))⟩
            · refine J_iconst (nx := 82) (i := 0) (v := 0) (by decide) dX12_readGoalsLine_81 rfl ?_
              have hp := mfA_pf _ (obWrd_lt n C (obNxt n C b1)) false
              have hpf : pfW false (obWrd n C (obNxt n C b1)) = -1 := by
                by_cases c : pfW false (obWrd n C (obNxt n C b1)) = -1
                · exact c
                · exact absurd (hp.2 c).1 (lt_nle (kpV_neg c_78))
              exact Jrz dX12_readGoalsLine_82 rfl (by decide) (Nat.zero_le _) (Nat.zero_le _) (RXi.of (by rw [pGoal_2 hwd he (pFac_n hs.1 hpf)]; exact ⟨((hfm.B p_57.1).B p_64.1).U (by unfold lC; omega), rfl, p_64.2.2⟩))
        · refine J_iconst (nx := 53) (i := 0) (v := 0) (by decide) dX12_readGoalsLine_52 rfl ?_
          obtain ⟨e, he, hb3, hf⟩ := p_43.neg (kpV_neg c_49)
          exact Jrz dX12_readGoalsLine_53 rfl (by decide) (Nat.zero_le _) (Nat.zero_le _) (RXi.of (by rw [pGoal_1 hwd he]; exact ⟨(hfk.B hf).U (by unfold lC; omega), rfl, hb3⟩))
  · have hw := of_decide_eq_true (bI_n0.mp c_8)
    have hwd : obWrd n C b = if true = true then 6 else 7 := hw
    have hq1 := leN_nx hn4 (by decide) hw h
    have hbb := wrd_in (by decide) hw
    have hnx := obNxt_le n C b hbb.1
    refine J_iconst (nx := 12) (i := 0) (v := 0) (by decide) dX12_readGoalsLine_11 rfl ?_
    refine J_goto (nx := 29) dX12_readGoalsLine_12 (by decide) ?_
    refine JcV2 (R' := rm (0) 0 0) (nx := 32) dX12_readGoalsLine_29 rfl ml_X12_keepsAt lk_X12_204 iv_X12_keepsAt rfl rfl ⟨(Nat.le_of_ble_eq_true rfl), (Nat.le_of_ble_eq_true rfl)⟩ (Nat.le_of_ble_eq_true rfl) ⟨rfl, rfl⟩ (ct_m_keepsAt _ ((1310 + 861 * 5 + 1 + 5 * ln)) (by omega) _) ?_
    refine J_if_eq (nx := 35) (tgt := 52) dX12_readGoalsLine_32 rfl (by decide) (fun c_32 => ?_) (fun c_32 => ?_)
    · exact absurd c_32 (by decide)
    · obtain ⟨gk, hgk⟩ : ∃ gk, gk = wU g (1310 + 861 * 5 + 1 + 5 * ln) 0 := ⟨_, rfl⟩
      rw [← hgk]
      have hQk : MLq n C (obNxt n C b) gk := by rw [hgk]; exact hq1
      have hqk : SQ cs gk := by rw [hgk]; exact hq.U (by unfold stI; omega)
      have hfk : RFq ln g gk := by rw [hgk]; exact RFq.rf.U (Nat.le_refl _)
      have hkk : gF gk 63 13 = kdI false := by rw [hgk]; exact hkd
      have hdk : gF gk 63 9 = nI 0 := by rw [hgk]; exact hd
      have hck : gA gk 64 (lC ln) = if true = true then 0 else 1 := by rw [hgk]; exact wU_at
      have hc2 : gA gk 64 (lC ln + 2) = gA g 64 (lC ln + 2) := by rw [hgk]; exact wU_ne (by unfold lC; omega)
      have hc3 : gA gk 64 (lC ln + 3) = gA g 64 (lC ln + 3) := by rw [hgk]; exact wU_ne (by unfold lC; omega)
      refine J_aload_n (nx := 36) dX12_readGoalsLine_35 rfl rfl ?_
      refine J_iload_n (nx := 37) dX12_readGoalsLine_36 rfl rfl ?_
      refine J_iconst (nx := 38) (i := 1) (v := 1) (by decide) dX12_readGoalsLine_37 rfl ?_
      refine J_iadd (nx := 39) dX12_readGoalsLine_38 rfl ?_
      refine J_aload_n (nx := 40) dX12_readGoalsLine_39 rfl rfl ?_
      refine J_sipush (nx := 43) (i := 9999) (v := 9999) (by decide) dX12_readGoalsLine_40 rfl ?_
      refine JiV1 (R' := rm (2) 0 0) (nx := 46) dX12_readGoalsLine_43 rfl ml_X12_number lk_X12_148 iv_X12_number rfl rfl ⟨(Nat.le_of_ble_eq_true rfl), (Nat.le_of_ble_eq_true rfl)⟩ (Nat.le_of_ble_eq_true rfl) ⟨rfl, rfl⟩ (ct_m_num gk n C (obNxt n C b) hQk 9999) (fun x_43 g_43 p_43 => ?_)
      rw [show (nI ((1310 + 861 * 5 + 1 + 5 * ln)) + (1 : Int32)) = nI (((1310 + 861 * 5 + 1 + 5 * ln) + 1)) from (nIa (Eq.refl (nI ((1310 + 861 * 5 + 1 + 5 * ln)))) (nIc 1))]
      refine JcV2 (R' := rm (0) 0 0) (nx := 49) dX12_readGoalsLine_46 rfl ml_X12_keepsAt lk_X12_204 iv_X12_keepsAt rfl rfl ⟨(Nat.le_of_ble_eq_true rfl), (Nat.le_of_ble_eq_true rfl)⟩ (Nat.le_of_ble_eq_true rfl) ⟨rfl, rfl⟩ (ct_m_keepsAt _ (((1310 + 861 * 5 + 1 + 5 * ln) + 1)) (by omega) _) ?_
      refine J_if_ne (nx := 52) (tgt := 54) dX12_readGoalsLine_49 rfl (by decide) (fun c_49 => ?_) (fun c_49 => ?_)
      · obtain ⟨b1, v, he, hx, hv9, hq2, hf1⟩ := p_43.pos (kpV_pos c_49)
        obtain ⟨gm, hgm⟩ : ∃ gm, gm = wU g_43 (1310 + 861 * 5 + 1 + 5 * ln + 1) x_43 := ⟨_, rfl⟩
        rw [← hgm]
        have hQm : MLq n C b1 gm := by rw [hgm]; exact hq2
        have hqm : SQ cs gm := by rw [hgm]; exact (hqk.B hf1).U (by unfold stI; omega)
        have hfm : RFq ln g gm := by rw [hgm]; exact (hfk.B hf1).U (by unfold lC; omega)
        have hkm : gF gm 63 13 = kdI false := by rw [hgm]; exact (hf1.1 63 13 rfl).trans hkk
        have hdm : gF gm 63 9 = nI 0 := by rw [hgm]; exact (hf1.1 63 9 rfl).trans hdk
        have e43 : gA g_43 64 = gA gk 64 := hf1.2.1 64 rfl
        have hm0 : gA gm 64 (lC ln) = gA gk 64 (lC ln) := by rw [hgm]; exact (wU_ne (by unfold lC; omega)).trans (congrFun e43 _)
        have hm1 : gA gm 64 (lC ln + 1) = nI v := by rw [hgm, ← hx]; exact wU_at
        have hm2 : gA gm 64 (lC ln + 2) = gA gk 64 (lC ln + 2) := by rw [hgm]; exact (wU_ne (by unfold lC; omega)).trans (congrFun e43 _)
        have hm3 : gA gm 64 (lC ln + 3) = gA gk 64 (lC ln + 3) := by rw [hgm]; exact (wU_ne (by unfold lC; omega)).trans (congrFun e43 _)
        have hb1 : obNxt n C b < b1 ∧ b1 ≤ n := by
          have := hQm.le
          unfold pNum at he
          by_cases c : oNum (obT n C) (obNxt n C b) < 0
          · rw [if_pos c] at he; cases he
          · rw [if_neg c] at he
            by_cases c2 : oNum (obT n C) (obNxt n C b) ≤ nI 9999
            · rw [if_pos c2] at he
              cases he
              have hlt : obNxt n C b < n := (obT_ok n C hn4).num (fun z => c (by rw [z]; decide))
              exact obNxt_le n C (obNxt n C b) hlt
            · rw [if_neg c2] at he; cases he
        refine J_aload_n (nx := 55) dX12_readGoalsLine_54 rfl rfl ?_
        refine J_bipush (nx := 57) (i := 42) (v := 42) (by decide) dX12_readGoalsLine_55 rfl ?_
        refine JiV1 (R' := rm (2) 0 0) (nx := 60) dX12_readGoalsLine_57 rfl ml_X12_sign lk_X12_155 iv_X12_sign rfl rfl ⟨(Nat.le_of_ble_eq_true rfl), (Nat.le_of_ble_eq_true rfl)⟩ (Nat.le_of_ble_eq_true rfl) ⟨rfl, rfl⟩ (ct_m_sign gm n C b1 hQm 42 (by decide) (by decide) (by decide)) (fun x_57 g_57 p_57 => ?_)
        refine J_if_eq (nx := 63) (tgt := 83) dX12_readGoalsLine_60 rfl (by decide) (fun c_60 => ?_) (fun c_60 => ?_)
        · have hs : ¬ obSgn n C b1 = 42 ∧ MLq n C b1 g_57 := by
            rcases p_57.2.2 with ⟨h1, h2, h3⟩ | ⟨h1, h2, h3⟩
            · rw [h2] at c_60; exact absurd c_60 (by decide)
            · exact ⟨h1, h3⟩
          refine J.post (sg_m_gi _ g_57 n C b1 cs hs.2 (hqm.B p_57.1) ((p_57.1.1 63 13 rfl).trans hkm) ((p_57.1.1 63 9 rfl).trans hdm) (by omega) _) (fun r es q => ?_)
          obtain ⟨x, g2, hr, he2, hx2⟩ := q
          have e57 : ∀ i, gA g_57 64 i = gA gm 64 i := fun i => congrFun (p_57.1.2.1 64 rfl) i
          exact ⟨x, g2, hr, he2, PLg.of (ad := true) (v := v) (f := -1) hln (hfm.B p_57.1) hv9 ((e57 _).trans (hm0.trans hck)) ((e57 _).trans hm1) ((e57 _).trans (hm2.trans hc2)) ((e57 _).trans (hm3.trans hc3)) hx2 _ (pGoal_3 hwd he (pFac_no hs.1))⟩
        · have hs : obSgn n C b1 = 42 ∧ MLq n C (obNxt n C b1) g_57 := by
            rcases p_57.2.2 with ⟨h1, h2, h3⟩ | ⟨h1, h2, h3⟩
            · exact ⟨h1, h3⟩
            · exact absurd h2 c_60
          have hb2n := hs.2.le
          have hb1n := (sgn_in (by decide) hs.1).1
          have hnx1 := obNxt_le n C b1 hb1n
          refine J_aload_n (nx := 64) dX12_readGoalsLine_63 rfl rfl ?_
          refine JvV0 (R' := rm (2) 0 0) (nx := 67) dX12_readGoalsLine_64 rfl ml_X12_letters lk_X12_110 iv_X12_letters rfl rfl ⟨(Nat.le_of_ble_eq_true rfl), (Nat.le_of_ble_eq_true rfl)⟩ (Nat.le_of_ble_eq_true rfl) ⟨rfl, rfl⟩ (ct_m_lettersQ g_57 n C (obNxt n C b1) hs.2) (fun g_64 p_64 => ?_)
          refine J_aload_n (nx := 68) dX12_readGoalsLine_67 rfl rfl ?_
          refine J_iload_n (nx := 69) dX12_readGoalsLine_68 rfl rfl ?_
          refine J_iconst (nx := 70) (i := 2) (v := 2) (by decide) dX12_readGoalsLine_69 rfl ?_
          refine J_iadd (nx := 71) dX12_readGoalsLine_70 rfl ?_
          refine J_aload_n (nx := 72) dX12_readGoalsLine_71 rfl rfl ?_
          refine JcV0 (R' := rm (5) 0 0) (nx := 75) dX12_readGoalsLine_72 rfl ml_X12_factAt lk_X12_141 iv_X12_factAt rfl rfl ⟨(Nat.le_of_ble_eq_true rfl), (Nat.le_of_ble_eq_true rfl)⟩ (Nat.le_of_ble_eq_true rfl) ⟨rfl, rfl⟩ (ct_m_factAt g_64 n C (obNxt n C b1) false p_64.2.1 hb2n.1 p_64.2.2 ((p_64.1.1 63 13 rfl).trans ((p_57.1.1 63 13 rfl).trans hkm))) ?_
          rw [show (nI ((1310 + 861 * 5 + 1 + 5 * ln)) + (2 : Int32)) = nI (((1310 + 861 * 5 + 1 + 5 * ln) + 2)) from (nIa (Eq.refl (nI ((1310 + 861 * 5 + 1 + 5 * ln)))) (nIc 2))]
          refine JcV2 (R' := rm (0) 0 0) (nx := 78) dX12_readGoalsLine_75 rfl ml_X12_keepsAt lk_X12_204 iv_X12_keepsAt rfl rfl ⟨(Nat.le_of_ble_eq_true rfl), (Nat.le_of_ble_eq_true rfl)⟩ (Nat.le_of_ble_eq_true rfl) ⟨rfl, rfl⟩ (ct_m_keepsAt _ (((1310 + 861 * 5 + 1 + 5 * ln) + 2)) (by omega) _) ?_
          refine J_if_ne (nx := 81) (tgt := 83) dX12_readGoalsLine_78 rfl (by decide) (fun c_78 => ?_) (fun c_78 => ?_)
          · have hp := mfA_pf _ (obWrd_lt n C (obNxt n C b1)) false
            have hpf : ¬ pfW false (obWrd n C (obNxt n C b1)) = -1 := fun c => kpV_pos c_78 (by rw [hp.1 c]; decide)
            obtain ⟨hp1, hp2, hp3⟩ := hp.2 hpf
            have hw2 : 1 ≤ (obWrd n C (obNxt n C b1)) := by
              rcases Nat.eq_zero_or_pos (obWrd n C (obNxt n C b1)) with z | z
              · rw [z] at hpf; exact absurd (pf_0 false) hpf
              · exact z
            have hq64 := leN_nx hn4 hw2 rfl p_64.2.1
            obtain ⟨gs, hgs⟩ : ∃ gs, gs = wU g_64 (1310 + 861 * 5 + 1 + 5 * ln + 2) (mfA false (obWrd n C (obNxt n C b1))) := ⟨_, rfl⟩
            rw [← hgs]
            have e64 : ∀ i, gA g_64 64 i = gA gm 64 i := fun i => congrFun ((p_64.1.2.1 64 rfl).trans (p_57.1.2.1 64 rfl)) i
            have hbb2 := wrd_in hw2 rfl
            have hnx2 := obNxt_le n C (obNxt n C b1) hbb2.1
            refine J.post (sg_m_gi _ gs n C (obNxt n C (obNxt n C b1)) cs (by rw [hgs]; exact hq64) (by rw [hgs]; exact ((hqm.B p_57.1).B p_64.1).U (by unfold stI; omega)) (by rw [hgs]; exact (p_64.1.1 63 13 rfl).trans ((p_57.1.1 63 13 rfl).trans hkm)) (by rw [hgs]; exact (p_64.1.1 63 9 rfl).trans ((p_57.1.1 63 9 rfl).trans hdm)) (by omega) _) (fun r es q => ?_)
            obtain ⟨x, g2, hr, he2, hx2⟩ := q
            exact ⟨x, g2, hr, he2, PLg.of (ad := true) (v := v) (f := pfW false (obWrd n C (obNxt n C b1))) hln (by rw [hgs]; exact ((hfm.B p_57.1).B p_64.1).U (by unfold lC; omega)) hv9 (by rw [hgs]; exact (wU_ne (by unfold lC; omega)).trans ((e64 _).trans (hm0.trans hck))) (by rw [hgs]; exact (wU_ne (by unfold lC; omega)).trans ((e64 _).trans hm1)) (by rw [hgs]; refine wU_at.trans ?_; unfold facM; rw [if_neg hpf]; exact hp2) (by rw [hgs]; exact (wU_ne (by unfold lC; omega)).trans ((e64 _).trans (hm3.trans hc3))) hx2 _ (pGoal_3 hwd he (pFac_y hs.1 hpf))⟩
          · refine J_iconst (nx := 82) (i := 0) (v := 0) (by decide) dX12_readGoalsLine_81 rfl ?_
            have hp := mfA_pf _ (obWrd_lt n C (obNxt n C b1)) false
            have hpf : pfW false (obWrd n C (obNxt n C b1)) = -1 := by
              by_cases c : pfW false (obWrd n C (obNxt n C b1)) = -1
              · exact c
              · exact absurd (hp.2 c).1 (lt_nle (kpV_neg c_78))
            exact Jrz dX12_readGoalsLine_82 rfl (by decide) (Nat.zero_le _) (Nat.zero_le _) (RXi.of (by rw [pGoal_2 hwd he (pFac_n hs.1 hpf)]; exact ⟨((hfm.B p_57.1).B p_64.1).U (by unfold lC; omega), rfl, p_64.2.2⟩))
      · refine J_iconst (nx := 53) (i := 0) (v := 0) (by decide) dX12_readGoalsLine_52 rfl ?_
        obtain ⟨e, he, hb3, hf⟩ := p_43.neg (kpV_neg c_49)
        exact Jrz dX12_readGoalsLine_53 rfl (by decide) (Nat.zero_le _) (Nat.zero_le _) (RXi.of (by rw [pGoal_1 hwd he]; exact ⟨(hfk.B hf).U (by unfold lC; omega), rfl, hb3⟩))

