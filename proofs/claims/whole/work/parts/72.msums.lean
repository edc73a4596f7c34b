
/-! the Model: parts and sums -/
def RSt (n : Nat) (C : Nat → Int32) (b : Nat) (cs : List Int32) (rl : Bool) (g : GS) : Prop := MLq n C b g ∧ SQ cs g ∧ gF g 63 13 = kdI rl
def pPartR (n : Nat) (C : Nat → Int32) (rl : Bool) (b : Nat) (cs : List Int32) : PR := if pCell (obT n C) rl b = -1 then .inl b else .inr (obNxt n C b, cs ++ [pCell (obT n C) rl b])
theorem ct_m_lettersQ (g : GS) (n : Nat) (C : Nat → Int32) (b : Nat) (hQ : MLq n C b g) : Ct mX12_letters (rm 2 0 0) [.ref 63] (Wd g) (RXv (fun g2 => Fr fB aNo g g2 ∧ MPt n C (leN n C b) g2 ∧ gF g2 63 8 = nI b)) := by
  obtain ⟨p, h, rfl⟩ := hQ
  exact ct_m_letters g n C p h
theorem pf_ne : ∀ w, w < 23 → ∀ rl, ¬ pfW rl w = -1 → ¬ 10000 + pfW rl w = -1 := by decide +kernel
theorem pf_0 : ∀ rl, pfW rl 0 = -1 := by decide
theorem obWrd_lt (n : Nat) (C : Nat → Int32) (b : Nat) : obWrd n C b < 23 := by
  unfold obWrd
  split
  · exact fwN_lt n C b 23 0 (by omega)
  · decide
theorem pCell_w {n : Nat} {C : Nat → Int32} {rl : Bool} {b : Nat} : pCell (obT n C) rl b = if pfW rl (obWrd n C b) = -1 then obNum n C b else 10000 + pfW rl (obWrd n C b) := rfl
theorem leN_lt {n : Nat} {C : Nat → Int32} {b : Nat} (h : b < leN n C b) : b < n ∧ isL (C b) = true := by
  by_cases c : b < n ∧ isL (C b) = true
  · exact c
  · rw [leN_no c] at h; omega
theorem obNum_L {n : Nat} {C : Nat → Int32} {b : Nat} (h : isL (C b) = true) : obNum n C b = -1 := by
  refine if_neg (fun q => ?_)
  rw [not_isL_of_isD q.2.1] at h; cases h
theorem cv_num {v : Nat} (h : v ≤ 9999) : cv (nI v) = (8, nI v) := if_pos (show nI v ≤ nI 9999 from nI_le_n h (by omega))
theorem nI_ne1 {v : Nat} (h : v ≤ 9999) : ¬ nI v = -1 := fun z => by
  have := congrArg Int32.toInt z
  rw [nI_toInt (by omega), show (-1 : Int32).toInt = -1 from rfl] at this
  omega
theorem SQ.em2 {cs : List Int32} {g : GS} (h : SQ cs g) {x s m : Int32} (hs : s = nI (cv x).1) (hm : m = (cv x).2) : SQ (cs ++ [x]) (emG g cs.length s m) := h.em hs hm
theorem rpL {g g1 : GS} {n : Nat} {C : Nat → Int32} {b : Nat} {cs : List Int32} {rl : Bool} (hS : RSt n C b cs rl g) (hf : Fr fB aNo g g1) (hm : MPt n C (leN n C b) g1) (hb : gF g1 63 8 = nI b) (hlt : b < leN n C b) : (mfA rl (obWrd n C b) < 0 → PM n C g (pPartR n C rl b cs) 0 (emG g1 cs.length (mfA rl (obWrd n C b)) 0)) ∧ (¬ mfA rl (obWrd n C b) < 0 → PM n C g (pPartR n C rl b cs) 1 (emG g1 cs.length (mfA rl (obWrd n C b)) 0)) := by
  have hl := leN_lt hlt
  have hfr : RFr g (emG g1 cs.length (mfA rl (obWrd n C b)) 0) := (RFr.rf.B hf).em
  have hw := obWrd_lt n C b
  have hp := mfA_pf _ hw rl
  unfold pPartR
  rw [pCell_w]
  by_cases c : pfW rl (obWrd n C b) = -1
  · rw [if_pos c, if_pos (obNum_L hl.2)]
    refine ⟨fun _ => ⟨hfr, rfl, hb⟩, fun z => absurd (show mfA rl (obWrd n C b) < 0 from by rw [hp.1 c]; decide) z⟩
  · rw [if_neg c, if_neg (pf_ne _ hw rl c)]
    obtain ⟨h1, h2, h3⟩ := hp.2 c
    refine ⟨fun z => absurd h1 (lt_nle z), fun _ => ⟨hfr, rfl, ?_, (hS.2.1.B hf).em h2 h3, hf.1 63 9 rfl⟩⟩
    rw [leN_te hm.2.1 hl.1 hl.2] at hm
    exact ⟨_, hm, rfl⟩
theorem rpN {g g1 g2 : GS} {n : Nat} {C : Nat → Int32} {b : Nat} {cs : List Int32} {rl : Bool} {x : Int32} (hS : RSt n C b cs rl g) (hf : Fr fB aNo g g1) (hle : leN n C b ≤ b) (hf2 : Fr fB aNo g1 g2) (hb : gF g2 63 8 = nI b) (hx : (∃ v, v ≤ 9999 ∧ obNum n C b = nI v ∧ ¬ (9999 : Int32) < nI v ∧ x = nI v ∧ MLq n C (obNxt n C b) g2) ∨ ((obNum n C b = -1 ∨ (9999 : Int32) < obNum n C b) ∧ x = -1)) : (x < 0 → PM n C g (pPartR n C rl b cs) 0 (emG g2 cs.length 8 x)) ∧ (¬ x < 0 → PM n C g (pPartR n C rl b cs) 1 (emG g2 cs.length 8 x)) := by
  have hfr : RFr g (emG g2 cs.length 8 x) := ((RFr.rf.B hf).B hf2).em
  have hn := hS.1.le
  have hw0 : obWrd n C b = 0 := by
    refine if_neg (fun q => ?_)
    have := teN_le n C b q.1
    have e := leN_te hn.2.1 q.1 q.2
    omega
  unfold pPartR
  rw [pCell_w, hw0, if_pos (pf_0 rl)]
  rcases hx with ⟨v, h1, h2, h3, h4, h5⟩ | ⟨h1, h2⟩
  · rw [h2, if_neg (nI_ne1 h1), h4]
    have hc := cv_num h1
    refine ⟨fun z => absurd (nI_ltd (a := v) (b := 0) (by omega) (by omega) z) (by omega), fun _ => ⟨by rw [← h4]; exact hfr, rfl, h5.em, ((hS.2.1.B hf).B hf2).em (by rw [hc]; rfl) (by rw [hc]), (hf2.1 63 9 rfl).trans (hf.1 63 9 rfl)⟩⟩
  · have e1 : obNum n C b = -1 := by
      rcases h1 with z | z
      · exact z
      · rcases obNum_or n C b with q | ⟨v, hv, q⟩
        · exact q
        · rw [q] at z
          exact absurd (nI_ltd (a := 9999) (b := v) (by omega) (by omega) z) (by omega)
    rw [if_pos e1]
    exact ⟨fun _ => ⟨hfr, rfl, hb⟩, fun z => absurd (show x < 0 from by rw [h2]; decide) z⟩

set_option maxRecDepth 100000 in
set_option maxHeartbeats 4000000 in
theorem ct_m_readPart (g : GS) (n : Nat) (C : Nat → Int32) (b : Nat) (cs : List Int32) (rl : Bool) (hS : RSt n C b cs rl g) (hl : cs.length < 400) : Ct mX12_readPart (rm 6 0 0) [.ref 63] (Wd g) (RXi (PM n C g (pPartR n C rl b cs))) := by
  refine Ct.of (by decide +kernel) (Nat.le_of_ble_eq_true rfl) ?_
  show J _ _ _ _ 0 [some (.ref 63), none] [] _ 0 0
  refine J_aload_n (nx := 1) dX12_readPart_0 rfl rfl ?_
  refine JvV0 (R' := rm (2) 0 0) (nx := 4) dX12_readPart_1 rfl ml_X12_letters lk_X12_110 iv_X12_letters rfl rfl ⟨(Nat.le_of_ble_eq_true rfl), (Nat.le_of_ble_eq_true rfl)⟩ (Nat.le_of_ble_eq_true rfl) ⟨rfl, rfl⟩ (ct_m_lettersQ g n C b hS.1) (fun g_1 p_1 => ?_)
  refine J_iconst (nx := 5) (i := -1) (v := -1) (by decide) dX12_readPart_4 rfl ?_
  refine J_istore_n (nx := 6) dX12_readPart_5 rfl rfl (Nat.le_of_ble_eq_true rfl) ?_
  have hbn := hS.1.le
  have hsq1 := hS.2.1.B p_1.1
  have hk1 : gF g_1 63 13 = kdI rl := (p_1.1.1 63 13 rfl).trans hS.2.2
  have hlel := leN_le (C := C) hbn.1
  refine J_aload_n (nx := 7) dX12_readPart_6 rfl rfl ?_
  refine Jg_63_6 (nx := 10) dX12_readPart_7 rfl fl_X12_84 ?_
  rw [p_1.2.1.2.2.2.1]
  refine J_aload_n (nx := 11) dX12_readPart_10 rfl rfl ?_
  refine Jg_63_8 (nx := 14) dX12_readPart_11 rfl fl_X12_94 ?_
  rw [p_1.2.2]
  refine J_icmp_le (nx := 17) (tgt := 31) dX12_readPart_14 rfl (by decide) (fun c_14 => ?_) (fun c_14 => ?_)
  · have hle : leN n C b ≤ b := nI_led (by omega) (by omega) c_14
    have hQ1 : MLq n C b g_1 := ⟨b, by have h := p_1.2.1; rw [show leN n C b = b by omega] at h; exact h, hbn.2.2⟩
    refine J_aload_n (nx := 32) dX12_readPart_31 rfl rfl ?_
    refine J_sipush (nx := 35) (i := 9999) (v := 9999) (by decide) dX12_readPart_32 rfl ?_
    refine JiV1 (R' := rm (2) 0 0) (nx := 38) dX12_readPart_35 rfl ml_X12_number lk_X12_148 iv_X12_number rfl rfl ⟨(Nat.le_of_ble_eq_true rfl), (Nat.le_of_ble_eq_true rfl)⟩ (Nat.le_of_ble_eq_true rfl) ⟨rfl, rfl⟩ (ct_m_number g_1 n C b hQ1 9999) (fun x_35 g_35 p_35 => ?_)
    refine J_istore_n (nx := 39) dX12_readPart_38 rfl rfl (Nat.le_of_ble_eq_true rfl) ?_
    refine J_aload_n (nx := 40) dX12_readPart_39 rfl rfl ?_
    refine J_bipush (nx := 42) (i := 8) (v := 8) (by decide) dX12_readPart_40 rfl ?_
    refine J_iload_n (nx := 43) dX12_readPart_42 rfl rfl ?_
    refine JcV2 (R' := rm (1) 0 0) (nx := 46) dX12_readPart_43 rfl ml_X12_emits lk_X12_144 iv_X12_emits rfl rfl ⟨(Nat.le_of_ble_eq_true rfl), (Nat.le_of_ble_eq_true rfl)⟩ (Nat.le_of_ble_eq_true rfl) ⟨rfl, rfl⟩ (ct_m_emits g_35 cs.length (hsq1.B p_35.1).1 hl 8 x_35) ?_
    refine J_iload_n (nx := 47) dX12_readPart_46 rfl rfl ?_
    refine J_if_lt (nx := 50) (tgt := 54) dX12_readPart_47 rfl (by decide) (fun c_47 => ?_) (fun c_47 => ?_)
    · refine J_iconst (nx := 55) (i := 0) (v := 0) (by decide) dX12_readPart_54 rfl ?_
      exact Jrz dX12_readPart_55 rfl (by decide) (Nat.zero_le _) (Nat.zero_le _) (RXi.of (by first | exact (rpL hS p_1.1 p_1.2.1 p_1.2.2 (nge_lt (by omega) (by omega) c_14)).1 c_47 | exact (rpN hS p_1.1 hle p_35.1 p_35.2.1 p_35.2.2).1 c_47))
    · refine J_iconst (nx := 51) (i := 1) (v := 1) (by decide) dX12_readPart_50 rfl ?_
      refine J_goto (nx := 55) dX12_readPart_51 (by decide) ?_
      exact Jrz dX12_readPart_55 rfl (by decide) (Nat.zero_le _) (Nat.zero_le _) (RXi.of (by first | exact (rpL hS p_1.1 p_1.2.1 p_1.2.2 (nge_lt (by omega) (by omega) c_14)).2 c_47 | exact (rpN hS p_1.1 hle p_35.1 p_35.2.1 p_35.2.2).2 c_47))
  · refine J_aload_n (nx := 18) dX12_readPart_17 rfl rfl ?_
    refine JcV0 (R' := rm (5) 0 0) (nx := 21) dX12_readPart_18 rfl ml_X12_factAt lk_X12_141 iv_X12_factAt rfl rfl ⟨(Nat.le_of_ble_eq_true rfl), (Nat.le_of_ble_eq_true rfl)⟩ (Nat.le_of_ble_eq_true rfl) ⟨rfl, rfl⟩ (ct_m_factAt g_1 n C b rl p_1.2.1 hbn.1 p_1.2.2 hk1) ?_
    refine J_istore_n (nx := 22) dX12_readPart_21 rfl rfl (Nat.le_of_ble_eq_true rfl) ?_
    refine J_aload_n (nx := 23) dX12_readPart_22 rfl rfl ?_
    refine J_iload_n (nx := 24) dX12_readPart_23 rfl rfl ?_
    refine J_iconst (nx := 25) (i := 0) (v := 0) (by decide) dX12_readPart_24 rfl ?_
    refine JcV2 (R' := rm (1) 0 0) (nx := 28) dX12_readPart_25 rfl ml_X12_emits lk_X12_144 iv_X12_emits rfl rfl ⟨(Nat.le_of_ble_eq_true rfl), (Nat.le_of_ble_eq_true rfl)⟩ (Nat.le_of_ble_eq_true rfl) ⟨rfl, rfl⟩ (ct_m_emits g_1 cs.length hsq1.1 hl (mfA rl (obWrd n C b)) 0) ?_
    refine J_goto (nx := 46) dX12_readPart_28 (by decide) ?_
    refine J_iload_n (nx := 47) dX12_readPart_46 rfl rfl ?_
    refine J_if_lt (nx := 50) (tgt := 54) dX12_readPart_47 rfl (by decide) (fun c_47 => ?_) (fun c_47 => ?_)
    · refine J_iconst (nx := 55) (i := 0) (v := 0) (by decide) dX12_readPart_54 rfl ?_
      exact Jrz dX12_readPart_55 rfl (by decide) (Nat.zero_le _) (Nat.zero_le _) (RXi.of (by first | exact (rpL hS p_1.1 p_1.2.1 p_1.2.2 (nge_lt (by omega) (by omega) c_14)).1 c_47 | exact (rpN hS p_1.1 hle p_35.1 p_35.2.1 p_35.2.2).1 c_47))
    · refine J_iconst (nx := 51) (i := 1) (v := 1) (by decide) dX12_readPart_50 rfl ?_
      refine J_goto (nx := 55) dX12_readPart_51 (by decide) ?_
      exact Jrz dX12_readPart_55 rfl (by decide) (Nat.zero_le _) (Nat.zero_le _) (RXi.of (by first | exact (rpL hS p_1.1 p_1.2.1 p_1.2.2 (nge_lt (by omega) (by omega) c_14)).2 c_47 | exact (rpN hS p_1.1 hle p_35.1 p_35.2.1 p_35.2.2).2 c_47))

theorem PM.no {n : Nat} {C : Nat → Int32} {g g2 : GS} {r : PR} {x : Int32} (h : PM n C g r x g2) (hx : x = 0) : ∃ e, r = .inl e ∧ gF g2 63 8 = nI e ∧ RFr g g2 := by
  obtain ⟨h1, h2⟩ := h
  cases r with
  | inl e => exact ⟨e, rfl, h2.2, h1⟩
  | inr q => exact absurd (h2.1.symm.trans hx) (by decide)
theorem PM.yes {n : Nat} {C : Nat → Int32} {g g2 : GS} {r : PR} {x : Int32} (h : PM n C g r x g2) (hx : ¬ x = 0) : ∃ q, r = .inr q ∧ MLq n C q.1 g2 ∧ SQ q.2 g2 ∧ gF g2 63 9 = gF g 63 9 ∧ RFr g g2 := by
  obtain ⟨h1, h2⟩ := h
  cases r with
  | inl e => exact absurd h2.1 hx
  | inr q => exact ⟨q, rfl, h2.2.1, h2.2.2.1, h2.2.2.2, h1⟩
theorem PM.mkN {n : Nat} {C : Nat → Int32} {g g2 : GS} {e : Nat} (h : RFr g g2) (h2 : gF g2 63 8 = nI e) : PM n C g (.inl e) 0 g2 := ⟨h, rfl, h2⟩
theorem PM.mkY {n : Nat} {C : Nat → Int32} {g g2 : GS} {b : Nat} {cs : List Int32} (h : RFr g g2) (h2 : MLq n C b g2) (h3 : SQ cs g2) (h4 : gF g2 63 9 = gF g 63 9) : PM n C g (.inr (b, cs)) 1 g2 := ⟨h, rfl, h2, h3, h4⟩
theorem pPartR_inl {n : Nat} {C : Nat → Int32} {rl : Bool} {b e : Nat} {cs : List Int32} (h : pPartR n C rl b cs = .inl e) : pCell (obT n C) rl b = -1 ∧ e = b := by
  unfold pPartR at h
  by_cases c : pCell (obT n C) rl b = -1
  · rw [if_pos c] at h; cases h; exact ⟨c, rfl⟩
  · rw [if_neg c] at h; cases h
theorem pPartR_inr {n : Nat} {C : Nat → Int32} {rl : Bool} {b : Nat} {cs : List Int32} {q : Nat × List Int32} (h : pPartR n C rl b cs = .inr q) : ¬ pCell (obT n C) rl b = -1 ∧ q = (obNxt n C b, cs ++ [pCell (obT n C) rl b]) := by
  unfold pPartR at h
  by_cases c : pCell (obT n C) rl b = -1
  · rw [if_pos c] at h; cases h
  · rw [if_neg c] at h; cases h; exact ⟨c, rfl⟩
def smR (n : Nat) (C : Nat → Int32) (rl : Bool) (k m b : Nat) (cs : List Int32) : PR := if obSgn n C b = 43 then pSumL (obT n C) rl k (m + 1) (obNxt n C b) cs else .inr (b, cs)
theorem pSumL_s {n : Nat} {C : Nat → Int32} {rl : Bool} {k m b : Nat} {cs : List Int32} (h : ¬ pCell (obT n C) rl b = -1) : pSumL (obT n C) rl (k + 1) m b cs = smR n C rl k m (obNxt n C b) (if m = 0 then cs ++ [pCell (obT n C) rl b] else cs ++ [pCell (obT n C) rl b] ++ [10010]) := by
  show (if pCell (obT n C) rl b = -1 then _ else _) = _
  rw [if_neg h]; rfl
theorem pSumL_n {n : Nat} {C : Nat → Int32} {rl : Bool} {k m b : Nat} {cs : List Int32} (h : pCell (obT n C) rl b = -1) : pSumL (obT n C) rl (k + 1) m b cs = .inl b := by
  show (if pCell (obT n C) rl b = -1 then _ else _) = _
  rw [if_pos h]
set_option maxRecDepth 100000 in
set_option maxHeartbeats 4000000 in
theorem lp_m_readSum (g0 : GS) (n : Nat) (C : Nat → Int32) (rl : Bool) (n0 : Nat) : ∀ (k : Nat) (b : Nat) (cs : List Int32) (m : Nat) (g : GS) (r : PR), n ≤ b + k → RSt n C b cs rl g → cs.length < b → RFr g0 g → gF g 63 9 = gF g0 63 9 → r = smR n C rl k m b cs → J mX12_readSum (rm 7 0 0) (RXi (PM n C g0 r)) n0 9 [some (.ref 63)] [] (Wd g) 0 0 := by
  intro k
  induction k with
  | zero =>
    intro b cs m g r hk hS hl hfr hd hr
    refine J_aload_n (nx := 10) dX12_readSum_9 rfl rfl ?_
    refine J_bipush (nx := 12) (i := 43) (v := 43) (by decide) dX12_readSum_10 rfl ?_
    refine JiV1 (R' := rm (2) 0 0) (nx := 15) dX12_readSum_12 rfl ml_X12_sign lk_X12_155 iv_X12_sign rfl rfl ⟨(Nat.le_of_ble_eq_true rfl), (Nat.le_of_ble_eq_true rfl)⟩ (Nat.le_of_ble_eq_true rfl) ⟨rfl, rfl⟩ (ct_m_sign g n C b hS.1 43 (by decide) (by decide) (by decide)) (fun x_12 g_12 p_12 => ?_)
    refine J_if_eq (nx := 18) (tgt := 37) dX12_readSum_15 rfl (by decide) (fun c_15 => ?_) (fun c_15 => ?_)
    · refine J_iconst (nx := 38) (i := 1) (v := 1) (by decide) dX12_readSum_37 rfl ?_
      have hs : ¬ obSgn n C b = 43 ∧ MLq n C b g_12 := by
        rcases p_12.2.2 with ⟨h1, h2, h3⟩ | ⟨h1, h2, h3⟩
        · rw [h2] at c_15; exact absurd c_15 (by decide)
        · exact ⟨h1, h3⟩
      exact Jrz dX12_readSum_38 rfl (by decide) (Nat.zero_le _) (Nat.zero_le _) (RXi.of (by rw [hr]; unfold smR; rw [if_neg hs.1]; exact PM.mkY (hfr.B p_12.1) hs.2 (hS.2.1.B p_12.1) ((p_12.1.1 63 9 rfl).trans hd)))
    · have hs : obSgn n C b = 43 ∧ MLq n C (obNxt n C b) g_12 := by
        rcases p_12.2.2 with ⟨h1, h2, h3⟩ | ⟨h1, h2, h3⟩
        · exact ⟨h1, h3⟩
        · exact absurd h2 c_15
      have hbn : b < n := (sgn_in (by decide) hs.1).1
      have hnx := obNxt_le n C b hbn
      have hn4 := hS.1.le.2.1
      have hS2 : RSt n C (obNxt n C b) cs rl g_12 := ⟨hs.2, hS.2.1.B p_12.1, (p_12.1.1 63 13 rfl).trans hS.2.2⟩
      exact absurd hk (by omega)
  | succ k ih =>
    intro b cs m g r hk hS hl hfr hd hr
    refine J_aload_n (nx := 10) dX12_readSum_9 rfl rfl ?_
    refine J_bipush (nx := 12) (i := 43) (v := 43) (by decide) dX12_readSum_10 rfl ?_
    refine JiV1 (R' := rm (2) 0 0) (nx := 15) dX12_readSum_12 rfl ml_X12_sign lk_X12_155 iv_X12_sign rfl rfl ⟨(Nat.le_of_ble_eq_true rfl), (Nat.le_of_ble_eq_true rfl)⟩ (Nat.le_of_ble_eq_true rfl) ⟨rfl, rfl⟩ (ct_m_sign g n C b hS.1 43 (by decide) (by decide) (by decide)) (fun x_12 g_12 p_12 => ?_)
    refine J_if_eq (nx := 18) (tgt := 37) dX12_readSum_15 rfl (by decide) (fun c_15 => ?_) (fun c_15 => ?_)
    · refine J_iconst (nx := 38) (i := 1) (v := 1) (by decide) dX12_readSum_37 rfl ?_
      have hs : ¬ obSgn n C b = 43 ∧ MLq n C b g_12 := by
        rcases p_12.2.2 with ⟨h1, h2, h3⟩ | ⟨h1, h2, h3⟩
        · rw [h2] at c_15; exact absurd c_15 (by decide)
        · exact ⟨h1, h3⟩
      exact Jrz dX12_readSum_38 rfl (by decide) (Nat.zero_le _) (Nat.zero_le _) (RXi.of (by rw [hr]; unfold smR; rw [if_neg hs.1]; exact PM.mkY (hfr.B p_12.1) hs.2 (hS.2.1.B p_12.1) ((p_12.1.1 63 9 rfl).trans hd)))
    · have hs : obSgn n C b = 43 ∧ MLq n C (obNxt n C b) g_12 := by
        rcases p_12.2.2 with ⟨h1, h2, h3⟩ | ⟨h1, h2, h3⟩
        · exact ⟨h1, h3⟩
        · exact absurd h2 c_15
      have hbn : b < n := (sgn_in (by decide) hs.1).1
      have hnx := obNxt_le n C b hbn
      have hn4 := hS.1.le.2.1
      have hS2 : RSt n C (obNxt n C b) cs rl g_12 := ⟨hs.2, hS.2.1.B p_12.1, (p_12.1.1 63 13 rfl).trans hS.2.2⟩
      refine J_aload_n (nx := 19) dX12_readSum_18 rfl rfl ?_
      refine JiV0 (R' := rm (6) 0 0) (nx := 22) dX12_readSum_19 rfl ml_X12_readPart lk_X12_151 iv_X12_readPart rfl rfl ⟨(Nat.le_of_ble_eq_true rfl), (Nat.le_of_ble_eq_true rfl)⟩ (Nat.le_of_ble_eq_true rfl) ⟨rfl, rfl⟩ (ct_m_readPart g_12 n C (obNxt n C b) cs rl hS2 (by omega)) (fun x_19 g_19 p_19 => ?_)
      refine J_if_ne (nx := 25) (tgt := 27) dX12_readSum_22 rfl (by decide) (fun c_22 => ?_) (fun c_22 => ?_)
      · obtain ⟨q, he, hq1, hq2, hq3, hf⟩ := p_19.yes c_22
        obtain ⟨hc, rfl⟩ := pPartR_inr he
        have hbn2 : obNxt n C b < n := by
          rcases Nat.lt_or_ge (obNxt n C b) n with z | z
          · exact z
          · exact absurd ((obT_ok n C hn4).cell hc) (by show ¬ obNxt n C b < n; omega)
        have hnx2 := obNxt_le n C (obNxt n C b) hbn2
        have hlen : (cs ++ [pCell (obT n C) rl (obNxt n C b)]).length = cs.length + 1 := by rw [List.length_append]; rfl
        refine J_aload_n (nx := 28) dX12_readSum_27 rfl rfl ?_
        refine J_bipush (nx := 30) (i := 9) (v := 9) (by decide) dX12_readSum_28 rfl ?_
        refine J_iconst (nx := 31) (i := 0) (v := 0) (by decide) dX12_readSum_30 rfl ?_
        refine JcV2 (R' := rm (1) 0 0) (nx := 34) dX12_readSum_31 rfl ml_X12_emits lk_X12_144 iv_X12_emits rfl rfl ⟨(Nat.le_of_ble_eq_true rfl), (Nat.le_of_ble_eq_true rfl)⟩ (Nat.le_of_ble_eq_true rfl) ⟨rfl, rfl⟩ (ct_m_emits g_19 (cs ++ [pCell (obT n C) rl (obNxt n C b)]).length hq2.1 (by omega) 9 0) ?_
        refine J_goto (nx := 9) dX12_readSum_34 (by decide) ?_
        refine ih (obNxt n C (obNxt n C b)) (cs ++ [pCell (obT n C) rl (obNxt n C b)] ++ [10010]) (m + 1) _ r (by omega) ⟨hq1.em, hq2.em2 (by decide) (by decide), (hf.1.1 63 13 rfl).trans hS2.2.2⟩ (by rw [List.length_append, hlen]; show cs.length + 1 + 1 < _; omega) (((hfr.B p_12.1).tr hf).em) ((hq3.trans (p_12.1.1 63 9 rfl)).trans hd) ?_
        rw [hr]
        unfold smR
        rw [if_pos hs.1, pSumL_s hc, if_neg (Nat.succ_ne_zero m)]
        rfl
      · refine J_iconst (nx := 26) (i := 0) (v := 0) (by decide) dX12_readSum_25 rfl ?_
        obtain ⟨e, he, hb, hf⟩ := p_19.no c_22
        obtain ⟨hc, rfl⟩ := pPartR_inl he
        exact Jrz dX12_readSum_26 rfl (by decide) (Nat.zero_le _) (Nat.zero_le _) (RXi.of (by rw [hr]; unfold smR; rw [if_pos hs.1, pSumL_n hc]; exact PM.mkN ((hfr.B p_12.1).tr hf) hb))

set_option maxRecDepth 100000 in
set_option maxHeartbeats 4000000 in
theorem ct_m_readSum (g : GS) (n : Nat) (C : Nat → Int32) (b : Nat) (cs : List Int32) (rl : Bool) (hS : RSt n C b cs rl g) (hl : cs.length < b) : Ct mX12_readSum (rm 7 0 0) [.ref 63] (Wd g) (RXi (PM n C g (pSum (obT n C) rl b cs))) := by
  refine Ct.of (by decide +kernel) (Nat.le_of_ble_eq_true rfl) ?_
  show J _ _ _ _ 0 [some (.ref 63)] [] _ 0 0
  refine J_aload_n (nx := 1) dX12_readSum_0 rfl rfl ?_
  refine JiV0 (R' := rm (6) 0 0) (nx := 4) dX12_readSum_1 rfl ml_X12_readPart lk_X12_151 iv_X12_readPart rfl rfl ⟨(Nat.le_of_ble_eq_true rfl), (Nat.le_of_ble_eq_true rfl)⟩ (Nat.le_of_ble_eq_true rfl) ⟨rfl, rfl⟩ (ct_m_readPart g n C b cs rl hS (by have := hS.1.le; omega)) (fun x_1 g_1 p_1 => ?_)
  refine J_if_ne (nx := 7) (tgt := 9) dX12_readSum_4 rfl (by decide) (fun c_4 => ?_) (fun c_4 => ?_)
  · obtain ⟨q, he, hq1, hq2, hq3, hf⟩ := p_1.yes c_4
    obtain ⟨hc, rfl⟩ := pPartR_inr he
    have hbn := hS.1.le
    have hb2 : b < n := by
      rcases Nat.lt_or_ge b n with z | z
      · exact z
      · exact absurd ((obT_ok n C hbn.2.1).cell hc) (by show ¬ b < n; omega)
    have hnx := obNxt_le n C b hb2
    exact lp_m_readSum g n C rl _ 399 (obNxt n C b) (cs ++ [pCell (obT n C) rl b]) 0 g_1 (pSum (obT n C) rl b cs) (by omega) ⟨hq1, hq2, (hf.1.1 63 13 rfl).trans hS.2.2⟩ (by rw [List.length_append]; show cs.length + 1 < _; omega) hf hq3 (by unfold pSum; rw [pSumL_s hc]; rfl)
  · refine J_iconst (nx := 8) (i := 0) (v := 0) (by decide) dX12_readSum_7 rfl ?_
    obtain ⟨e, he, hb, hf⟩ := p_1.no c_4
    obtain ⟨hc, rfl⟩ := pPartR_inl he
    exact Jrz dX12_readSum_8 rfl (by decide) (Nat.zero_le _) (Nat.zero_le _) (RXi.of (by unfold pSum; rw [pSumL_n hc]; exact PM.mkN hf hb))

