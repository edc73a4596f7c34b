
/-! the Model: numbers, steps, parts -/
theorem numV_0 {C : Nat → Int32} {b : Nat} : numV C b b = 0 := by unfold numV; rw [Nat.sub_self]; rfl
set_option maxRecDepth 100000 in
set_option maxHeartbeats 4000000 in
theorem ct_m_number (g : GS) (n : Nat) (C : Nat → Int32) (b : Nat) (hQ : MLq n C b g) (hi : Int32) : Ct mX12_number (rm 2 0 0) [.ref 63, .int hi] (Wd g) (RXi (fun x g2 => Fr fB aNo g g2 ∧ gF g2 63 8 = nI b ∧ ((∃ v, v ≤ 9999 ∧ obNum n C b = nI v ∧ ¬ hi < nI v ∧ x = nI v ∧ MLq n C (obNxt n C b) g2) ∨ ((obNum n C b = -1 ∨ hi < obNum n C b) ∧ x = -1)))) := by
  refine Ct.of (by decide +kernel) (Nat.le_of_ble_eq_true rfl) ?_
  show J _ _ _ _ 0 [some (.ref 63), some (.int hi), none] [] _ 0 0
  obtain ⟨p, h, rfl⟩ := hQ
  have hn4 := h.2.1
  have hp4 := h.2.2.2.2
  have hsk := sk_le n C p hp4
  have hlel := leN_le (C := C) hsk.2
  refine J_aload_n (nx := 1) dX12_number_0 rfl rfl ?_
  refine JvV0 (R' := rm (1) 0 0) (nx := 4) dX12_number_1 rfl ml_X12_blanks lk_X12_97 iv_X12_blanks rfl rfl ⟨(Nat.le_of_ble_eq_true rfl), (Nat.le_of_ble_eq_true rfl)⟩ (Nat.le_of_ble_eq_true rfl) ⟨rfl, rfl⟩ (ct_m_blanks g n C p h) (fun g_1 p_1 => ?_)
  refine J_iconst (nx := 5) (i := 0) (v := 0) (by decide) dX12_number_4 rfl ?_
  refine J_istore_n (nx := 6) dX12_number_5 rfl rfl (Nat.le_of_ble_eq_true rfl) ?_
  have hdg := dgN_le (n := n) (C := C) (b := (sk n C p)) hsk.2
  have hv := obNum_v (n := n) (C := C) (b := (sk n C p)) hn4 hsk.2
  refine J.lv (fun v => [some (.ref 63), some (.int hi), some (.int (v))]) (y := numV C (sk n C p) (sk n C p)) numV_0.symm (J.post (lp_m_number g_1 n C (sk n C p) hi _ 400 (sk n C p) g_1 (dgN n C (sk n C p)) (by omega) (Nat.le_refl _) Fr.rf p_1.2.1 p_1.2.2 rfl) (fun r es q => ?_))
  obtain ⟨x, g2, hr, he, hx, hf, hm, hb⟩ := q
  refine ⟨x, g2, hr, he, p_1.1.tr (hf.mono f6_B (fun _ h => h)), hb, ?_⟩
  by_cases c1 : dgN n C (sk n C p) = (sk n C p)
  · rw [if_pos c1] at hx; exact Or.inr ⟨Or.inl (hv.1 c1), hx⟩
  · rw [if_neg c1] at hx
    by_cases c2 : 4 < dgN n C (sk n C p) - (sk n C p)
    · rw [if_pos c2] at hx; exact Or.inr ⟨Or.inl (hv.2.1 c2), hx⟩
    · rw [if_neg c2] at hx
      obtain ⟨e1, e2, v, hv9, e3⟩ := hv.2.2 c1 c2
      rw [← e1] at hx
      by_cases c3 : hi < obNum n C (sk n C p)
      · rw [if_pos c3] at hx; exact Or.inr ⟨Or.inr c3, hx⟩
      · rw [if_neg c3] at hx
        exact Or.inl ⟨v, hv9, e3, by rw [← e3]; exact c3, hx.trans e3, ⟨_, hm, e2.symm⟩⟩


def stI (k : Nat) : Nat := 1310 + 861 * 5 + 61 + 2 * k
def emG (g : GS) (k : Nat) (s m : Int32) : GS := sF (wU (wU g (stI k) s) (stI k + 1) m) 63 12 (nI (k + 1))
set_option maxRecDepth 100000 in
set_option maxHeartbeats 4000000 in
theorem ct_m_emits (g : GS) (k : Nat) (hk : gF g 63 12 = nI k) (hk4 : k < 400) (s m : Int32) : Ct mX12_emits (rm 1 0 0) [.ref 63, .int s, .int m] (Wd g) (RR (.inl none) (emG g k s m)) := by
  refine Ct.of (by decide +kernel) (Nat.le_of_ble_eq_true rfl) ?_
  show J _ _ _ _ 0 [some (.ref 63), some (.int s), some (.int m), none] [] _ 0 0
  refine J_iconst (nx := 1) (i := 5) (v := 5) (by decide) dX12_emits_0 rfl ?_
  refine JcS1 (R' := rm (0) 0 0) (nx := 4) dX12_emits_1 rfl ml_X12_textAt lk_X12_117 st_X12_textAt ⟨(Nat.le_of_ble_eq_true rfl), (Nat.le_of_ble_eq_true rfl)⟩ (Nat.le_of_ble_eq_true rfl) ⟨rfl, rfl⟩ (ct_m_textAt _ (5)) ?_
  refine J_bipush (nx := 6) (i := 61) (v := 61) (by decide) dX12_emits_4 rfl ?_
  refine J_iadd (nx := 7) dX12_emits_6 rfl ?_
  refine J_iconst (nx := 8) (i := 2) (v := 2) (by decide) dX12_emits_7 rfl ?_
  refine J_aload_n (nx := 9) dX12_emits_8 rfl rfl ?_
  refine Jg_63_12 (nx := 12) dX12_emits_9 rfl fl_X12_121 ?_
  rw [hk]
  refine J_imul (nx := 13) dX12_emits_12 rfl ?_
  refine J_iadd (nx := 14) dX12_emits_13 rfl ?_
  rw [show ((nI ((1310 + 861 * 5)) + (61 : Int32)) + ((2 : Int32) * nI (k))) = nI ((((1310 + 861 * 5) + 61) + (2 * k))) from (nIa (nIa (Eq.refl (nI ((1310 + 861 * 5)))) (nIc 61)) (nIm (nIc 2) (Eq.refl (nI (k)))))]
  refine J_istore_n (nx := 15) dX12_emits_14 rfl rfl (Nat.le_of_ble_eq_true rfl) ?_
  refine J_aload_n (nx := 16) dX12_emits_15 rfl rfl ?_
  refine Jg_63_1 (nx := 19) dX12_emits_16 rfl fl_X12_13 ?_
  refine J_iload_n (nx := 20) dX12_emits_19 rfl rfl ?_
  refine J_iload_n (nx := 21) dX12_emits_20 rfl rfl ?_
  refine Jt_64 (nx := 22) dX12_emits_21 rfl (vpE (n := (((1310 + 861 * 5) + 61) + (2 * k))) (Eq.refl (nI ((((1310 + 861 * 5) + 61) + (2 * k))))) (by omega) (by decide)) ?_
  rw [clE (n := (((1310 + 861 * 5) + 61) + (2 * k))) (Eq.refl (nI ((((1310 + 861 * 5) + 61) + (2 * k))))) (by omega)]
  refine J.gen (fun g_21 hg_21 => ?_)
  refine J_aload_n (nx := 23) dX12_emits_22 rfl rfl ?_
  refine Jg_63_1 (nx := 26) dX12_emits_23 rfl fl_X12_13 ?_
  refine J_iload_n (nx := 27) dX12_emits_26 rfl rfl ?_
  refine J_iconst (nx := 28) (i := 1) (v := 1) (by decide) dX12_emits_27 rfl ?_
  refine J_iadd (nx := 29) dX12_emits_28 rfl ?_
  refine J_iload_n (nx := 30) dX12_emits_29 rfl rfl ?_
  refine Jt_64 (nx := 31) dX12_emits_30 rfl (vpE (n := ((((1310 + 861 * 5) + 61) + (2 * k)) + 1)) (nIa (Eq.refl (nI ((((1310 + 861 * 5) + 61) + (2 * k))))) (nIc 1)) (by omega) (by decide)) ?_
  rw [clE (n := ((((1310 + 861 * 5) + 61) + (2 * k)) + 1)) (nIa (Eq.refl (nI ((((1310 + 861 * 5) + 61) + (2 * k))))) (nIc 1)) (by omega)]
  refine J.gen (fun g_30 hg_30 => ?_)
  refine J_aload_n (nx := 32) dX12_emits_31 rfl rfl ?_
  refine J_dup (nx := 33) rfl dX12_emits_32 rfl ?_
  refine Jg_63_12 (nx := 36) dX12_emits_33 rfl fl_X12_121 ?_
  refine J_iconst (nx := 37) (i := 1) (v := 1) (by decide) dX12_emits_36 rfl ?_
  refine J_iadd (nx := 38) dX12_emits_37 rfl ?_
  refine Jp_63_12 (nx := 41) dX12_emits_38 rfl fl_X12_121 ?_
  refine J.gen (fun g_38 hg_38 => ?_)
  exact Jrv dX12_emits_41 rfl (Nat.zero_le _) (Nat.zero_le _) ⟨rfl, by rw [hg_38, hg_30, hg_21]; exact congrArg (fun v => Wd (sF (wU (wU g (stI k) s) (stI k + 1) m) 63 12 v)) ((congrArg (· + 1) hk).trans (nI_add k 1))⟩


def cvF (f : Nat) : Nat := [3, 4, 5, 6, 0, 1, 2, 7].getD f 0
def cv (c : Int32) : SP := if c ≤ 9999 then (8, c) else if c ≤ 10007 then (cvF (nN (c - 10000)), 0) else (nN (c - 10001), 0)
def SQ (cs : List Int32) (g : GS) : Prop := gF g 63 12 = nI cs.length ∧ ∀ i, i < cs.length → gA g 64 (stI i) = nI (cv (cs.getD i 0)).1 ∧ gA g 64 (stI i + 1) = (cv (cs.getD i 0)).2
theorem SQ.em {cs : List Int32} {g : GS} (h : SQ cs g) {x s m : Int32} (hs : s = nI (cv x).1) (hm : m = (cv x).2) : SQ (cs ++ [x]) (emG g cs.length s m) := by
  refine ⟨by rw [List.length_append, List.length_singleton]; rfl, fun i hi => ?_⟩
  rw [List.length_append, List.length_singleton] at hi
  have e : ∀ q, gA (emG g cs.length s m) 64 q = if q = stI cs.length + 1 then m else if q = stI cs.length then s else gA g 64 q := fun q => rfl
  rw [e, e]
  by_cases h1 : i = cs.length
  · rw [h1, if_neg (by omega), if_pos rfl, if_pos rfl]
    have : (cs ++ [x]).getD cs.length 0 = x := by simp [List.getD]
    rw [this]; exact ⟨hs, hm⟩
  · have h2 : i < cs.length := by omega
    have h3 : (cs ++ [x]).getD i 0 = cs.getD i 0 := by simp [List.getD, List.getElem?_append_left h2]
    have n1 : stI i ≠ stI cs.length := by unfold stI; omega
    have n2 : stI i ≠ stI cs.length + 1 := by unfold stI; omega
    have n3 : stI i + 1 ≠ stI cs.length + 1 := by unfold stI; omega
    have n4 : stI i + 1 ≠ stI cs.length := by unfold stI; omega
    rw [if_neg n2, if_neg n1, if_neg n3, if_neg n4, h3]
    exact h.2 i h2
theorem SQ.cg {cs : List Int32} {g g2 : GS} (h : SQ cs g) (h1 : gF g2 63 12 = gF g 63 12) (h2 : gA g2 64 = gA g 64) : SQ cs g2 := ⟨h1.trans h.1, fun i hi => by rw [h2]; exact h.2 i hi⟩
theorem SQ.B {cs : List Int32} {g g2 : GS} (h : SQ cs g) (hf : Fr fB aNo g g2) : SQ cs g2 := h.cg (hf.1 63 12 rfl) (hf.2.1 64 rfl)
theorem MPt.em {n : Nat} {C : Nat → Int32} {p k : Nat} {g : GS} {s m : Int32} (h : MPt n C p g) : MPt n C p (emG g k s m) := h
theorem MLq.em {n : Nat} {C : Nat → Int32} {p k : Nat} {g : GS} {s m : Int32} (h : MLq n C p g) : MLq n C p (emG g k s m) := h
def fRd (c k : Nat) : Bool := Nat.beq c 63 && (Nat.beq k 6 || (Nat.beq k 8 || (Nat.beq k 9 || Nat.beq k 12)))
theorem fRd_B (c k : Nat) (h : fRd c k = false) : fB c k = false := by
  unfold fRd at h; unfold fB; revert h
  cases Nat.beq c 63 <;> cases Nat.beq k 6 <;> cases Nat.beq k 8 <;> simp
def RFr (g g2 : GS) : Prop := Fr fRd a64o g g2 ∧ ∀ i, i < stI 0 → gA g2 64 i = gA g 64 i
theorem RFr.rf {g : GS} : RFr g g := ⟨Fr.rf, fun _ _ => rfl⟩
theorem RFr.tr {g g1 g2 : GS} (h : RFr g g1) (h2 : RFr g1 g2) : RFr g g2 := ⟨h.1.tr h2.1, fun i hi => (h2.2 i hi).trans (h.2 i hi)⟩
theorem RFr.B {g g1 g2 : GS} (h : RFr g g1) (h2 : Fr fB aNo g1 g2) : RFr g g2 := h.tr ⟨h2.mono fRd_B (fun _ _ => rfl), fun i _ => congrFun (h2.2.1 64 rfl) i⟩
theorem RFr.em {g g1 : GS} {k : Nat} {s m : Int32} (h : RFr g g1) : RFr g (emG g1 k s m) := h.tr ⟨((Fr.rf.sA rfl).sA rfl).sF rfl, fun i hi => by
  show (if i = stI k + 1 then m else if i = stI k then s else gA g1 64 i) = gA g1 64 i
  rw [if_neg (by unfold stI at *; omega), if_neg (by unfold stI at *; omega)]⟩
def PM (n : Nat) (C : Nat → Int32) (g : GS) (r : PR) (x : Int32) (g2 : GS) : Prop := RFr g g2 ∧ (match r with
  | .inl e => x = 0 ∧ gF g2 63 8 = nI e
  | .inr q => x = 1 ∧ MLq n C q.1 g2 ∧ SQ q.2 g2 ∧ gF g2 63 9 = gF g 63 9)
def kdI (rl : Bool) : Int32 := bif rl then 2 else 1
def mfA (rl : Bool) (w : Nat) : Int32 := if w = 20 then 0 else if w = 21 then 1 else if w = 22 then 2 else bif rl then (if w = 16 then 3 else if w = 17 then 4 else if w = 18 then 5 else if w = 19 then 6 else -1) else -1
def pfW (rl : Bool) (w : Nat) : Int32 := if bI rl = 0 then (if wFact.getD w 0 < 4 then -1 else wFact.getD w 0) else wFact.getD w 0
theorem mfA_pf : ∀ w, w < 23 → ∀ rl, (pfW rl w = -1 → mfA rl w = -1) ∧ (¬ pfW rl w = -1 → 0 ≤ mfA rl w ∧ mfA rl w = nI (cv (10000 + pfW rl w)).1 ∧ (0 : Int32) = (cv (10000 + pfW rl w)).2) := by decide +kernel

theorem nlt_01 : ¬ (0 : Int32) ≤ -1 := by decide
set_option maxRecDepth 100000 in
set_option maxHeartbeats 4000000 in
theorem ct_m_factAt (g : GS) (n : Nat) (C : Nat → Int32) (b : Nat) (rl : Bool) (h : MPt n C (leN n C b) g) (hbn : b ≤ n) (hb : gF g 63 8 = nI b) (hkd : gF g 63 13 = kdI rl) : Ct mX12_factAt (rm 5 0 0) [.ref 63] (Wd g) (RR (.inl (some (.int (mfA rl (obWrd n C b))))) g) := by
  have hn4 := h.2.1
  have hlel := leN_le (C := C) hbn
  refine Ct.of (by decide +kernel) (Nat.le_of_ble_eq_true rfl) ?_
  show J _ _ _ _ 0 [some (.ref 63), none] [] _ 0 0
  refine J_aload_n (nx := 1) dX12_factAt_0 rfl rfl ?_
  refine J_ldcS (nx := 3) (j := 20) dX12_factAt_1 rfl rfl (by decide) (by decide) ?_
  refine JcV1 (R' := rm (4) 0 0) (nx := 6) dX12_factAt_3 rfl ml_X12_isWord lk_X12_113 iv_X12_isWord rfl rfl ⟨(Nat.le_of_ble_eq_true rfl), (Nat.le_of_ble_eq_true rfl)⟩ (Nat.le_of_ble_eq_true rfl) ⟨rfl, rfl⟩ (ct_m_isWord g n C (leN n C b) b 20 h hb hlel.1 (by decide)) ?_
  rw [iw_wrd hn4 (by decide) (by decide)]
  refine J_if_eq (nx := 9) (tgt := 13) dX12_factAt_6 rfl (by decide) (fun c_6 => ?_) (fun c_6 => ?_)
  · refine J_aload_n (nx := 14) dX12_factAt_13 rfl rfl ?_
    refine J_ldcS (nx := 16) (j := 21) dX12_factAt_14 rfl rfl (by decide) (by decide) ?_
    refine JcV1 (R' := rm (4) 0 0) (nx := 19) dX12_factAt_16 rfl ml_X12_isWord lk_X12_113 iv_X12_isWord rfl rfl ⟨(Nat.le_of_ble_eq_true rfl), (Nat.le_of_ble_eq_true rfl)⟩ (Nat.le_of_ble_eq_true rfl) ⟨rfl, rfl⟩ (ct_m_isWord g n C (leN n C b) b 21 h hb hlel.1 (by decide)) ?_
    rw [iw_wrd hn4 (by decide) (by decide)]
    refine J_if_eq (nx := 22) (tgt := 26) dX12_factAt_19 rfl (by decide) (fun c_19 => ?_) (fun c_19 => ?_)
    · refine J_aload_n (nx := 27) dX12_factAt_26 rfl rfl ?_
      refine J_ldcS (nx := 29) (j := 22) dX12_factAt_27 rfl rfl (by decide) (by decide) ?_
      refine JcV1 (R' := rm (4) 0 0) (nx := 32) dX12_factAt_29 rfl ml_X12_isWord lk_X12_113 iv_X12_isWord rfl rfl ⟨(Nat.le_of_ble_eq_true rfl), (Nat.le_of_ble_eq_true rfl)⟩ (Nat.le_of_ble_eq_true rfl) ⟨rfl, rfl⟩ (ct_m_isWord g n C (leN n C b) b 22 h hb hlel.1 (by decide)) ?_
      rw [iw_wrd hn4 (by decide) (by decide)]
      refine J_if_eq (nx := 35) (tgt := 39) dX12_factAt_32 rfl (by decide) (fun c_32 => ?_) (fun c_32 => ?_)
      · refine J_iconst (nx := 40) (i := -1) (v := -1) (by decide) dX12_factAt_39 rfl ?_
        refine J_istore_n (nx := 41) dX12_factAt_40 rfl rfl (Nat.le_of_ble_eq_true rfl) ?_
        refine J_iload_n (nx := 42) dX12_factAt_41 rfl rfl ?_
        refine J_if_ge (nx := 45) (tgt := 53) dX12_factAt_42 rfl (by decide) (fun c_42 => ?_) (fun c_42 => ?_)
        · exact absurd c_42 (by decide)
        · refine J_aload_n (nx := 46) dX12_factAt_45 rfl rfl ?_
          refine Jg_63_13 (nx := 49) dX12_factAt_46 rfl fl_X12_130 ?_
          refine J_iconst (nx := 50) (i := 1) (v := 1) (by decide) dX12_factAt_49 rfl ?_
          rw [hkd]
          refine J_icmp_ne (nx := 53) (tgt := 55) dX12_factAt_50 rfl (by decide) (fun c_50 => ?_) (fun c_50 => ?_)
          · refine J_aload_n (nx := 56) dX12_factAt_55 rfl rfl ?_
            refine J_ldcS (nx := 58) (j := 16) dX12_factAt_56 rfl rfl (by decide) (by decide) ?_
            refine JcV1 (R' := rm (4) 0 0) (nx := 61) dX12_factAt_58 rfl ml_X12_isWord lk_X12_113 iv_X12_isWord rfl rfl ⟨(Nat.le_of_ble_eq_true rfl), (Nat.le_of_ble_eq_true rfl)⟩ (Nat.le_of_ble_eq_true rfl) ⟨rfl, rfl⟩ (ct_m_isWord g n C (leN n C b) b 16 h hb hlel.1 (by decide)) ?_
            rw [iw_wrd hn4 (by decide) (by decide)]
            refine J_if_eq (nx := 64) (tgt := 68) dX12_factAt_61 rfl (by decide) (fun c_61 => ?_) (fun c_61 => ?_)
            · refine J_aload_n (nx := 69) dX12_factAt_68 rfl rfl ?_
              refine J_ldcS (nx := 71) (j := 17) dX12_factAt_69 rfl rfl (by decide) (by decide) ?_
              refine JcV1 (R' := rm (4) 0 0) (nx := 74) dX12_factAt_71 rfl ml_X12_isWord lk_X12_113 iv_X12_isWord rfl rfl ⟨(Nat.le_of_ble_eq_true rfl), (Nat.le_of_ble_eq_true rfl)⟩ (Nat.le_of_ble_eq_true rfl) ⟨rfl, rfl⟩ (ct_m_isWord g n C (leN n C b) b 17 h hb hlel.1 (by decide)) ?_
              rw [iw_wrd hn4 (by decide) (by decide)]
              refine J_if_eq (nx := 77) (tgt := 81) dX12_factAt_74 rfl (by decide) (fun c_74 => ?_) (fun c_74 => ?_)
              · refine J_aload_n (nx := 82) dX12_factAt_81 rfl rfl ?_
                refine J_ldcS (nx := 84) (j := 18) dX12_factAt_82 rfl rfl (by decide) (by decide) ?_
                refine JcV1 (R' := rm (4) 0 0) (nx := 87) dX12_factAt_84 rfl ml_X12_isWord lk_X12_113 iv_X12_isWord rfl rfl ⟨(Nat.le_of_ble_eq_true rfl), (Nat.le_of_ble_eq_true rfl)⟩ (Nat.le_of_ble_eq_true rfl) ⟨rfl, rfl⟩ (ct_m_isWord g n C (leN n C b) b 18 h hb hlel.1 (by decide)) ?_
                rw [iw_wrd hn4 (by decide) (by decide)]
                refine J_if_eq (nx := 90) (tgt := 94) dX12_factAt_87 rfl (by decide) (fun c_87 => ?_) (fun c_87 => ?_)
                · refine J_aload_n (nx := 95) dX12_factAt_94 rfl rfl ?_
                  refine J_ldcS (nx := 97) (j := 19) dX12_factAt_95 rfl rfl (by decide) (by decide) ?_
                  refine JcV1 (R' := rm (4) 0 0) (nx := 100) dX12_factAt_97 rfl ml_X12_isWord lk_X12_113 iv_X12_isWord rfl rfl ⟨(Nat.le_of_ble_eq_true rfl), (Nat.le_of_ble_eq_true rfl)⟩ (Nat.le_of_ble_eq_true rfl) ⟨rfl, rfl⟩ (ct_m_isWord g n C (leN n C b) b 19 h hb hlel.1 (by decide)) ?_
                  rw [iw_wrd hn4 (by decide) (by decide)]
                  refine J_if_eq (nx := 103) (tgt := 108) dX12_factAt_100 rfl (by decide) (fun c_100 => ?_) (fun c_100 => ?_)
                  · refine J_iconst (nx := 109) (i := -1) (v := -1) (by decide) dX12_factAt_108 rfl ?_
                    exact Jri dX12_factAt_109 rfl (Nat.zero_le _) (Nat.zero_le _) (RR.i (show _ = mfA rl (obWrd n C b) from by
  unfold mfA
  first
    | rw [if_pos (of_decide_eq_true (bI_n0.mp c_6))]
    | (rw [if_neg (of_decide_eq_false (bI_0.mp c_6))]
       first
         | rw [if_pos (of_decide_eq_true (bI_n0.mp c_19))]
         | (rw [if_neg (of_decide_eq_false (bI_0.mp c_19))]
            first
              | rw [if_pos (of_decide_eq_true (bI_n0.mp c_32))]
              | (rw [if_neg (of_decide_eq_false (bI_0.mp c_32))]
                 cases rl with
                 | false => first | rfl | exact absurd rfl c_50
                 | true =>
                   show _ = (if obWrd n C b = 16 then 3 else if obWrd n C b = 17 then 4 else if obWrd n C b = 18 then 5 else if obWrd n C b = 19 then 6 else -1 : Int32)
                   first
                     | exact absurd c_50 (by decide)
                     | rw [if_pos (of_decide_eq_true (bI_n0.mp c_61))]
                     | (rw [if_neg (of_decide_eq_false (bI_0.mp c_61))]
                        first
                          | rw [if_pos (of_decide_eq_true (bI_n0.mp c_74))]
                          | (rw [if_neg (of_decide_eq_false (bI_0.mp c_74))]
                             first
                               | rw [if_pos (of_decide_eq_true (bI_n0.mp c_87))]
                               | (rw [if_neg (of_decide_eq_false (bI_0.mp c_87))]
                                  first
                                    | rw [if_pos (of_decide_eq_true (bI_n0.mp c_100))]
                                    | rw [if_neg (of_decide_eq_false (bI_0.mp c_100))]))))))) rfl)
                  · refine J_bipush (nx := 105) (i := 6) (v := 6) (by decide) dX12_factAt_103 rfl ?_
                    refine J_goto (nx := 109) dX12_factAt_105 (by decide) ?_
                    exact Jri dX12_factAt_109 rfl (Nat.zero_le _) (Nat.zero_le _) (RR.i (show _ = mfA rl (obWrd n C b) from by
  unfold mfA
  first
    | rw [if_pos (of_decide_eq_true (bI_n0.mp c_6))]
    | (rw [if_neg (of_decide_eq_false (bI_0.mp c_6))]
       first
         | rw [if_pos (of_decide_eq_true (bI_n0.mp c_19))]
         | (rw [if_neg (of_decide_eq_false (bI_0.mp c_19))]
            first
              | rw [if_pos (of_decide_eq_true (bI_n0.mp c_32))]
              | (rw [if_neg (of_decide_eq_false (bI_0.mp c_32))]
                 cases rl with
                 | false => first | rfl | exact absurd rfl c_50
                 | true =>
                   show _ = (if obWrd n C b = 16 then 3 else if obWrd n C b = 17 then 4 else if obWrd n C b = 18 then 5 else if obWrd n C b = 19 then 6 else -1 : Int32)
                   first
                     | exact absurd c_50 (by decide)
                     | rw [if_pos (of_decide_eq_true (bI_n0.mp c_61))]
                     | (rw [if_neg (of_decide_eq_false (bI_0.mp c_61))]
                        first
                          | rw [if_pos (of_decide_eq_true (bI_n0.mp c_74))]
                          | (rw [if_neg (of_decide_eq_false (bI_0.mp c_74))]
                             first
                               | rw [if_pos (of_decide_eq_true (bI_n0.mp c_87))]
                               | (rw [if_neg (of_decide_eq_false (bI_0.mp c_87))]
                                  first
                                    | rw [if_pos (of_decide_eq_true (bI_n0.mp c_100))]
                                    | rw [if_neg (of_decide_eq_false (bI_0.mp c_100))]))))))) rfl)
                · refine J_iconst (nx := 91) (i := 5) (v := 5) (by decide) dX12_factAt_90 rfl ?_
                  refine J_goto (nx := 109) dX12_factAt_91 (by decide) ?_
                  exact Jri dX12_factAt_109 rfl (Nat.zero_le _) (Nat.zero_le _) (RR.i (show _ = mfA rl (obWrd n C b) from by
  unfold mfA
  first
    | rw [if_pos (of_decide_eq_true (bI_n0.mp c_6))]
    | (rw [if_neg (of_decide_eq_false (bI_0.mp c_6))]
       first
         | rw [if_pos (of_decide_eq_true (bI_n0.mp c_19))]
         | (rw [if_neg (of_decide_eq_false (bI_0.mp c_19))]
            first
              | rw [if_pos (of_decide_eq_true (bI_n0.mp c_32))]
              | (rw [if_neg (of_decide_eq_false (bI_0.mp c_32))]
                 cases rl with
                 | false => first | rfl | exact absurd rfl c_50
                 | true =>
                   show _ = (if obWrd n C b = 16 then 3 else if obWrd n C b = 17 then 4 else if obWrd n C b = 18 then 5 else if obWrd n C b = 19 then 6 else -1 : Int32)
                   first
                     | exact absurd c_50 (by decide)
                     | rw [if_pos (of_decide_eq_true (bI_n0.mp c_61))]
                     | (rw [if_neg (of_decide_eq_false (bI_0.mp c_61))]
                        first
                          | rw [if_pos (of_decide_eq_true (bI_n0.mp c_74))]
                          | (rw [if_neg (of_decide_eq_false (bI_0.mp c_74))]
                             first
                               | rw [if_pos (of_decide_eq_true (bI_n0.mp c_87))]
                               | (rw [if_neg (of_decide_eq_false (bI_0.mp c_87))]
                                  first
                                    | rw [if_pos (of_decide_eq_true (bI_n0.mp c_100))]
                                    | rw [if_neg (of_decide_eq_false (bI_0.mp c_100))]))))))) rfl)
              · refine J_iconst (nx := 78) (i := 4) (v := 4) (by decide) dX12_factAt_77 rfl ?_
                refine J_goto (nx := 109) dX12_factAt_78 (by decide) ?_
                exact Jri dX12_factAt_109 rfl (Nat.zero_le _) (Nat.zero_le _) (RR.i (show _ = mfA rl (obWrd n C b) from by
  unfold mfA
  first
    | rw [if_pos (of_decide_eq_true (bI_n0.mp c_6))]
    | (rw [if_neg (of_decide_eq_false (bI_0.mp c_6))]
       first
         | rw [if_pos (of_decide_eq_true (bI_n0.mp c_19))]
         | (rw [if_neg (of_decide_eq_false (bI_0.mp c_19))]
            first
              | rw [if_pos (of_decide_eq_true (bI_n0.mp c_32))]
              | (rw [if_neg (of_decide_eq_false (bI_0.mp c_32))]
                 cases rl with
                 | false => first | rfl | exact absurd rfl c_50
                 | true =>
                   show _ = (if obWrd n C b = 16 then 3 else if obWrd n C b = 17 then 4 else if obWrd n C b = 18 then 5 else if obWrd n C b = 19 then 6 else -1 : Int32)
                   first
                     | exact absurd c_50 (by decide)
                     | rw [if_pos (of_decide_eq_true (bI_n0.mp c_61))]
                     | (rw [if_neg (of_decide_eq_false (bI_0.mp c_61))]
                        first
                          | rw [if_pos (of_decide_eq_true (bI_n0.mp c_74))]
                          | (rw [if_neg (of_decide_eq_false (bI_0.mp c_74))]
                             first
                               | rw [if_pos (of_decide_eq_true (bI_n0.mp c_87))]
                               | (rw [if_neg (of_decide_eq_false (bI_0.mp c_87))]
                                  first
                                    | rw [if_pos (of_decide_eq_true (bI_n0.mp c_100))]
                                    | rw [if_neg (of_decide_eq_false (bI_0.mp c_100))]))))))) rfl)
            · refine J_iconst (nx := 65) (i := 3) (v := 3) (by decide) dX12_factAt_64 rfl ?_
              refine J_goto (nx := 109) dX12_factAt_65 (by decide) ?_
              exact Jri dX12_factAt_109 rfl (Nat.zero_le _) (Nat.zero_le _) (RR.i (show _ = mfA rl (obWrd n C b) from by
  unfold mfA
  first
    | rw [if_pos (of_decide_eq_true (bI_n0.mp c_6))]
    | (rw [if_neg (of_decide_eq_false (bI_0.mp c_6))]
       first
         | rw [if_pos (of_decide_eq_true (bI_n0.mp c_19))]
         | (rw [if_neg (of_decide_eq_false (bI_0.mp c_19))]
            first
              | rw [if_pos (of_decide_eq_true (bI_n0.mp c_32))]
              | (rw [if_neg (of_decide_eq_false (bI_0.mp c_32))]
                 cases rl with
                 | false => first | rfl | exact absurd rfl c_50
                 | true =>
                   show _ = (if obWrd n C b = 16 then 3 else if obWrd n C b = 17 then 4 else if obWrd n C b = 18 then 5 else if obWrd n C b = 19 then 6 else -1 : Int32)
                   first
                     | exact absurd c_50 (by decide)
                     | rw [if_pos (of_decide_eq_true (bI_n0.mp c_61))]
                     | (rw [if_neg (of_decide_eq_false (bI_0.mp c_61))]
                        first
                          | rw [if_pos (of_decide_eq_true (bI_n0.mp c_74))]
                          | (rw [if_neg (of_decide_eq_false (bI_0.mp c_74))]
                             first
                               | rw [if_pos (of_decide_eq_true (bI_n0.mp c_87))]
                               | (rw [if_neg (of_decide_eq_false (bI_0.mp c_87))]
                                  first
                                    | rw [if_pos (of_decide_eq_true (bI_n0.mp c_100))]
                                    | rw [if_neg (of_decide_eq_false (bI_0.mp c_100))]))))))) rfl)
          · refine J_iload_n (nx := 54) dX12_factAt_53 rfl rfl ?_
            exact Jri dX12_factAt_54 rfl (Nat.zero_le _) (Nat.zero_le _) (RR.i (show _ = mfA rl (obWrd n C b) from by
  unfold mfA
  first
    | rw [if_pos (of_decide_eq_true (bI_n0.mp c_6))]
    | (rw [if_neg (of_decide_eq_false (bI_0.mp c_6))]
       first
         | rw [if_pos (of_decide_eq_true (bI_n0.mp c_19))]
         | (rw [if_neg (of_decide_eq_false (bI_0.mp c_19))]
            first
              | rw [if_pos (of_decide_eq_true (bI_n0.mp c_32))]
              | (rw [if_neg (of_decide_eq_false (bI_0.mp c_32))]
                 cases rl with
                 | false => first | rfl | exact absurd rfl c_50
                 | true =>
                   show _ = (if obWrd n C b = 16 then 3 else if obWrd n C b = 17 then 4 else if obWrd n C b = 18 then 5 else if obWrd n C b = 19 then 6 else -1 : Int32)
                   first
                     | exact absurd c_50 (by decide)
                     | rw [if_pos (of_decide_eq_true (bI_n0.mp c_61))]
                     | (rw [if_neg (of_decide_eq_false (bI_0.mp c_61))]
                        first
                          | rw [if_pos (of_decide_eq_true (bI_n0.mp c_74))]
                          | (rw [if_neg (of_decide_eq_false (bI_0.mp c_74))]
                             first
                               | rw [if_pos (of_decide_eq_true (bI_n0.mp c_87))]
                               | (rw [if_neg (of_decide_eq_false (bI_0.mp c_87))]
                                  first
                                    | rw [if_pos (of_decide_eq_true (bI_n0.mp c_100))]
                                    | rw [if_neg (of_decide_eq_false (bI_0.mp c_100))]))))))) rfl)
      · refine J_iconst (nx := 36) (i := 2) (v := 2) (by decide) dX12_factAt_35 rfl ?_
        refine J_goto (nx := 40) dX12_factAt_36 (by decide) ?_
        refine J_istore_n (nx := 41) dX12_factAt_40 rfl rfl (Nat.le_of_ble_eq_true rfl) ?_
        refine J_iload_n (nx := 42) dX12_factAt_41 rfl rfl ?_
        refine J_if_ge (nx := 45) (tgt := 53) dX12_factAt_42 rfl (by decide) (fun c_42 => ?_) (fun c_42 => ?_)
        · refine J_iload_n (nx := 54) dX12_factAt_53 rfl rfl ?_
          exact Jri dX12_factAt_54 rfl (Nat.zero_le _) (Nat.zero_le _) (RR.i (show _ = mfA rl (obWrd n C b) from by
  unfold mfA
  first
    | rw [if_pos (of_decide_eq_true (bI_n0.mp c_6))]
    | (rw [if_neg (of_decide_eq_false (bI_0.mp c_6))]
       first
         | rw [if_pos (of_decide_eq_true (bI_n0.mp c_19))]
         | (rw [if_neg (of_decide_eq_false (bI_0.mp c_19))]
            first
              | rw [if_pos (of_decide_eq_true (bI_n0.mp c_32))]
              | (rw [if_neg (of_decide_eq_false (bI_0.mp c_32))]
                 cases rl with
                 | false => first | rfl | exact absurd rfl c_50
                 | true =>
                   show _ = (if obWrd n C b = 16 then 3 else if obWrd n C b = 17 then 4 else if obWrd n C b = 18 then 5 else if obWrd n C b = 19 then 6 else -1 : Int32)
                   first
                     | exact absurd c_50 (by decide)
                     | rw [if_pos (of_decide_eq_true (bI_n0.mp c_61))]
                     | (rw [if_neg (of_decide_eq_false (bI_0.mp c_61))]
                        first
                          | rw [if_pos (of_decide_eq_true (bI_n0.mp c_74))]
                          | (rw [if_neg (of_decide_eq_false (bI_0.mp c_74))]
                             first
                               | rw [if_pos (of_decide_eq_true (bI_n0.mp c_87))]
                               | (rw [if_neg (of_decide_eq_false (bI_0.mp c_87))]
                                  first
                                    | rw [if_pos (of_decide_eq_true (bI_n0.mp c_100))]
                                    | rw [if_neg (of_decide_eq_false (bI_0.mp c_100))]))))))) rfl)
        · exact absurd c_42 (by decide)
    · refine J_iconst (nx := 23) (i := 1) (v := 1) (by decide) dX12_factAt_22 rfl ?_
      refine J_goto (nx := 40) dX12_factAt_23 (by decide) ?_
      refine J_istore_n (nx := 41) dX12_factAt_40 rfl rfl (Nat.le_of_ble_eq_true rfl) ?_
      refine J_iload_n (nx := 42) dX12_factAt_41 rfl rfl ?_
      refine J_if_ge (nx := 45) (tgt := 53) dX12_factAt_42 rfl (by decide) (fun c_42 => ?_) (fun c_42 => ?_)
      · refine J_iload_n (nx := 54) dX12_factAt_53 rfl rfl ?_
        exact Jri dX12_factAt_54 rfl (Nat.zero_le _) (Nat.zero_le _) (RR.i (show _ = mfA rl (obWrd n C b) from by
  unfold mfA
  first
    | rw [if_pos (of_decide_eq_true (bI_n0.mp c_6))]
    | (rw [if_neg (of_decide_eq_false (bI_0.mp c_6))]
       first
         | rw [if_pos (of_decide_eq_true (bI_n0.mp c_19))]
         | (rw [if_neg (of_decide_eq_false (bI_0.mp c_19))]
            first
              | rw [if_pos (of_decide_eq_true (bI_n0.mp c_32))]
              | (rw [if_neg (of_decide_eq_false (bI_0.mp c_32))]
                 cases rl with
                 | false => first | rfl | exact absurd rfl c_50
                 | true =>
                   show _ = (if obWrd n C b = 16 then 3 else if obWrd n C b = 17 then 4 else if obWrd n C b = 18 then 5 else if obWrd n C b = 19 then 6 else -1 : Int32)
                   first
                     | exact absurd c_50 (by decide)
                     | rw [if_pos (of_decide_eq_true (bI_n0.mp c_61))]
                     | (rw [if_neg (of_decide_eq_false (bI_0.mp c_61))]
                        first
                          | rw [if_pos (of_decide_eq_true (bI_n0.mp c_74))]
                          | (rw [if_neg (of_decide_eq_false (bI_0.mp c_74))]
                             first
                               | rw [if_pos (of_decide_eq_true (bI_n0.mp c_87))]
                               | (rw [if_neg (of_decide_eq_false (bI_0.mp c_87))]
                                  first
                                    | rw [if_pos (of_decide_eq_true (bI_n0.mp c_100))]
                                    | rw [if_neg (of_decide_eq_false (bI_0.mp c_100))]))))))) rfl)
      · exact absurd c_42 (by decide)
  · refine J_iconst (nx := 10) (i := 0) (v := 0) (by decide) dX12_factAt_9 rfl ?_
    refine J_goto (nx := 40) dX12_factAt_10 (by decide) ?_
    refine J_istore_n (nx := 41) dX12_factAt_40 rfl rfl (Nat.le_of_ble_eq_true rfl) ?_
    refine J_iload_n (nx := 42) dX12_factAt_41 rfl rfl ?_
    refine J_if_ge (nx := 45) (tgt := 53) dX12_factAt_42 rfl (by decide) (fun c_42 => ?_) (fun c_42 => ?_)
    · refine J_iload_n (nx := 54) dX12_factAt_53 rfl rfl ?_
      exact Jri dX12_factAt_54 rfl (Nat.zero_le _) (Nat.zero_le _) (RR.i (show _ = mfA rl (obWrd n C b) from by
  unfold mfA
  first
    | rw [if_pos (of_decide_eq_true (bI_n0.mp c_6))]
    | (rw [if_neg (of_decide_eq_false (bI_0.mp c_6))]
       first
         | rw [if_pos (of_decide_eq_true (bI_n0.mp c_19))]
         | (rw [if_neg (of_decide_eq_false (bI_0.mp c_19))]
            first
              | rw [if_pos (of_decide_eq_true (bI_n0.mp c_32))]
              | (rw [if_neg (of_decide_eq_false (bI_0.mp c_32))]
                 cases rl with
                 | false => first | rfl | exact absurd rfl c_50
                 | true =>
                   show _ = (if obWrd n C b = 16 then 3 else if obWrd n C b = 17 then 4 else if obWrd n C b = 18 then 5 else if obWrd n C b = 19 then 6 else -1 : Int32)
                   first
                     | exact absurd c_50 (by decide)
                     | rw [if_pos (of_decide_eq_true (bI_n0.mp c_61))]
                     | (rw [if_neg (of_decide_eq_false (bI_0.mp c_61))]
                        first
                          | rw [if_pos (of_decide_eq_true (bI_n0.mp c_74))]
                          | (rw [if_neg (of_decide_eq_false (bI_0.mp c_74))]
                             first
                               | rw [if_pos (of_decide_eq_true (bI_n0.mp c_87))]
                               | (rw [if_neg (of_decide_eq_false (bI_0.mp c_87))]
                                  first
                                    | rw [if_pos (of_decide_eq_true (bI_n0.mp c_100))]
                                    | rw [if_neg (of_decide_eq_false (bI_0.mp c_100))]))))))) rfl)
    · exact absurd c_42 (by decide)

