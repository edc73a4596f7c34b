
/-! the Model: the lines of a text -/
def fTg (c k : Nat) : Bool := Nat.beq c 63 && (Nat.beq k 6 || (Nat.beq k 8 || (Nat.beq k 9 || (Nat.beq k 12 || Nat.beq k 16))))
def aTg (c : Nat) : Bool := Nat.beq c 64 || (Nat.beq c 68 || Nat.beq c 69)
def TG (g g2 : GS) : Prop := Fr fTg aTg g g2 ∧ ∀ i, i < lC 0 → gA g2 64 i = gA g 64 i
theorem fTg_Rd (c k : Nat) (h : fTg c k = false) : fRd c k = false := by
  unfold fTg at h; unfold fRd; revert h
  cases Nat.beq c 63 <;> cases Nat.beq k 6 <;> cases Nat.beq k 8 <;> cases Nat.beq k 9 <;> cases Nat.beq k 12 <;> simp
theorem fTg_B (c k : Nat) (h : fTg c k = false) : fB c k = false := fRd_B c k (fTg_Rd c k h)
theorem aTg_64 (c : Nat) (h : aTg c = false) : a64o c = false := by unfold aTg at h; unfold a64o; revert h; cases Nat.beq c 64 <;> simp
theorem TG.rf {g : GS} : TG g g := ⟨Fr.rf, fun _ _ => rfl⟩
theorem TG.tr {g g1 g2 : GS} (h : TG g g1) (h2 : TG g1 g2) : TG g g2 := ⟨h.1.tr h2.1, fun i hi => (h2.2 i hi).trans (h.2 i hi)⟩
theorem TG.B {g g1 g2 : GS} (h : TG g g1) (h2 : Fr fB aNo g1 g2) : TG g g2 := h.tr ⟨h2.mono fTg_B (fun _ _ => rfl), fun i _ => congrFun (h2.2.1 64 rfl) i⟩
theorem TFr.G {g g2 : GS} (h : TFr g g2) : TG g g2 := ⟨h.1.mono fTg_Rd aTg_64, h.2⟩
theorem ct_m_blanksQ (g : GS) (n : Nat) (C : Nat → Int32) (b : Nat) (hQ : MLq n C b g) : Ct mX12_blanks (rm 1 0 0) [.ref 63] (Wd g) (RXv (fun g2 => Fr fB aNo g g2 ∧ MPt n C b g2 ∧ gF g2 63 8 = nI b)) := by
  obtain ⟨p, h, rfl⟩ := hQ
  exact ct_m_blanks g n C p h
def lnO {α : Type} (line : Nat → α → Nat ⊕ (Nat × α)) (ln b : Nat) (s : α) : Nat ⊕ (Nat × α) := if ln = 12 then .inl b else line b s
theorem pText_e {n : Nat} {C : Nat → Int32} {α : Type} {line : Nat → α → Nat ⊕ (Nat × α)} {ln b e : Nat} {s : α} (hl : ln ≤ 12) (h : lnO line ln b s = .inl e) : pText (obT n C) line (12 - ln) b s = .inl e := by
  unfold lnO at h
  by_cases c : ln = 12
  · rw [if_pos c] at h; rw [c]; cases h; rfl
  · rw [if_neg c] at h
    rw [show 12 - ln = (12 - (ln + 1)) + 1 by omega]
    show (match line b s with | .inl e => (Sum.inl e : Nat ⊕ α) | .inr q => if oN (obT n C) ≤ q.1 then .inr q.2 else if oSgn (obT n C) q.1 = 59 then pText (obT n C) line (12 - (ln + 1)) (oNxt (obT n C) q.1) q.2 else .inl q.1) = _
    rw [h]
theorem pText_y {n : Nat} {C : Nat → Int32} {α : Type} {line : Nat → α → Nat ⊕ (Nat × α)} {ln b : Nat} {s : α} {q : Nat × α} (hl : ln ≤ 12) (h : lnO line ln b s = .inr q) : ln < 12 ∧ pText (obT n C) line (12 - ln) b s = if n ≤ q.1 then .inr q.2 else if obSgn n C q.1 = 59 then pText (obT n C) line (12 - (ln + 1)) (obNxt n C q.1) q.2 else .inl q.1 := by
  unfold lnO at h
  by_cases c : ln = 12
  · rw [if_pos c] at h; cases h
  · rw [if_neg c] at h
    refine ⟨by omega, ?_⟩
    rw [show 12 - ln = (12 - (ln + 1)) + 1 by omega]
    show (match line b s with | .inl e => (Sum.inl e : Nat ⊕ α) | .inr q => if oN (obT n C) ≤ q.1 then .inr q.2 else if oSgn (obT n C) q.1 = 59 then pText (obT n C) line (12 - (ln + 1)) (oNxt (obT n C) q.1) q.2 else .inl q.1) = _
    rw [h]; rfl
def PLO {α : Type} (I : GS → Nat → Nat → α → Prop) (ln : Nat) (g : GS) (r : Nat ⊕ (Nat × α)) (x : Int32) (g2 : GS) : Prop := TG g g2 ∧ (match r with
  | .inl e => x = 0 ∧ gF g2 63 8 = nI e
  | .inr q => x = 1 ∧ I g2 (ln + 1) q.1 q.2)
theorem PLO.no {α : Type} {I : GS → Nat → Nat → α → Prop} {ln : Nat} {g g2 : GS} {r : Nat ⊕ (Nat × α)} {x : Int32} (h : PLO I ln g r x g2) (hx : x = 0) : ∃ e, r = .inl e ∧ gF g2 63 8 = nI e ∧ TG g g2 := by
  obtain ⟨h1, h2⟩ := h
  cases r with
  | inl e => exact ⟨e, rfl, h2.2, h1⟩
  | inr q => exact absurd (h2.1.symm.trans hx) (by decide)
theorem PLO.yes {α : Type} {I : GS → Nat → Nat → α → Prop} {ln : Nat} {g g2 : GS} {r : Nat ⊕ (Nat × α)} {x : Int32} (h : PLO I ln g r x g2) (hx : ¬ x = 0) : ∃ q, r = .inr q ∧ x = 1 ∧ I g2 (ln + 1) q.1 q.2 ∧ TG g g2 := by
  obtain ⟨h1, h2⟩ := h
  cases r with
  | inl e => exact absurd h2.1 hx
  | inr q => exact ⟨q, rfl, h2.1, h2.2, h1⟩
set_option maxRecDepth 100000 in
set_option maxHeartbeats 4000000 in
theorem lp_m_reads (n0 : Nat) (Q : Res → List ME → Prop) (kd : Int32) (n : Nat) (C : Nat → Int32) {α : Type} (line : Nat → α → Nat ⊕ (Nat × α)) (I : GS → Nat → Nat → α → Prop) (hLine : ∀ (g : GS) (ln b : Nat) (s : α), ln ≤ 12 → I g ln b s → Ct mX12_readLine (rm 41 0 0) [.ref 63, .int (nI (ln))] (Wd g) (RXi (PLO I ln g (lnO line ln b s)))) (hM : ∀ (g : GS) (ln b : Nat) (s : α), I g ln b s → MLq n C b g) (hmv : ∀ (g g2 : GS) (ln b b2 : Nat) (s : α), I g ln b s → Fr fB aNo g g2 → MLq n C b2 g2 → b ≤ b2 → I g2 ln b2 s) (g0 : GS) : ∀ (k ln b : Nat) (s : α) (g : GS) (r : Nat ⊕ α), ln + k = 13 → I g ln b s → TG g0 g → r = pText (obT n C) line (12 - ln) b s → (∀ (g2 : GS) (ln2 b2 : Nat) (s2 : α), r = .inr s2 → I g2 ln2 b2 s2 → ln2 ≤ 12 → n ≤ b2 → TG g0 g2 → J mX12_reads (rm 42 0 0) Q n0 142 [some (.ref 63), some (.int kd), some (.int (nI (ln2))), some (.int 1), some (.int 0)] [] (Wd g2) 0 0) → (∀ (g2 : GS) (ln2 e : Nat), r = .inl e → gF g2 63 8 = nI e → TG g0 g2 → ln2 ≤ 13 → J mX12_reads (rm 42 0 0) Q n0 142 [some (.ref 63), some (.int kd), some (.int (nI (ln2))), some (.int 0), some (.int 0)] [] (Wd g2) 0 0) → ln ≤ 12 → J mX12_reads (rm 42 0 0) Q n0 59 [some (.ref 63), some (.int kd), some (.int (nI (ln))), some (.int 1), some (.int 1)] [] (Wd g) 0 0 := by
  intro k
  induction k with
  | zero => intro ln b s g r hk hI hfr hr hG hB hl; exact absurd hk (by omega)
  | succ k ih =>
    intro ln b s g r hk hI hfr hr hG hB hl
    skip
    refine J_iload (nx := 61) dX12_reads_59 rfl rfl ?_
    refine J_if_eq (nx := 64) (tgt := 142) dX12_reads_61 rfl (by decide) (fun c_61 => ?_) (fun c_61 => ?_)
    · exact absurd c_61 (by decide)
    · refine J_aload_n (nx := 65) dX12_reads_64 rfl rfl ?_
      refine J_iload_n (nx := 66) dX12_reads_65 rfl rfl ?_
      refine JiV1 (R' := rm (41) 0 0) (nx := 69) dX12_reads_66 rfl ml_X12_readLine lk_X12_231 iv_X12_readLine rfl rfl ⟨(Nat.le_of_ble_eq_true rfl), (Nat.le_of_ble_eq_true rfl)⟩ (Nat.le_of_ble_eq_true rfl) ⟨rfl, rfl⟩ (hLine g ln b s (by omega) hI) (fun x_66 g_66 p_66 => ?_)
      refine J_istore_n (nx := 70) dX12_reads_69 rfl rfl (Nat.le_of_ble_eq_true rfl) ?_
      refine J_iinc (nx := 73) dX12_reads_70 rfl rfl rfl (Nat.le_of_ble_eq_true rfl) ?_
      refine J_iload_n (nx := 74) dX12_reads_73 rfl rfl ?_
      refine J_if_eq (nx := 77) (tgt := 81) dX12_reads_74 rfl (by decide) (fun c_74 => ?_) (fun c_74 => ?_)
      · refine J_iload_n (nx := 82) dX12_reads_81 rfl rfl ?_
        refine J_if_eq (nx := 85) (tgt := 100) dX12_reads_82 rfl (by decide) (fun c_82 => ?_) (fun c_82 => ?_)
        · refine J_iconst (nx := 101) (i := 0) (v := 0) (by decide) dX12_reads_100 rfl ?_
          refine J_istore (nx := 103) dX12_reads_101 rfl rfl (Nat.le_of_ble_eq_true rfl) ?_
          refine J_iload (nx := 105) dX12_reads_103 rfl rfl ?_
          refine J_if_eq (nx := 108) (tgt := 124) dX12_reads_105 rfl (by decide) (fun c_105 => ?_) (fun c_105 => ?_)
          · refine J_iload (nx := 126) dX12_reads_124 rfl rfl ?_
            refine J_if_eq (nx := 129) (tgt := 59) dX12_reads_126 rfl (by decide) (fun c_126 => ?_) (fun c_126 => ?_)
            · skip
              refine J_iload (nx := 61) dX12_reads_59 rfl rfl ?_
              refine J_if_eq (nx := 64) (tgt := 142) dX12_reads_61 rfl (by decide) (fun c_61 => ?_) (fun c_61 => ?_)
              · obtain ⟨e, he, hb, hT⟩ := p_66.no c_74
                rw [show (nI (ln) + Int32.ofInt 1) = nI (ln + 1) from (show nI (ln) + Int32.ofInt 1 = nI (ln + 1) from nI_add (ln) 1), c_74]
                exact hB g_66 (ln + 1) e (hr.trans (pText_e (by omega) he)) hb (hfr.tr hT) (by omega)
              · exact absurd c_61 (by decide)
            · exact absurd c_126 (by decide)
          · exact absurd c_105 (by decide)
        · exact absurd c_74 c_82
      · obtain ⟨q, he, hx1, hI2, hT⟩ := p_66.yes c_74
        have hQ2 := hM _ _ _ _ hI2
        have hle2 := hQ2.le
        obtain ⟨hl12, hpt⟩ := pText_y (n := n) (C := C) (by omega) he
        refine J_aload_n (nx := 78) dX12_reads_77 rfl rfl ?_
        refine JvV0 (R' := rm (1) 0 0) (nx := 81) dX12_reads_78 rfl ml_X12_blanks lk_X12_97 iv_X12_blanks rfl rfl ⟨(Nat.le_of_ble_eq_true rfl), (Nat.le_of_ble_eq_true rfl)⟩ (Nat.le_of_ble_eq_true rfl) ⟨rfl, rfl⟩ (ct_m_blanksQ g_66 n C q.1 hQ2) (fun g_78 p_78 => ?_)
        refine J_iload_n (nx := 82) dX12_reads_81 rfl rfl ?_
        refine J_if_eq (nx := 85) (tgt := 100) dX12_reads_82 rfl (by decide) (fun c_82 => ?_) (fun c_82 => ?_)
        · exact absurd c_82 c_74
        · refine J_aload_n (nx := 86) dX12_reads_85 rfl rfl ?_
          skip
          refine Jg_63_6 (nx := 89) dX12_reads_86 rfl fl_X12_84 ?_
          rw [p_78.2.1.2.2.2.1]
          refine J_aload_n (nx := 90) dX12_reads_89 rfl rfl ?_
          refine Jg_63_7 (nx := 93) dX12_reads_90 rfl fl_X12_87 ?_
          rw [p_78.2.1.1]
          refine J_icmp_ge (nx := 96) (tgt := 100) dX12_reads_93 rfl (by decide) (fun c_93 => ?_) (fun c_93 => ?_)
          · refine J_iconst (nx := 101) (i := 0) (v := 0) (by decide) dX12_reads_100 rfl ?_
            refine J_istore (nx := 103) dX12_reads_101 rfl rfl (Nat.le_of_ble_eq_true rfl) ?_
            refine J_iload (nx := 105) dX12_reads_103 rfl rfl ?_
            refine J_if_eq (nx := 108) (tgt := 124) dX12_reads_105 rfl (by decide) (fun c_105 => ?_) (fun c_105 => ?_)
            · refine J_iload (nx := 126) dX12_reads_124 rfl rfl ?_
              refine J_if_eq (nx := 129) (tgt := 59) dX12_reads_126 rfl (by decide) (fun c_126 => ?_) (fun c_126 => ?_)
              · skip
                refine J_iload (nx := 61) dX12_reads_59 rfl rfl ?_
                refine J_if_eq (nx := 64) (tgt := 142) dX12_reads_61 rfl (by decide) (fun c_61 => ?_) (fun c_61 => ?_)
                · rw [show (nI (ln) + Int32.ofInt 1) = nI (ln + 1) from (show nI (ln) + Int32.ofInt 1 = nI (ln + 1) from nI_add (ln) 1), hx1]
                  have hge : n ≤ q.1 := nI_led (by omega) (by omega) c_93
                  refine hG g_78 (ln + 1) q.1 q.2 (hr.trans (hpt.trans (if_pos hge))) (hmv _ _ _ _ _ _ hI2 p_78.1 ⟨q.1, p_78.2.1, hle2.2.2⟩ (Nat.le_refl _)) (by omega) hge ((hfr.tr hT).B p_78.1)
                · exact absurd c_61 (by decide)
              · exact absurd c_126 (by decide)
            · exact absurd c_105 (by decide)
          · refine J_iconst (nx := 97) (i := 1) (v := 1) (by decide) dX12_reads_96 rfl ?_
            refine J_goto (nx := 101) dX12_reads_97 (by decide) ?_
            refine J_istore (nx := 103) dX12_reads_101 rfl rfl (Nat.le_of_ble_eq_true rfl) ?_
            refine J_iload (nx := 105) dX12_reads_103 rfl rfl ?_
            refine J_if_eq (nx := 108) (tgt := 124) dX12_reads_105 rfl (by decide) (fun c_105 => ?_) (fun c_105 => ?_)
            · exact absurd c_105 (by decide)
            · refine J_aload_n (nx := 109) dX12_reads_108 rfl rfl ?_
              refine J_bipush (nx := 111) (i := 59) (v := 59) (by decide) dX12_reads_109 rfl ?_
              refine J_bipush (nx := 113) (i := 59) (v := 59) (by decide) dX12_reads_111 rfl ?_
              refine JcV2 (R' := rm (0) 0 0) (nx := 116) dX12_reads_113 rfl ml_X12_isAt lk_X12_90 iv_X12_isAt rfl rfl ⟨(Nat.le_of_ble_eq_true rfl), (Nat.le_of_ble_eq_true rfl)⟩ (Nat.le_of_ble_eq_true rfl) ⟨rfl, rfl⟩ (ct_m_isAt g_78 n C q.1 p_78.2.1 59 59) ?_
              rw [sgn_at (by decide) (by decide) (by decide)]
              refine J_if_ne (nx := 119) (tgt := 124) dX12_reads_116 rfl (by decide) (fun c_116 => ?_) (fun c_116 => ?_)
              · refine J_iload (nx := 126) dX12_reads_124 rfl rfl ?_
                refine J_if_eq (nx := 129) (tgt := 59) dX12_reads_126 rfl (by decide) (fun c_126 => ?_) (fun c_126 => ?_)
                · exact absurd c_126 (by decide)
                · refine J_aload_n (nx := 130) dX12_reads_129 rfl rfl ?_
                  refine J_dup (nx := 131) rfl dX12_reads_130 rfl ?_
                  refine Jg_63_6 (nx := 134) dX12_reads_131 rfl fl_X12_84 ?_
                  refine J_iconst (nx := 135) (i := 1) (v := 1) (by decide) dX12_reads_134 rfl ?_
                  refine J_iadd (nx := 136) dX12_reads_135 rfl ?_
                  refine Jp_63_6 (nx := 139) dX12_reads_136 rfl fl_X12_84 ?_
                  refine J.gen (fun g_136 hg_136 => ?_)
                  refine J_goto (nx := 59) dX12_reads_139 (by decide) ?_
                  skip
                  have hs59 := of_decide_eq_true (bI_n0.mp c_116)
                  have hqn := (sgn_in (by decide) hs59).1
                  have hte := (sgn_in (by decide) hs59).2
                  have hnx := obNxt_le n C q.1 hqn
                  have hnn : ¬ n ≤ q.1 := by omega
                  have hf134 : Fr fB aNo g_66 g_136 := by rw [hg_136]; exact Fr.sF p_78.1 rfl
                  have hQ136 : MLq n C (obNxt n C q.1) g_136 := ⟨q.1 + 1, p_78.2.1.mv (by rw [hg_136]; exact Fr.sF Fr.rf rfl) (by rw [hg_136]; exact (congrArg (· + 1) p_78.2.1.2.2.2.1).trans (nI_add _ 1)) (by omega), by unfold obNxt; rw [hte]⟩
                  rw [show (nI (ln) + Int32.ofInt 1) = nI (ln + 1) from (show nI (ln) + Int32.ofInt 1 = nI (ln + 1) from nI_add (ln) 1), hx1]
                  exact ih (ln + 1) (obNxt n C q.1) q.2 g_136 r (by omega) (hmv _ _ _ _ _ _ hI2 hf134 hQ136 (by omega)) ((hfr.tr hT).B hf134) (hr.trans (hpt.trans ((if_neg hnn).trans (if_pos hs59)))) hG hB (by omega)
              · skip
                refine J_iconst (nx := 120) (i := 0) (v := 0) (by decide) dX12_reads_119 rfl ?_
                refine J_istore_n (nx := 121) dX12_reads_120 rfl rfl (Nat.le_of_ble_eq_true rfl) ?_
                refine J_iconst (nx := 122) (i := 0) (v := 0) (by decide) dX12_reads_121 rfl ?_
                refine J_istore (nx := 124) dX12_reads_122 rfl rfl (Nat.le_of_ble_eq_true rfl) ?_
                refine J_iload (nx := 126) dX12_reads_124 rfl rfl ?_
                refine J_if_eq (nx := 129) (tgt := 59) dX12_reads_126 rfl (by decide) (fun c_126 => ?_) (fun c_126 => ?_)
                · skip
                  refine J_iload (nx := 61) dX12_reads_59 rfl rfl ?_
                  refine J_if_eq (nx := 64) (tgt := 142) dX12_reads_61 rfl (by decide) (fun c_61 => ?_) (fun c_61 => ?_)
                  · rw [show (nI (ln) + Int32.ofInt 1) = nI (ln + 1) from (show nI (ln) + Int32.ofInt 1 = nI (ln + 1) from nI_add (ln) 1)]
                    refine hB g_78 (ln + 1) q.1 (hr.trans (hpt.trans ?_)) p_78.2.2 ((hfr.tr hT).B p_78.1) (by omega)
                    rw [if_neg (fun z => absurd (nI_le_n z (by omega)) c_93), if_neg (of_decide_eq_false (bI_0.mp c_116))]
                  · exact absurd c_61 (by decide)
                · exact absurd c_126 (by decide)

