
/-! the Model: atoms -/
set_option maxRecDepth 100000 in
set_option maxHeartbeats 4000000 in
theorem sg_m_at114 (n0 : Nat) (D : Nat) (hD : 8 ≤ D) (n : Nat) (C : Nat → Int32) (rl : Bool) (g0 g : GS) (b : Nat) (cs : List Int32) (hS : RSt n C b cs rl g) (hl : cs.length < b) (hfr : RFr g0 g) (hd : gF g 63 9 = gF g0 63 9) (r : PR) (hr : r = pBase (obT n C) rl b cs) : J mX12_readAtom (rm D 0 0) (RXi (PM n C g0 r)) n0 114 [some (.ref 63), none] [] (Wd g) 0 0 := by
  have hbn := hS.1.le
  refine J_aload_n (nx := 115) dX12_readAtom_114 rfl rfl ?_
  refine Jg_63_13 (nx := 118) dX12_readAtom_115 rfl fl_X12_130 ?_
  rw [hS.2.2]
  refine J_iconst (nx := 119) (i := 2) (v := 2) (by decide) dX12_readAtom_118 rfl ?_
  refine J_icmp_ne (nx := 122) (tgt := 140) dX12_readAtom_119 rfl (by decide) (fun c_119 => ?_) (fun c_119 => ?_)
  · exact sg_m_atS n0 D hD n C rl g0 g b cs hS hl hfr hd (fun z => c_119 (by rw [bI_n0.mp z.1]; rfl)) r hr
  · have hrl : rl = true := by
      cases rl with
      | true => rfl
      | false => exact absurd c_119 (by decide)
    refine J_aload_n (nx := 123) dX12_readAtom_122 rfl rfl ?_
    refine J_ldcS (nx := 125) (j := 15) dX12_readAtom_123 rfl rfl (by decide) (by decide) ?_
    refine JiV1 (R' := rm (5) 0 0) (nx := 128) dX12_readAtom_125 rfl ml_X12_passes lk_X12_167 iv_X12_passes rfl rfl (rm_room (by omega) (by decide)) (Nat.le_of_ble_eq_true rfl) ⟨rfl, rfl⟩ (ct_m_passes g n C b hS.1 15 (by decide) (by decide)) (fun x_125 g_125 p_125 => ?_)
    skip
    refine J_if_eq (nx := 131) (tgt := 140) dX12_readAtom_128 rfl (by decide) (fun c_128 => ?_) (fun c_128 => ?_)
    · refine J_kill (nx := 0) 1 ?_
      rcases p_125.2.2 with ⟨h1, h2, h3⟩ | ⟨h1, h2, h3⟩
      · rw [h2] at c_128; exact absurd c_128 (by decide)
      · exact sg_m_atS n0 D hD n C rl g0 g_125 b cs ⟨h3, hS.2.1.B p_125.1, (p_125.1.1 63 13 rfl).trans hS.2.2⟩ hl (hfr.B p_125.1) ((p_125.1.1 63 9 rfl).trans hd) (fun z => h1 z.2) r hr
    · have hs : obWrd n C b = 15 ∧ MLq n C (obNxt n C b) g_125 := by
        rcases p_125.2.2 with ⟨h1, h2, h3⟩ | ⟨h1, h2, h3⟩
        · exact ⟨h1, h3⟩
        · exact absurd h2 c_128
      refine J_aload_n (nx := 132) dX12_readAtom_131 rfl rfl ?_
      refine J_bipush (nx := 134) (i := 7) (v := 7) (by decide) dX12_readAtom_132 rfl ?_
      refine J_iconst (nx := 135) (i := 0) (v := 0) (by decide) dX12_readAtom_134 rfl ?_
      refine JcV2 (R' := rm (1) 0 0) (nx := 138) dX12_readAtom_135 rfl ml_X12_emits lk_X12_144 iv_X12_emits rfl rfl (rm_room (by omega) (by decide)) (Nat.le_of_ble_eq_true rfl) ⟨rfl, rfl⟩ (ct_m_emits g_125 cs.length (hS.2.1.B p_125.1).1 (by omega) 7 0) ?_
      refine J_iconst (nx := 139) (i := 1) (v := 1) (by decide) dX12_readAtom_138 rfl ?_
      exact Jrz dX12_readAtom_139 rfl (by decide) (Nat.zero_le _) (Nat.zero_le _) (RXi.of (by rw [hr]; unfold pBase; rw [if_pos (show ¬ bI rl = 0 ∧ oWrd (obT n C) b = 15 from ⟨by rw [hrl]; decide, hs.1⟩)]; exact PM.mkY ((hfr.B p_125.1).em) hs.2.em ((hS.2.1.B p_125.1).em2 (by decide) (by decide)) ((p_125.1.1 63 9 rfl).trans hd)))

theorem RFr.dp {g g1 : GS} {v : Int32} (h : RFr g g1) : RFr g (sF g1 63 9 v) := h.tr ⟨Fr.rf.sF rfl, fun _ _ => rfl⟩
theorem sgn_wrd {n : Nat} {C : Nat → Int32} {b : Nat} {c : Int32} (h0 : ¬ c = 0) (h : obSgn n C b = c) : obWrd n C b = 0 := by
  unfold obSgn at h
  by_cases q : b < n ∧ isD (C b) = false ∧ isL (C b) = false
  · exact if_neg (fun z => by rw [q.2.2] at z; cases z.2)
  · rw [if_neg q] at h; exact absurd h.symm h0
theorem pAtom_w {n : Nat} {C : Nat → Int32} {rl : Bool} {d b : Nat} {cs : List Int32} (h : obWrd n C b = 14) : pAtom (obT n C) rl (d + 1) b cs = (match pAtom (obT n C) rl d (obNxt n C b) cs with
    | .inl e => (Sum.inl e : PR)
    | .inr q => .inr (q.1, q.2 ++ [10013])) := if_pos h
theorem pAtom_p {n : Nat} {C : Nat → Int32} {rl : Bool} {d b : Nat} {cs : List Int32} (h : obSgn n C b = 40) : pAtom (obT n C) rl (d + 1) b cs = (match pCond (obT n C) rl d (obNxt n C b) cs with
    | .inl e => (Sum.inl e : PR)
    | .inr q => if obSgn n C q.1 = 41 then .inr (obNxt n C q.1, q.2) else .inl q.1) :=
  (if_neg (show ¬ obWrd n C b = 14 by rw [sgn_wrd (by decide) h]; decide)).trans (if_pos h)
theorem pAtom_b {n : Nat} {C : Nat → Int32} {rl : Bool} {d b : Nat} {cs : List Int32} (h : ¬ obWrd n C b = 14) (h2 : ¬ obSgn n C b = 40) : pAtom (obT n C) rl d b cs = pBase (obT n C) rl b cs := by
  cases d with
  | zero => exact (if_neg h).trans (if_neg h2)
  | succ d => exact (if_neg h).trans (if_neg h2)
theorem pAtom_w0 {n : Nat} {C : Nat → Int32} {rl : Bool} {b : Nat} {cs : List Int32} (h : obWrd n C b = 14) : pAtom (obT n C) rl 0 b cs = .inl b := if_pos h
theorem pAtom_p0 {n : Nat} {C : Nat → Int32} {rl : Bool} {b : Nat} {cs : List Int32} (h : obSgn n C b = 40) : pAtom (obT n C) rl 0 b cs = .inl b := by
  show (if obWrd n C b = 14 then Sum.inl b else if obSgn n C b = 40 then Sum.inl b else pBase (obT n C) rl b cs : PR) = _
  rw [if_pos h]
  split <;> rfl
set_option maxRecDepth 100000 in
set_option maxHeartbeats 4000000 in
theorem ct_m_atom0 (g : GS) (n : Nat) (C : Nat → Int32) (b : Nat) (cs : List Int32) (rl : Bool) (hS : RSt n C b cs rl g) (hl : cs.length < b) (hd : gF g 63 9 = nI (6 - 0)) : Ct mX12_readAtom (rm (8 + 3 * 0) 0 0) [.ref 63] (Wd g) (RXi (PM n C g (pAtom (obT n C) rl 0 b cs))) := by
  refine Ct.of (by decide +kernel) (Nat.le_of_ble_eq_true rfl) ?_
  show J _ _ _ _ 0 [some (.ref 63), none] [] _ 0 0
  refine J_aload_n (nx := 1) dX12_readAtom_0 rfl rfl ?_
  refine J_bipush (nx := 3) (i := 40) (v := 40) (by decide) dX12_readAtom_1 rfl ?_
  refine JiV1 (R' := rm (2) 0 0) (nx := 6) dX12_readAtom_3 rfl ml_X12_sign lk_X12_155 iv_X12_sign rfl rfl (rm_room (by omega) (by decide)) (Nat.le_of_ble_eq_true rfl) ⟨rfl, rfl⟩ (ct_m_sign g n C b hS.1 40 (by decide) (by decide) (by decide)) (fun x_3 g_3 p_3 => ?_)
  refine J_if_eq (nx := 9) (tgt := 56) dX12_readAtom_6 rfl (by decide) (fun c_6 => ?_) (fun c_6 => ?_)
  · have hs : ¬ obSgn n C b = 40 ∧ MLq n C b g_3 := by
      rcases p_3.2.2 with ⟨h1, h2, h3⟩ | ⟨h1, h2, h3⟩
      · rw [h2] at c_6; exact absurd c_6 (by decide)
      · exact ⟨h1, h3⟩
    refine J_aload_n (nx := 57) dX12_readAtom_56 rfl rfl ?_
    refine J_ldcS (nx := 59) (j := 14) dX12_readAtom_57 rfl rfl (by decide) (by decide) ?_
    refine JiV1 (R' := rm (5) 0 0) (nx := 62) dX12_readAtom_59 rfl ml_X12_passes lk_X12_167 iv_X12_passes rfl rfl (rm_room (by omega) (by decide)) (Nat.le_of_ble_eq_true rfl) ⟨rfl, rfl⟩ (ct_m_passes g_3 n C b hs.2 14 (by decide) (by decide)) (fun x_59 g_59 p_59 => ?_)
    refine J_if_eq (nx := 65) (tgt := 114) dX12_readAtom_62 rfl (by decide) (fun c_62 => ?_) (fun c_62 => ?_)
    · have hs2 : ¬ obWrd n C b = 14 ∧ MLq n C b g_59 := by
        rcases p_59.2.2 with ⟨h1, h2, h3⟩ | ⟨h1, h2, h3⟩
        · rw [h2] at c_62; exact absurd c_62 (by decide)
        · exact ⟨h1, h3⟩
      exact sg_m_at114 _ (8 + 3 * 0) (by omega) n C rl g g_59 b cs ⟨hs2.2, (hS.2.1.B p_3.1).B p_59.1, (p_59.1.1 63 13 rfl).trans ((p_3.1.1 63 13 rfl).trans hS.2.2)⟩ hl ((RFr.rf.B p_3.1).B p_59.1) ((p_59.1.1 63 9 rfl).trans (p_3.1.1 63 9 rfl)) _ (pAtom_b hs2.1 hs.1)
    · have hs2 : obWrd n C b = 14 ∧ MLq n C (obNxt n C b) g_59 := by
        rcases p_59.2.2 with ⟨h1, h2, h3⟩ | ⟨h1, h2, h3⟩
        · exact ⟨h1, h3⟩
        · exact absurd h2 c_62
      refine J_aload_n (nx := 66) dX12_readAtom_65 rfl rfl ?_
      refine Jg_63_9 (nx := 69) dX12_readAtom_66 rfl fl_X12_159 ?_
      rw [show gF g_59 63 9 = nI 6 from (p_59.1.1 63 9 rfl).trans ((p_3.1.1 63 9 rfl).trans hd)]
      refine J_bipush (nx := 71) (i := 6) (v := 6) (by decide) dX12_readAtom_69 rfl ?_
      refine J_icmp_ne (nx := 74) (tgt := 76) dX12_readAtom_71 rfl (by decide) (fun c_71 => ?_) (fun c_71 => ?_)
      · exact absurd rfl c_71
      · refine J_iconst (nx := 75) (i := 0) (v := 0) (by decide) dX12_readAtom_74 rfl ?_
        exact Jrz dX12_readAtom_75 rfl (by decide) (Nat.zero_le _) (Nat.zero_le _) (RXi.of (by rw [pAtom_w0 hs2.1]; exact PM.mkN ((RFr.rf.B p_3.1).B p_59.1) p_59.2.1))
  · have hs : obSgn n C b = 40 ∧ MLq n C (obNxt n C b) g_3 := by
      rcases p_3.2.2 with ⟨h1, h2, h3⟩ | ⟨h1, h2, h3⟩
      · exact ⟨h1, h3⟩
      · exact absurd h2 c_6
    refine J_aload_n (nx := 10) dX12_readAtom_9 rfl rfl ?_
    refine Jg_63_9 (nx := 13) dX12_readAtom_10 rfl fl_X12_159 ?_
    rw [show gF g_3 63 9 = nI 6 from (p_3.1.1 63 9 rfl).trans hd]
    refine J_bipush (nx := 15) (i := 6) (v := 6) (by decide) dX12_readAtom_13 rfl ?_
    refine J_icmp_ne (nx := 18) (tgt := 20) dX12_readAtom_15 rfl (by decide) (fun c_15 => ?_) (fun c_15 => ?_)
    · exact absurd rfl c_15
    · refine J_iconst (nx := 19) (i := 0) (v := 0) (by decide) dX12_readAtom_18 rfl ?_
      exact Jrz dX12_readAtom_19 rfl (by decide) (Nat.zero_le _) (Nat.zero_le _) (RXi.of (by rw [pAtom_p0 hs.1]; exact PM.mkN (RFr.rf.B p_3.1) p_3.2.1))

set_option maxRecDepth 100000 in
set_option maxHeartbeats 4000000 in
theorem ct_m_atomS (n : Nat) (C : Nat → Int32) (rl : Bool) (d : Nat) (hd5 : d ≤ 5) (hA : ∀ (g : GS) (b : Nat) (cs : List Int32), RSt n C b cs rl g → cs.length < b → gF g 63 9 = nI (6 - d) → Ct mX12_readAtom (rm (8 + 3 * d) 0 0) [.ref 63] (Wd g) (RXi (PM n C g (pAtom (obT n C) rl d b cs)))) (hC : ∀ (g : GS) (b : Nat) (cs : List Int32), RSt n C b cs rl g → cs.length < b → gF g 63 9 = nI (6 - d) → Ct mX12_readCond (rm (10 + 3 * d) 0 0) [.ref 63] (Wd g) (RXi (PM n C g (pCond (obT n C) rl d b cs)))) (g : GS) (b : Nat) (cs : List Int32) (hS : RSt n C b cs rl g) (hl : cs.length < b) (hd : gF g 63 9 = nI (6 - (d + 1))) : Ct mX12_readAtom (rm (8 + 3 * (d + 1)) 0 0) [.ref 63] (Wd g) (RXi (PM n C g (pAtom (obT n C) rl (d + 1) b cs))) := by
  refine Ct.of (by decide +kernel) (Nat.le_of_ble_eq_true rfl) ?_
  show J _ _ _ _ 0 [some (.ref 63), none] [] _ 0 0
  refine J_aload_n (nx := 1) dX12_readAtom_0 rfl rfl ?_
  refine J_bipush (nx := 3) (i := 40) (v := 40) (by decide) dX12_readAtom_1 rfl ?_
  refine JiV1 (R' := rm (2) 0 0) (nx := 6) dX12_readAtom_3 rfl ml_X12_sign lk_X12_155 iv_X12_sign rfl rfl (rm_room (by omega) (by decide)) (Nat.le_of_ble_eq_true rfl) ⟨rfl, rfl⟩ (ct_m_sign g n C b hS.1 40 (by decide) (by decide) (by decide)) (fun x_3 g_3 p_3 => ?_)
  refine J_if_eq (nx := 9) (tgt := 56) dX12_readAtom_6 rfl (by decide) (fun c_6 => ?_) (fun c_6 => ?_)
  · have hs : ¬ obSgn n C b = 40 ∧ MLq n C b g_3 := by
      rcases p_3.2.2 with ⟨h1, h2, h3⟩ | ⟨h1, h2, h3⟩
      · rw [h2] at c_6; exact absurd c_6 (by decide)
      · exact ⟨h1, h3⟩
    refine J_aload_n (nx := 57) dX12_readAtom_56 rfl rfl ?_
    refine J_ldcS (nx := 59) (j := 14) dX12_readAtom_57 rfl rfl (by decide) (by decide) ?_
    refine JiV1 (R' := rm (5) 0 0) (nx := 62) dX12_readAtom_59 rfl ml_X12_passes lk_X12_167 iv_X12_passes rfl rfl (rm_room (by omega) (by decide)) (Nat.le_of_ble_eq_true rfl) ⟨rfl, rfl⟩ (ct_m_passes g_3 n C b hs.2 14 (by decide) (by decide)) (fun x_59 g_59 p_59 => ?_)
    refine J_if_eq (nx := 65) (tgt := 114) dX12_readAtom_62 rfl (by decide) (fun c_62 => ?_) (fun c_62 => ?_)
    · have hs2 : ¬ obWrd n C b = 14 ∧ MLq n C b g_59 := by
        rcases p_59.2.2 with ⟨h1, h2, h3⟩ | ⟨h1, h2, h3⟩
        · rw [h2] at c_62; exact absurd c_62 (by decide)
        · exact ⟨h1, h3⟩
      exact sg_m_at114 _ (8 + 3 * (d + 1)) (by omega) n C rl g g_59 b cs ⟨hs2.2, (hS.2.1.B p_3.1).B p_59.1, (p_59.1.1 63 13 rfl).trans ((p_3.1.1 63 13 rfl).trans hS.2.2)⟩ hl ((RFr.rf.B p_3.1).B p_59.1) ((p_59.1.1 63 9 rfl).trans (p_3.1.1 63 9 rfl)) _ (pAtom_b hs2.1 hs.1)
    · have hs2 : obWrd n C b = 14 ∧ MLq n C (obNxt n C b) g_59 := by
        rcases p_59.2.2 with ⟨h1, h2, h3⟩ | ⟨h1, h2, h3⟩
        · exact ⟨h1, h3⟩
        · exact absurd h2 c_62
      refine J_aload_n (nx := 66) dX12_readAtom_65 rfl rfl ?_
      refine Jg_63_9 (nx := 69) dX12_readAtom_66 rfl fl_X12_159 ?_
      rw [show gF g_59 63 9 = nI (6 - (d + 1)) from (p_59.1.1 63 9 rfl).trans ((p_3.1.1 63 9 rfl).trans hd)]
      refine J_bipush (nx := 71) (i := 6) (v := 6) (by decide) dX12_readAtom_69 rfl ?_
      refine J_icmp_ne (nx := 74) (tgt := 76) dX12_readAtom_71 rfl (by decide) (fun c_71 => ?_) (fun c_71 => ?_)
      · refine J_aload_n (nx := 77) dX12_readAtom_76 rfl rfl ?_
        refine J_dup (nx := 78) rfl dX12_readAtom_77 rfl ?_
        refine Jg_63_9 (nx := 81) dX12_readAtom_78 rfl fl_X12_159 ?_
        refine J_iconst (nx := 82) (i := 1) (v := 1) (by decide) dX12_readAtom_81 rfl ?_
        refine J_iadd (nx := 83) dX12_readAtom_82 rfl ?_
        refine Jp_63_9 (nx := 86) dX12_readAtom_83 rfl fl_X12_159 ?_
        refine J.gen (fun g_83 hg_83 => ?_)
        have hd83 : gF g_83 63 9 = nI (6 - d) := by
          rw [hg_83]
          show gF g_59 63 9 + 1 = nI (6 - d)
          rw [show gF g_59 63 9 = nI (6 - (d + 1)) from (p_59.1.1 63 9 rfl).trans ((p_3.1.1 63 9 rfl).trans hd), show nI (6 - (d + 1)) + 1 = nI (6 - (d + 1) + 1) from nI_add _ 1, show 6 - (d + 1) + 1 = 6 - d by omega]
        have hbn : b < n := (wrd_in (by decide) hs2.1).1
        have hnx := obNxt_le n C b hbn
        have hn4 := hS.1.le.2.1
        have hS83 : RSt n C (obNxt n C b) cs rl g_83 := by
          rw [hg_83]
          exact ⟨hs2.2, ((hS.2.1.B p_3.1).B p_59.1).cg rfl rfl, (p_59.1.1 63 13 rfl).trans ((p_3.1.1 63 13 rfl).trans hS.2.2)⟩
        have hfr83 : RFr g g_83 := by rw [hg_83]; exact ((RFr.rf.B p_3.1).B p_59.1).dp
        refine J_aload_n (nx := 87) dX12_readAtom_86 rfl rfl ?_
        refine JiV0 (R' := rm (8 + 3 * d) 0 0) (nx := 90) dX12_readAtom_87 rfl ml_X12_readAtom lk_X12_170 iv_X12_readAtom rfl rfl (rm_room (by omega) (by decide)) (Nat.le_of_ble_eq_true rfl) ⟨rfl, rfl⟩ (hA g_83 (obNxt n C b) cs hS83 (by omega) hd83) (fun x_87 g_87 p_87 => ?_)
        refine J_if_ne (nx := 93) (tgt := 95) dX12_readAtom_90 rfl (by decide) (fun c_90 => ?_) (fun c_90 => ?_)
        · obtain ⟨q, he, hq1, hq2, hq3, hf⟩ := p_87.yes c_90
          have hok := pAtom_ok (obT_ok n C hn4) rl d (obNxt n C b) cs hnx.2
          rw [he] at hok
          obtain ⟨hk1, hk2, hk3⟩ := (show obNxt n C b < q.1 ∧ q.1 ≤ n ∧ q.2.length + obNxt n C b ≤ q.1 + cs.length from hok)
          refine J_aload_n (nx := 96) dX12_readAtom_95 rfl rfl ?_
          refine J_dup (nx := 97) rfl dX12_readAtom_96 rfl ?_
          refine Jg_63_9 (nx := 100) dX12_readAtom_97 rfl fl_X12_159 ?_
          refine J_iconst (nx := 101) (i := 1) (v := 1) (by decide) dX12_readAtom_100 rfl ?_
          refine J_isub (nx := 102) dX12_readAtom_101 rfl ?_
          refine Jp_63_9 (nx := 105) dX12_readAtom_102 rfl fl_X12_159 ?_
          refine J.gen (fun g_102 hg_102 => ?_)
          have hq102 : SQ q.2 g_102 := by rw [hg_102]; exact hq2
          have hQ102 : MLq n C q.1 g_102 := by rw [hg_102]; exact hq1
          have hd102 : gF g_102 63 9 = nI (6 - (d + 1)) := by
            rw [hg_102]
            show gF g_87 63 9 - 1 = _
            rw [hq3.trans hd83, show nI (6 - d) - 1 = nI (6 - d - 1) from nIs (by omega) rfl (nIc 1), show 6 - d - 1 = 6 - (d + 1) by omega]
          have hfr102 : RFr g g_102 := by rw [hg_102]; exact (hfr83.tr hf).dp
          refine J_aload_n (nx := 106) dX12_readAtom_105 rfl rfl ?_
          refine J_bipush (nx := 108) (i := 12) (v := 12) (by decide) dX12_readAtom_106 rfl ?_
          refine J_iconst (nx := 109) (i := 0) (v := 0) (by decide) dX12_readAtom_108 rfl ?_
          refine JcV2 (R' := rm (1) 0 0) (nx := 112) dX12_readAtom_109 rfl ml_X12_emits lk_X12_144 iv_X12_emits rfl rfl (rm_room (by omega) (by decide)) (Nat.le_of_ble_eq_true rfl) ⟨rfl, rfl⟩ (ct_m_emits g_102 q.2.length hq102.1 (by omega) 12 0) ?_
          refine J.gen (fun g_109 hg_109 => ?_)
          refine J_iconst (nx := 113) (i := 1) (v := 1) (by decide) dX12_readAtom_112 rfl ?_
          exact Jrz dX12_readAtom_113 rfl (by decide) (Nat.zero_le _) (Nat.zero_le _) (RXi.of (by rw [pAtom_w hs2.1, he, hg_109]; exact PM.mkY hfr102.em hQ102.em (hq102.em2 (by decide) (by decide)) (hd102.trans hd.symm)))
        · refine J_iconst (nx := 94) (i := 0) (v := 0) (by decide) dX12_readAtom_93 rfl ?_
          obtain ⟨e, he, hb, hf⟩ := p_87.no c_90
          exact Jrz dX12_readAtom_94 rfl (by decide) (Nat.zero_le _) (Nat.zero_le _) (RXi.of (by rw [pAtom_w hs2.1, he]; exact PM.mkN (hfr83.tr hf) hb))
      · exact absurd (nI_inj (a := 6 - (d + 1)) (b := 6) (by omega) (by omega) c_71) (by omega)
  · have hs : obSgn n C b = 40 ∧ MLq n C (obNxt n C b) g_3 := by
      rcases p_3.2.2 with ⟨h1, h2, h3⟩ | ⟨h1, h2, h3⟩
      · exact ⟨h1, h3⟩
      · exact absurd h2 c_6
    refine J_aload_n (nx := 10) dX12_readAtom_9 rfl rfl ?_
    refine Jg_63_9 (nx := 13) dX12_readAtom_10 rfl fl_X12_159 ?_
    rw [show gF g_3 63 9 = nI (6 - (d + 1)) from (p_3.1.1 63 9 rfl).trans hd]
    refine J_bipush (nx := 15) (i := 6) (v := 6) (by decide) dX12_readAtom_13 rfl ?_
    refine J_icmp_ne (nx := 18) (tgt := 20) dX12_readAtom_15 rfl (by decide) (fun c_15 => ?_) (fun c_15 => ?_)
    · refine J_aload_n (nx := 21) dX12_readAtom_20 rfl rfl ?_
      refine J_dup (nx := 22) rfl dX12_readAtom_21 rfl ?_
      refine Jg_63_9 (nx := 25) dX12_readAtom_22 rfl fl_X12_159 ?_
      refine J_iconst (nx := 26) (i := 1) (v := 1) (by decide) dX12_readAtom_25 rfl ?_
      refine J_iadd (nx := 27) dX12_readAtom_26 rfl ?_
      refine Jp_63_9 (nx := 30) dX12_readAtom_27 rfl fl_X12_159 ?_
      refine J.gen (fun g_27 hg_27 => ?_)
      have hd27 : gF g_27 63 9 = nI (6 - d) := by
        rw [hg_27]
        show gF g_3 63 9 + 1 = nI (6 - d)
        rw [show gF g_3 63 9 = nI (6 - (d + 1)) from (p_3.1.1 63 9 rfl).trans hd, show nI (6 - (d + 1)) + 1 = nI (6 - (d + 1) + 1) from nI_add _ 1, show 6 - (d + 1) + 1 = 6 - d by omega]
      have hbn : b < n := (sgn_in (by decide) hs.1).1
      have hnx := obNxt_le n C b hbn
      have hn4 := hS.1.le.2.1
      have hS27 : RSt n C (obNxt n C b) cs rl g_27 := by
        rw [hg_27]
        exact ⟨hs.2, (hS.2.1.B p_3.1).cg rfl rfl, (p_3.1.1 63 13 rfl).trans hS.2.2⟩
      have hfr27 : RFr g g_27 := by rw [hg_27]; exact (RFr.rf.B p_3.1).dp
      refine J_aload_n (nx := 31) dX12_readAtom_30 rfl rfl ?_
      refine JiV0 (R' := rm (10 + 3 * d) 0 0) (nx := 34) dX12_readAtom_31 rfl ml_X12_readCond lk_X12_162 iv_X12_readCond rfl rfl (rm_room (by omega) (by decide)) (Nat.le_of_ble_eq_true rfl) ⟨rfl, rfl⟩ (hC g_27 (obNxt n C b) cs hS27 (by omega) hd27) (fun x_31 g_31 p_31 => ?_)
      refine J_if_ne (nx := 37) (tgt := 39) dX12_readAtom_34 rfl (by decide) (fun c_34 => ?_) (fun c_34 => ?_)
      · obtain ⟨q, he, hq1, hq2, hq3, hf⟩ := p_31.yes c_34
        refine J_aload_n (nx := 40) dX12_readAtom_39 rfl rfl ?_
        refine J_dup (nx := 41) rfl dX12_readAtom_40 rfl ?_
        refine Jg_63_9 (nx := 44) dX12_readAtom_41 rfl fl_X12_159 ?_
        refine J_iconst (nx := 45) (i := 1) (v := 1) (by decide) dX12_readAtom_44 rfl ?_
        refine J_isub (nx := 46) dX12_readAtom_45 rfl ?_
        refine Jp_63_9 (nx := 49) dX12_readAtom_46 rfl fl_X12_159 ?_
        refine J.gen (fun g_46 hg_46 => ?_)
        have hQ46 : MLq n C q.1 g_46 := by rw [hg_46]; exact hq1
        have hd46 : gF g_46 63 9 = nI (6 - (d + 1)) := by
          rw [hg_46]
          show gF g_31 63 9 - 1 = _
          rw [hq3.trans hd27, show nI (6 - d) - 1 = nI (6 - d - 1) from nIs (by omega) rfl (nIc 1), show 6 - d - 1 = 6 - (d + 1) by omega]
        have hfr46 : RFr g g_46 := by rw [hg_46]; exact (hfr27.tr hf).dp
        have hq46 : SQ q.2 g_46 := by rw [hg_46]; exact hq2
        refine J_aload_n (nx := 50) dX12_readAtom_49 rfl rfl ?_
        refine J_bipush (nx := 52) (i := 41) (v := 41) (by decide) dX12_readAtom_50 rfl ?_
        refine JiV1 (R' := rm (2) 0 0) (nx := 55) dX12_readAtom_52 rfl ml_X12_sign lk_X12_155 iv_X12_sign rfl rfl (rm_room (by omega) (by decide)) (Nat.le_of_ble_eq_true rfl) ⟨rfl, rfl⟩ (ct_m_sign g_46 n C q.1 hQ46 41 (by decide) (by decide) (by decide)) (fun x_52 g_52 p_52 => ?_)
        exact Jrz dX12_readAtom_55 rfl (by rcases p_52.2.2 with ⟨h1, h2, h3⟩ | ⟨h1, h2, h3⟩ <;> rw [h2] <;> rfl) (Nat.zero_le _) (Nat.zero_le _) (RXi.of (by
  rw [pAtom_p hs.1, he]
  show PM n C g (if obSgn n C q.1 = 41 then _ else _) _ _
  rcases p_52.2.2 with ⟨h1, h2, h3⟩ | ⟨h1, h2, h3⟩
  · rw [if_pos h1, h2]
    exact PM.mkY (hfr46.B p_52.1) h3 (hq46.B p_52.1) ((p_52.1.1 63 9 rfl).trans (hd46.trans hd.symm))
  · rw [if_neg h1, h2]
    exact PM.mkN (hfr46.B p_52.1) p_52.2.1))
      · refine J_iconst (nx := 38) (i := 0) (v := 0) (by decide) dX12_readAtom_37 rfl ?_
        obtain ⟨e, he, hb, hf⟩ := p_31.no c_34
        exact Jrz dX12_readAtom_38 rfl (by decide) (Nat.zero_le _) (Nat.zero_le _) (RXi.of (by rw [pAtom_p hs.1, he]; exact PM.mkN (hfr27.tr hf) hb))
    · exact absurd (nI_inj (a := 6 - (d + 1)) (b := 6) (by omega) (by omega) c_15) (by omega)

theorem ct_m_readAtom (n : Nat) (C : Nat → Int32) (rl : Bool) : ∀ (d : Nat), d ≤ 6 → ∀ (g : GS) (b : Nat) (cs : List Int32), RSt n C b cs rl g → cs.length < b → gF g 63 9 = nI (6 - d) → Ct mX12_readAtom (rm (8 + 3 * d) 0 0) [.ref 63] (Wd g) (RXi (PM n C g (pAtom (obT n C) rl d b cs))) := by
  intro d
  induction d with
  | zero => intro _ g b cs hS hl hd; exact ct_m_atom0 g n C b cs rl hS hl hd
  | succ d ih =>
    intro h6 g b cs hS hl hd
    have hA := ih (by omega)
    have hL := fun (g : GS) (b : Nat) (cs : List Int32) (hS : RSt n C b cs rl g) (hl : cs.length < b) (hd : gF g 63 9 = nI (6 - d)) => ct_m_readAllOf n C rl d hA g b cs hS hl hd
    exact ct_m_atomS n C rl d (by omega) hA (fun g b cs hS hl hd => ct_m_readCond n C rl d hL g b cs hS hl hd) g b cs hS hl hd
theorem ct_m_cond (g : GS) (n : Nat) (C : Nat → Int32) (b : Nat) (cs : List Int32) (rl : Bool) (hS : RSt n C b cs rl g) (hl : cs.length < b) (hd : gF g 63 9 = nI 0) : Ct mX12_readCond (rm 28 0 0) [.ref 63] (Wd g) (RXi (PM n C g (pCond (obT n C) rl 6 b cs))) :=
  ct_m_readCond n C rl 6 (fun g b cs hS hl hd => ct_m_readAllOf n C rl 6 (ct_m_readAtom n C rl 6 (Nat.le_refl _)) g b cs hS hl hd) g b cs hS hl hd
