
/-! the Model: a line of a game -/
def NP (n : Nat) (C : Nat → Int32) (g : GS) (r : NR) (x : Int32) (g2 : GS) : Prop := Fr fB aNo g g2 ∧ (match r with
  | .inl e => x = -1 ∧ gF g2 63 8 = nI e
  | .inr q => x = nI q.2 ∧ q.2 ≤ 9999 ∧ MLq n C q.1 g2)
theorem NP.neg {n : Nat} {C : Nat → Int32} {g g2 : GS} {r : NR} {x : Int32} (h : NP n C g r x g2) (hx : x < 0) : ∃ e, r = .inl e ∧ gF g2 63 8 = nI e ∧ Fr fB aNo g g2 := by
  obtain ⟨h1, h2⟩ := h
  cases r with
  | inl e => exact ⟨e, rfl, h2.2, h1⟩
  | inr q =>
    obtain ⟨h3, h4, -⟩ := h2
    rw [h3] at hx
    exact absurd (nI_ltd (a := q.2) (b := 0) (by omega) (by omega) hx) (by omega)
theorem NP.pos {n : Nat} {C : Nat → Int32} {g g2 : GS} {r : NR} {x : Int32} (h : NP n C g r x g2) (hx : ¬ x < 0) : ∃ b v, r = .inr (b, v) ∧ x = nI v ∧ v ≤ 9999 ∧ MLq n C b g2 ∧ Fr fB aNo g g2 := by
  obtain ⟨h1, h2⟩ := h
  cases r with
  | inl e => exact absurd (show x < 0 by rw [h2.1]; decide) hx
  | inr q => exact ⟨q.1, q.2, rfl, h2.1, h2.2.1, h2.2.2, h1⟩
theorem pNum_y {n : Nat} {C : Nat → Int32} {b v most : Nat} (h : obNum n C b = nI v) (hv : v ≤ 9999) (h2 : ¬ nI most < nI v) : pNum (obT n C) b most = .inr (obNxt n C b, v) := by
  show (if obNum n C b < 0 then Sum.inl b else if obNum n C b ≤ nI most then Sum.inr (obNxt n C b, (obNum n C b).toNatClampNeg) else Sum.inl b : NR) = _
  rw [h, if_neg (show ¬ nI v < 0 from fun z => absurd (nI_ltd (a := v) (b := 0) (by omega) (by omega) z) (by omega)), if_pos (nlt_le h2), nI_clamp (by omega)]
theorem pNum_n {n : Nat} {C : Nat → Int32} {b most : Nat} (h : obNum n C b = -1 ∨ nI most < obNum n C b) : pNum (obT n C) b most = .inl b := by
  show (if obNum n C b < 0 then Sum.inl b else if obNum n C b ≤ nI most then Sum.inr (obNxt n C b, (obNum n C b).toNatClampNeg) else Sum.inl b : NR) = _
  by_cases c : obNum n C b < 0
  · rw [if_pos c]
  · rw [if_neg c]
    rcases h with z | z
    · exact absurd (show obNum n C b < 0 by rw [z]; decide) c
    · rw [if_neg (lt_nle z)]
theorem ct_m_num (g : GS) (n : Nat) (C : Nat → Int32) (b : Nat) (hQ : MLq n C b g) (most : Nat) : Ct mX12_number (rm 2 0 0) [.ref 63, .int (nI (most))] (Wd g) (RXi (NP n C g (pNum (obT n C) b most))) :=
  (ct_m_number g n C b hQ (nI most)).imp (fun r es q => by
    obtain ⟨x, g2, hr, he, hf, hb, h⟩ := q
    refine ⟨x, g2, hr, he, hf, ?_⟩
    rcases h with ⟨v, h1, h2, h3, h4, h5⟩ | ⟨h1, h2⟩
    · rw [pNum_y h2 h1 h3]; exact ⟨h4, h1, h5⟩
    · rw [pNum_n h1]; exact ⟨h2, hb⟩)
theorem NP.mkN {n : Nat} {C : Nat → Int32} {g g2 : GS} {e : Nat} (h : Fr fB aNo g g2) (h2 : gF g2 63 8 = nI e) : NP n C g (.inl e) (-1) g2 := ⟨h, rfl, h2⟩
theorem pState_1 {n : Nat} {C : Nat → Int32} {b e : Nat} (h : pNum (obT n C) b 7 = .inl e) : pState (obT n C) b = .inl e := by unfold pState; rw [h]
theorem pState_2 {n : Nat} {C : Nat → Int32} {b b1 z e : Nat} (h : pNum (obT n C) b 7 = .inr (b1, z)) (h2 : pNum (obT n C) b1 3 = .inl e) : pState (obT n C) b = .inl e := by unfold pState; rw [h]; show (match pNum (obT n C) b1 3 with | .inl e => (Sum.inl e : NR) | .inr u => .inr (u.1, 4 * z + u.2)) = _; rw [h2]
theorem pState_3 {n : Nat} {C : Nat → Int32} {b b1 b2 z f : Nat} (h : pNum (obT n C) b 7 = .inr (b1, z)) (h2 : pNum (obT n C) b1 3 = .inr (b2, f)) : pState (obT n C) b = .inr (b2, 4 * z + f) := by unfold pState; rw [h]; show (match pNum (obT n C) b1 3 with | .inl e => (Sum.inl e : NR) | .inr u => .inr (u.1, 4 * z + u.2)) = _; rw [h2]
theorem pNum_le {n : Nat} {C : Nat → Int32} {b b1 v most : Nat} (hm : most < 2 ^ 30) (h : pNum (obT n C) b most = .inr (b1, v)) : v ≤ most := by
  unfold pNum at h
  by_cases c : oNum (obT n C) b < 0
  · rw [if_pos c] at h; cases h
  · rw [if_neg c] at h
    by_cases c2 : oNum (obT n C) b ≤ nI most
    · rw [if_pos c2] at h
      cases h
      have h1 := Int32.le_iff_toInt_le.mp c2
      rw [nI_toInt (by omega)] at h1
      show (oNum (obT n C) b).toInt.toNat ≤ most
      omega
    · rw [if_neg c2] at h; cases h

set_option maxRecDepth 100000 in
set_option maxHeartbeats 4000000 in
theorem ct_m_readState (g : GS) (n : Nat) (C : Nat → Int32) (b : Nat) (hQ : MLq n C b g) : Ct mX12_readState (rm 3 0 0) [.ref 63] (Wd g) (RXi (NP n C g (pState (obT n C) b))) := by
  refine Ct.of (by decide +kernel) (Nat.le_of_ble_eq_true rfl) ?_
  show J _ _ _ _ 0 [some (.ref 63), none, none] [] _ 0 0
  refine J_aload_n (nx := 1) dX12_readState_0 rfl rfl ?_
  refine J_bipush (nx := 3) (i := 7) (v := 7) (by decide) dX12_readState_1 rfl ?_
  refine JiV1 (R' := rm (2) 0 0) (nx := 6) dX12_readState_3 rfl ml_X12_number lk_X12_148 iv_X12_number rfl rfl ⟨(Nat.le_of_ble_eq_true rfl), (Nat.le_of_ble_eq_true rfl)⟩ (Nat.le_of_ble_eq_true rfl) ⟨rfl, rfl⟩ (ct_m_num g n C b hQ 7) (fun x_3 g_3 p_3 => ?_)
  refine J_istore_n (nx := 7) dX12_readState_6 rfl rfl (Nat.le_of_ble_eq_true rfl) ?_
  refine J_iload_n (nx := 8) dX12_readState_7 rfl rfl ?_
  refine J_if_ge (nx := 11) (tgt := 15) dX12_readState_8 rfl (by decide) (fun c_8 => ?_) (fun c_8 => ?_)
  · obtain ⟨b1, z, he1, hx1, hz9, hq1, hf1⟩ := p_3.pos (fun q => lt_nle q c_8)
    have hz7 := pNum_le (by decide) he1
    refine J_aload_n (nx := 16) dX12_readState_15 rfl rfl ?_
    refine J_iconst (nx := 17) (i := 3) (v := 3) (by decide) dX12_readState_16 rfl ?_
    refine JiV1 (R' := rm (2) 0 0) (nx := 20) dX12_readState_17 rfl ml_X12_number lk_X12_148 iv_X12_number rfl rfl ⟨(Nat.le_of_ble_eq_true rfl), (Nat.le_of_ble_eq_true rfl)⟩ (Nat.le_of_ble_eq_true rfl) ⟨rfl, rfl⟩ (ct_m_num g_3 n C b1 hq1 3) (fun x_17 g_17 p_17 => ?_)
    refine J_istore_n (nx := 21) dX12_readState_20 rfl rfl (Nat.le_of_ble_eq_true rfl) ?_
    refine J_iload_n (nx := 22) dX12_readState_21 rfl rfl ?_
    refine J_if_ge (nx := 25) (tgt := 29) dX12_readState_22 rfl (by decide) (fun c_22 => ?_) (fun c_22 => ?_)
    · obtain ⟨b2, f, he2, hx2, hf9, hq2, hf2⟩ := p_17.pos (fun q => lt_nle q c_22)
      rw [hx1, hx2]
      have hf3 := pNum_le (by decide) he2
      refine J_iconst (nx := 30) (i := 4) (v := 4) (by decide) dX12_readState_29 rfl ?_
      skip
      refine J_iload_n (nx := 31) dX12_readState_30 rfl rfl ?_
      refine J_imul (nx := 32) dX12_readState_31 rfl ?_
      refine J_iload_n (nx := 33) dX12_readState_32 rfl rfl ?_
      refine J_iadd (nx := 34) dX12_readState_33 rfl ?_
      exact Jri dX12_readState_34 rfl (Nat.zero_le _) (Nat.zero_le _) (RXi.of (by rw [pState_3 he1 he2]; exact ⟨hf1.tr hf2, (nIa (nIm (nIc 4) (Eq.refl (nI (z)))) (Eq.refl (nI (f)))), by show 4 * z + f ≤ 9999; omega, hq2⟩))
    · skip
      refine J_iconst (nx := 26) (i := -1) (v := -1) (by decide) dX12_readState_25 rfl ?_
      refine J_goto (nx := 34) dX12_readState_26 (by decide) ?_
      exact Jri dX12_readState_34 rfl (Nat.zero_le _) (Nat.zero_le _) (RXi.of (by first | (rw [pState_1 he1]; exact NP.mkN hf1 hb1) | (obtain ⟨e, he2, hb2, hf2⟩ := p_17.neg (nle_lt c_22); rw [pState_2 he1 he2]; exact NP.mkN (hf1.tr hf2) hb2)))
  · obtain ⟨e, he1, hb1, hf1⟩ := p_3.neg (nle_lt c_8)
    refine J_iconst (nx := 12) (i := -1) (v := -1) (by decide) dX12_readState_11 rfl ?_
    refine J_goto (nx := 20) dX12_readState_12 (by decide) ?_
    refine J_istore_n (nx := 21) dX12_readState_20 rfl rfl (Nat.le_of_ble_eq_true rfl) ?_
    refine J_iload_n (nx := 22) dX12_readState_21 rfl rfl ?_
    refine J_if_ge (nx := 25) (tgt := 29) dX12_readState_22 rfl (by decide) (fun c_22 => ?_) (fun c_22 => ?_)
    · exact absurd c_22 (by decide)
    · skip
      refine J_iconst (nx := 26) (i := -1) (v := -1) (by decide) dX12_readState_25 rfl ?_
      refine J_goto (nx := 34) dX12_readState_26 (by decide) ?_
      exact Jri dX12_readState_34 rfl (Nat.zero_le _) (Nat.zero_le _) (RXi.of (by first | (rw [pState_1 he1]; exact NP.mkN hf1 hb1) | (obtain ⟨e, he2, hb2, hf2⟩ := p_17.neg (nle_lt c_22); rw [pState_2 he1 he2]; exact NP.mkN (hf1.tr hf2) hb2)))

theorem pState_lt {n : Nat} {C : Nat → Int32} {b b1 s : Nat} (h : pState (obT n C) b = .inr (b1, s)) : s < 32 := by
  cases h1 : pNum (obT n C) b 7 with
  | inl e => rw [pState_1 h1] at h; cases h
  | inr q =>
    obtain ⟨c1, z⟩ := q
    cases h2 : pNum (obT n C) c1 3 with
    | inl e => rw [pState_2 h1 h2] at h; cases h
    | inr u =>
      obtain ⟨c2, f⟩ := u
      rw [pState_3 h1 h2] at h
      cases h
      have := pNum_le (by decide) h1
      have := pNum_le (by decide) h2
      omega
def fGm (c k : Nat) : Bool := Nat.beq c 63 && (Nat.beq k 6 || (Nat.beq k 8 || Nat.beq k 16))
def aGm (c : Nat) : Bool := Nat.beq c 68 || Nat.beq c 69
theorem fGm_B (c k : Nat) (h : fGm c k = false) : fB c k = false := by
  unfold fGm at h; unfold fB; revert h
  cases Nat.beq c 63 <;> cases Nat.beq k 6 <;> cases Nat.beq k 8 <;> simp
theorem Fr.gB {g g1 g2 : GS} (h : Fr fGm aGm g g1) (h2 : Fr fB aNo g1 g2) : Fr fGm aGm g g2 := h.tr (h2.mono fGm_B (fun _ _ => rfl))
def drM (g : GS) : Dr := (gA g 68, gA g 69, gF g 63 16)
theorem drM_B {g g2 : GS} (h : Fr fB aNo g g2) : drM g2 = drM g := by unfold drM; rw [h.2.1 68 rfl, h.2.1 69 rfl, h.1 63 16 rfl]
def PGm (n : Nat) (C : Nat → Int32) (g : GS) (r : Nat ⊕ (Nat × Ed)) (x : Int32) (g2 : GS) : Prop := Fr fGm aGm g g2 ∧ (match r with
  | .inl e => x = 0 ∧ gF g2 63 8 = nI e
  | .inr q => x = 1 ∧ MLq n C q.1 g2 ∧ drM g2 = apE q.2 (drM g))
theorem PGm.mkN {n : Nat} {C : Nat → Int32} {g g2 : GS} {e : Nat} (h : Fr fGm aGm g g2) (h2 : gF g2 63 8 = nI e) : PGm n C g (.inl e) 0 g2 := ⟨h, rfl, h2⟩
theorem PGm.mkY {n : Nat} {C : Nat → Int32} {g g2 : GS} {b : Nat} {ed : Ed} (h : Fr fGm aGm g g2) (h2 : MLq n C b g2) (h3 : drM g2 = apE ed (drM g)) : PGm n C g (.inr (b, ed)) 1 g2 := ⟨h, rfl, h2, h3⟩
theorem pGrace_n {n : Nat} {C : Nat → Int32} {b e : Nat} (h : pNum (obT n C) b 10 = .inl e) : pGrace (obT n C) b = .inl e := by unfold pGrace; rw [h]
theorem pGrace_y {n : Nat} {C : Nat → Int32} {b b1 v : Nat} (h : pNum (obT n C) b 10 = .inr (b1, v)) : pGrace (obT n C) b = .inr (b1, 2, 0, v) := by unfold pGrace; rw [h]
theorem pKick_1 {n : Nat} {C : Nat → Int32} {b e : Nat} (h : pNum (obT n C) b 7 = .inl e) : pKick (obT n C) b = .inl e := by unfold pKick; rw [h]
theorem pKick_2 {n : Nat} {C : Nat → Int32} {b b1 z e : Nat} (h : pNum (obT n C) b 7 = .inr (b1, z)) (h2 : pNum (obT n C) b1 9999 = .inl e) : pKick (obT n C) b = .inl e := by
  unfold pKick; rw [h]
  show (match pNum (obT n C) b1 9999 with | .inl e => (Sum.inl e : Nat ⊕ (Nat × Ed)) | .inr v => .inr (v.1, 1, z, v.2)) = _
  rw [h2]
theorem pKick_3 {n : Nat} {C : Nat → Int32} {b b1 b2 z v : Nat} (h : pNum (obT n C) b 7 = .inr (b1, z)) (h2 : pNum (obT n C) b1 9999 = .inr (b2, v)) : pKick (obT n C) b = .inr (b2, 1, z, v) := by
  unfold pKick; rw [h]
  show (match pNum (obT n C) b1 9999 with | .inl e => (Sum.inl e : Nat ⊕ (Nat × Ed)) | .inr v => .inr (v.1, 1, z, v.2)) = _
  rw [h2]
theorem chT_1 {n : Nat} {C : Nat → Int32} {s e : Nat} {r : NR} (h : r = .inl e) : chT (obT n C) s r = .inl e := by rw [h]; rfl
theorem chT_2 {n : Nat} {C : Nat → Int32} {s b w e : Nat} {r : NR} (h : r = .inr (b, w)) (h2 : pNum (obT n C) b 100 = .inl e) : chT (obT n C) s r = .inl e := by
  rw [h]
  show (match pNum (obT n C) b 100 with | .inl e => (Sum.inl e : Nat ⊕ (Nat × Ed)) | .inr v => .inr (v.1, 0, 34 * s + w, v.2)) = _
  rw [h2]
theorem chT_3 {n : Nat} {C : Nat → Int32} {s b b2 w v : Nat} {r : NR} (h : r = .inr (b, w)) (h2 : pNum (obT n C) b 100 = .inr (b2, v)) : chT (obT n C) s r = .inr (b2, 0, 34 * s + w, v) := by
  rw [h]
  show (match pNum (obT n C) b 100 with | .inl e => (Sum.inl e : Nat ⊕ (Nat × Ed)) | .inr v => .inr (v.1, 0, 34 * s + w, v.2)) = _
  rw [h2]

set_option maxRecDepth 100000 in
set_option maxHeartbeats 4000000 in
theorem sg_m_gr (n0 : Nat) (g : GS) (n : Nat) (C : Nat → Int32) (b : Nat) (hQ : MLq n C b g) : J mX12_readGameLine (rm 4 0 0) (RXi (PGm n C g (pGrace (obT n C) b))) n0 9 [some (.ref 63), none, none, none] [] (Wd g) 0 0 := by
  refine J_aload_n (nx := 10) dX12_readGameLine_9 rfl rfl ?_
  refine J_bipush (nx := 12) (i := 10) (v := 10) (by decide) dX12_readGameLine_10 rfl ?_
  refine JiV1 (R' := rm (2) 0 0) (nx := 15) dX12_readGameLine_12 rfl ml_X12_number lk_X12_148 iv_X12_number rfl rfl ⟨(Nat.le_of_ble_eq_true rfl), (Nat.le_of_ble_eq_true rfl)⟩ (Nat.le_of_ble_eq_true rfl) ⟨rfl, rfl⟩ (ct_m_num g n C b hQ 10) (fun x_12 g_12 p_12 => ?_)
  refine J_istore_n (nx := 16) dX12_readGameLine_15 rfl rfl (Nat.le_of_ble_eq_true rfl) ?_
  refine J_aload_n (nx := 17) dX12_readGameLine_16 rfl rfl ?_
  refine J_iload_n (nx := 18) dX12_readGameLine_17 rfl rfl ?_
  refine J_if_ge (nx := 21) (tgt := 28) dX12_readGameLine_18 rfl (by decide) (fun c_18 => ?_) (fun c_18 => ?_)
  · refine J_iload_n (nx := 29) dX12_readGameLine_28 rfl rfl ?_
    refine Jp_63_16 (nx := 32) dX12_readGameLine_29 rfl fl_X12_187 ?_
    refine J.gen (fun g_29 hg_29 => ?_)
    refine J_iload_n (nx := 33) dX12_readGameLine_32 rfl rfl ?_
    refine J_if_lt (nx := 36) (tgt := 40) dX12_readGameLine_33 rfl (by decide) (fun c_33 => ?_) (fun c_33 => ?_)
    · refine J_iconst (nx := 41) (i := 0) (v := 0) (by decide) dX12_readGameLine_40 rfl ?_
      obtain ⟨e, he, hb, hf⟩ := p_12.neg c_33
      exact Jrz dX12_readGameLine_41 rfl (by decide) (Nat.zero_le _) (Nat.zero_le _) (RXi.of (by rw [pGrace_n he]; exact PGm.mkN (by rw [hg_29]; exact Fr.sF ((Fr.rf (f := fGm) (a := aGm)).gB hf) rfl) (by rw [hg_29]; exact hb)))
    · refine J_iconst (nx := 37) (i := 1) (v := 1) (by decide) dX12_readGameLine_36 rfl ?_
      refine J_goto (nx := 41) dX12_readGameLine_37 (by decide) ?_
      obtain ⟨b1, v, he, hx, hv, hq, hf⟩ := p_12.pos c_33
      exact Jrz dX12_readGameLine_41 rfl (by decide) (Nat.zero_le _) (Nat.zero_le _) (RXi.of (by
  rw [pGrace_y he]
  have hge : g_29 = sF g_12 63 16 (nI v) := by
    rw [hg_29]
    first
      | rw [hx]
      | exact absurd c_18 (fun z => c_33 (nle_lt z))
      | exact absurd (nle_lt c_18) c_33
  refine PGm.mkY (by rw [hge]; exact Fr.sF ((Fr.rf (f := fGm) (a := aGm)).gB hf) rfl) (by rw [hge]; exact hq) ?_
  rw [hge]
  have h0 := drM_B hf
  unfold drM at h0 ⊢
  show (gA g_12 68, gA g_12 69, nI v) = (gA g 68, gA g 69, nI v)
  rw [hf.2.1 68 rfl, hf.2.1 69 rfl]))
  · refine J_aload_n (nx := 22) dX12_readGameLine_21 rfl rfl ?_
    refine Jg_63_16 (nx := 25) dX12_readGameLine_22 rfl fl_X12_187 ?_
    refine J_goto (nx := 29) dX12_readGameLine_25 (by decide) ?_
    refine Jp_63_16 (nx := 32) dX12_readGameLine_29 rfl fl_X12_187 ?_
    refine J.gen (fun g_29 hg_29 => ?_)
    refine J_iload_n (nx := 33) dX12_readGameLine_32 rfl rfl ?_
    refine J_if_lt (nx := 36) (tgt := 40) dX12_readGameLine_33 rfl (by decide) (fun c_33 => ?_) (fun c_33 => ?_)
    · refine J_iconst (nx := 41) (i := 0) (v := 0) (by decide) dX12_readGameLine_40 rfl ?_
      obtain ⟨e, he, hb, hf⟩ := p_12.neg c_33
      exact Jrz dX12_readGameLine_41 rfl (by decide) (Nat.zero_le _) (Nat.zero_le _) (RXi.of (by rw [pGrace_n he]; exact PGm.mkN (by rw [hg_29]; exact Fr.sF ((Fr.rf (f := fGm) (a := aGm)).gB hf) rfl) (by rw [hg_29]; exact hb)))
    · refine J_iconst (nx := 37) (i := 1) (v := 1) (by decide) dX12_readGameLine_36 rfl ?_
      refine J_goto (nx := 41) dX12_readGameLine_37 (by decide) ?_
      obtain ⟨b1, v, he, hx, hv, hq, hf⟩ := p_12.pos c_33
      exact Jrz dX12_readGameLine_41 rfl (by decide) (Nat.zero_le _) (Nat.zero_le _) (RXi.of (by
  rw [pGrace_y he]
  have hge : g_29 = sF g_12 63 16 (nI v) := by
    rw [hg_29]
    first
      | rw [hx]
      | exact absurd c_18 (fun z => c_33 (nle_lt z))
      | exact absurd (nle_lt c_18) c_33
  refine PGm.mkY (by rw [hge]; exact Fr.sF ((Fr.rf (f := fGm) (a := aGm)).gB hf) rfl) (by rw [hge]; exact hq) ?_
  rw [hge]
  have h0 := drM_B hf
  unfold drM at h0 ⊢
  show (gA g_12 68, gA g_12 69, nI v) = (gA g 68, gA g 69, nI v)
  rw [hf.2.1 68 rfl, hf.2.1 69 rfl]))

set_option maxRecDepth 100000 in
set_option maxHeartbeats 4000000 in
theorem sg_m_ki (n0 : Nat) (g : GS) (n : Nat) (C : Nat → Int32) (b : Nat) (hQ : MLq n C b g) : J mX12_readGameLine (rm 4 0 0) (RXi (PGm n C g (pKick (obT n C) b))) n0 51 [some (.ref 63), none, none, none] [] (Wd g) 0 0 := by
  refine J_aload_n (nx := 52) dX12_readGameLine_51 rfl rfl ?_
  refine J_bipush (nx := 54) (i := 7) (v := 7) (by decide) dX12_readGameLine_52 rfl ?_
  refine JiV1 (R' := rm (2) 0 0) (nx := 57) dX12_readGameLine_54 rfl ml_X12_number lk_X12_148 iv_X12_number rfl rfl ⟨(Nat.le_of_ble_eq_true rfl), (Nat.le_of_ble_eq_true rfl)⟩ (Nat.le_of_ble_eq_true rfl) ⟨rfl, rfl⟩ (ct_m_num g n C b hQ 7) (fun x_54 g_54 p_54 => ?_)
  refine J_istore_n (nx := 58) dX12_readGameLine_57 rfl rfl (Nat.le_of_ble_eq_true rfl) ?_
  refine J_iload_n (nx := 59) dX12_readGameLine_58 rfl rfl ?_
  refine J_if_ge (nx := 62) (tgt := 66) dX12_readGameLine_59 rfl (by decide) (fun c_59 => ?_) (fun c_59 => ?_)
  · obtain ⟨b1, z, he1, hx1, hz9, hq1, hf1⟩ := p_54.pos (fun q => lt_nle q c_59)
    have hz7 := pNum_le (by decide) he1
    refine J_aload_n (nx := 67) dX12_readGameLine_66 rfl rfl ?_
    refine J_sipush (nx := 70) (i := 9999) (v := 9999) (by decide) dX12_readGameLine_67 rfl ?_
    refine JiV1 (R' := rm (2) 0 0) (nx := 73) dX12_readGameLine_70 rfl ml_X12_number lk_X12_148 iv_X12_number rfl rfl ⟨(Nat.le_of_ble_eq_true rfl), (Nat.le_of_ble_eq_true rfl)⟩ (Nat.le_of_ble_eq_true rfl) ⟨rfl, rfl⟩ (ct_m_num g_54 n C b1 hq1 9999) (fun x_70 g_70 p_70 => ?_)
    refine J_istore_n (nx := 74) dX12_readGameLine_73 rfl rfl (Nat.le_of_ble_eq_true rfl) ?_
    refine J_iload_n (nx := 75) dX12_readGameLine_74 rfl rfl ?_
    refine J_if_lt (nx := 78) (tgt := 85) dX12_readGameLine_75 rfl (by decide) (fun c_75 => ?_) (fun c_75 => ?_)
    · skip
      refine J_iload_n (nx := 86) dX12_readGameLine_85 rfl rfl ?_
      refine J_if_lt (nx := 89) (tgt := 93) dX12_readGameLine_86 rfl (by decide) (fun c_86 => ?_) (fun c_86 => ?_)
      · refine J_iconst (nx := 94) (i := 0) (v := 0) (by decide) dX12_readGameLine_93 rfl ?_
        exact Jrz dX12_readGameLine_94 rfl (by decide) (Nat.zero_le _) (Nat.zero_le _) (RXi.of (by
  first
    | exact absurd c_75 c_86
    | exact absurd c_86 c_75
    | (obtain ⟨e, he2, hb2, hf2⟩ := p_70.neg c_75
       rw [pKick_2 he1 he2]; exact PGm.mkN (((Fr.rf (f := fGm) (a := aGm)).gB hf1).gB hf2) hb2)))
      · refine J_iconst (nx := 90) (i := 1) (v := 1) (by decide) dX12_readGameLine_89 rfl ?_
        refine J_goto (nx := 94) dX12_readGameLine_90 (by decide) ?_
        exact Jrz dX12_readGameLine_94 rfl (by decide) (Nat.zero_le _) (Nat.zero_le _) (RXi.of (by
  first
    | exact absurd c_75 c_86
    | exact absurd c_86 c_75
    | (rw [pKick_3 he1 he2]
       refine PGm.mkY (by rw [hg_84]; exact (((Fr.rf (f := fGm) (a := aGm)).gB hf1).gB hf2).sA rfl) (by rw [hg_84]; exact hq2) ?_
       rw [hg_84, hx2]
       show (gA g_70 68, upd (gA g_70 69) z (nI v), gF g_70 63 16) = (gA g 68, upd (gA g 69) z (nI v), gF g 63 16)
       rw [hf2.2.1 68 rfl, hf2.2.1 69 rfl, hf2.1 63 16 rfl, hf1.2.1 68 rfl, hf1.2.1 69 rfl, hf1.1 63 16 rfl])))
    · obtain ⟨b2, v, he2, hx2, hv9, hq2, hf2⟩ := p_70.pos c_75
      refine J_aload_n (nx := 79) dX12_readGameLine_78 rfl rfl ?_
      refine Jg_63_15 (nx := 82) dX12_readGameLine_79 rfl fl_X12_33 ?_
      rw [hx1]
      refine J_iload_n (nx := 83) dX12_readGameLine_82 rfl rfl ?_
      skip
      refine J_iload_n (nx := 84) dX12_readGameLine_83 rfl rfl ?_
      refine Jt_69 (nx := 85) dX12_readGameLine_84 rfl (vpE (n := z) (Eq.refl (nI (z))) (by omega) (by decide)) ?_
      rw [clE (n := z) (Eq.refl (nI (z))) (by omega)]
      refine J.gen (fun g_84 hg_84 => ?_)
      skip
      refine J_iload_n (nx := 86) dX12_readGameLine_85 rfl rfl ?_
      refine J_if_lt (nx := 89) (tgt := 93) dX12_readGameLine_86 rfl (by decide) (fun c_86 => ?_) (fun c_86 => ?_)
      · refine J_iconst (nx := 94) (i := 0) (v := 0) (by decide) dX12_readGameLine_93 rfl ?_
        exact Jrz dX12_readGameLine_94 rfl (by decide) (Nat.zero_le _) (Nat.zero_le _) (RXi.of (by
  first
    | exact absurd c_75 c_86
    | exact absurd c_86 c_75
    | (obtain ⟨e, he2, hb2, hf2⟩ := p_70.neg c_75
       rw [pKick_2 he1 he2]; exact PGm.mkN (((Fr.rf (f := fGm) (a := aGm)).gB hf1).gB hf2) hb2)))
      · refine J_iconst (nx := 90) (i := 1) (v := 1) (by decide) dX12_readGameLine_89 rfl ?_
        refine J_goto (nx := 94) dX12_readGameLine_90 (by decide) ?_
        exact Jrz dX12_readGameLine_94 rfl (by decide) (Nat.zero_le _) (Nat.zero_le _) (RXi.of (by
  first
    | exact absurd c_75 c_86
    | exact absurd c_86 c_75
    | (rw [pKick_3 he1 he2]
       refine PGm.mkY (by rw [hg_84]; exact (((Fr.rf (f := fGm) (a := aGm)).gB hf1).gB hf2).sA rfl) (by rw [hg_84]; exact hq2) ?_
       rw [hg_84, hx2]
       show (gA g_70 68, upd (gA g_70 69) z (nI v), gF g_70 63 16) = (gA g 68, upd (gA g 69) z (nI v), gF g 63 16)
       rw [hf2.2.1 68 rfl, hf2.2.1 69 rfl, hf2.1 63 16 rfl, hf1.2.1 68 rfl, hf1.2.1 69 rfl, hf1.1 63 16 rfl])))
  · obtain ⟨e, he1, hb1, hf1⟩ := p_54.neg (nle_lt c_59)
    refine J_iconst (nx := 63) (i := -1) (v := -1) (by decide) dX12_readGameLine_62 rfl ?_
    refine J_goto (nx := 73) dX12_readGameLine_63 (by decide) ?_
    refine J_istore_n (nx := 74) dX12_readGameLine_73 rfl rfl (Nat.le_of_ble_eq_true rfl) ?_
    refine J_iload_n (nx := 75) dX12_readGameLine_74 rfl rfl ?_
    refine J_if_lt (nx := 78) (tgt := 85) dX12_readGameLine_75 rfl (by decide) (fun c_75 => ?_) (fun c_75 => ?_)
    · skip
      refine J_iload_n (nx := 86) dX12_readGameLine_85 rfl rfl ?_
      refine J_if_lt (nx := 89) (tgt := 93) dX12_readGameLine_86 rfl (by decide) (fun c_86 => ?_) (fun c_86 => ?_)
      · refine J_iconst (nx := 94) (i := 0) (v := 0) (by decide) dX12_readGameLine_93 rfl ?_
        exact Jrz dX12_readGameLine_94 rfl (by decide) (Nat.zero_le _) (Nat.zero_le _) (RXi.of (by rw [pKick_1 he1]; exact PGm.mkN ((Fr.rf (f := fGm) (a := aGm)).gB hf1) hb1))
      · exact absurd c_86 (by decide)
    · exact absurd c_75 (by decide)

