
/-! the Model: a line of a game -/
def NP (n : Nat) (C : Nat → Int32) (g : GS) (r : NR) (x : Int32) (g2 : GS) : Prop := Fr fB aNo g g2 ∧ (match r with
  | .inl e => x = -1 ∧ gF g2 63 8 = nI e
  | .inr q => x = nI q.2 ∧ q.2 ≤ 9999 ∧ MLq n C q.1 g2)
theorem NP.neg {n : Nat} {C : Nat → Int32} {g g2 : GS} {r : NR} {x : Int32} (h : NP n C g r x g2) (hx : x < 0) : ∃ e, r = .inl e ∧ gF g2 63 8 = nI e ∧ Fr fB aNo g g2 := by
  obtain ⟨h1, h2⟩ := h
  cases r with
  | inl e => exact ⟨e, rfl, h2.2, h1⟩
  | inr q =>
    obtain ⟨h3, h4, -⟩ := h2
    rw [h3] at hx
    exact absurd (nI_ltd (a := q.2) (b := 0) (by omega) (by omega) hx) (by omega)
theorem NP.pos {n : Nat} {C : Nat → Int32} {g g2 : GS} {r : NR} {x : Int32} (h : NP n C g r x g2) (hx : ¬ x < 0) : ∃ b v, r = .inr (b, v) ∧ x = nI v ∧ v ≤ 9999 ∧ MLq n C b g2 ∧ Fr fB aNo g g2 := by
  obtain ⟨h1, h2⟩ := h
  cases r with
  | inl e => exact absurd (show x < 0 by rw [h2.1]; decide) hx
  | inr q => exact ⟨q.1, q.2, rfl, h2.1, h2.2.1, h2.2.2, h1⟩
theorem pNum_y {n : Nat} {C : Nat → Int32} {b v most : Nat} (h : obNum n C b = nI v) (hv : v ≤ 9999) (h2 : ¬ nI most < nI v) : pNum (obT n C) b most = .inr (obNxt n C b, v) := by
  show (if obNum n C b < 0 then Sum.inl b else if obNum n C b ≤ nI most then Sum.inr (obNxt n C b, (obNum n C b).toNatClampNeg) else Sum.inl b : NR) = _
  rw [h, if_neg (show ¬ nI v < 0 from fun z => absurd (nI_ltd (a := v) (b := 0) (by omega) (by omega) z) (by omega)), if_pos (nlt_le h2), nI_clamp (by omega)]
theorem pNum_n {n : Nat} {C : Nat → Int32} {b most : Nat} (h : obNum n C b = -1 ∨ nI most < obNum n C b) : pNum (obT n C) b most = .inl b := by
  show (if obNum n C b < 0 then Sum.inl b else if obNum n C b ≤ nI most then Sum.inr (obNxt n C b, (obNum n C b).toNatClampNeg) else Sum.inl b : NR) = _
  by_cases c : obNum n C b < 0
  · rw [if_pos c]
  · rw [if_neg c]
    rcases h with z | z
    · exact absurd (show obNum n C b < 0 by rw [z]; decide) c
    · rw [if_neg (lt_nle z)]
theorem ct_m_num (g : GS) (n : Nat) (C : Nat → Int32) (b : Nat) (hQ : MLq n C b g) (most : Nat) : Ct mX12_number (rm 2 0 0) [.ref 63, .int (nI (most))] (Wd g) (RXi (NP n C g (pNum (obT n C) b most))) :=
  (ct_m_number g n C b hQ (nI most)).imp (fun r es q => by
    obtain ⟨x, g2, hr, he, hf, hb, h⟩ := q
    refine ⟨x, g2, hr, he, hf, ?_⟩
    rcases h with ⟨v, h1, h2, h3, h4, h5⟩ | ⟨h1, h2⟩
    · rw [pNum_y h2 h1 h3]; exact ⟨h4, h1, h5⟩
    · rw [pNum_n h1]; exact ⟨h2, hb⟩)
theorem NP.mkN {n : Nat} {C : Nat → Int32} {g g2 : GS} {e : Nat} (h : Fr fB aNo g g2) (h2 : gF g2 63 8 = nI e) : NP n C g (.inl e) (-1) g2 := ⟨h, rfl, h2⟩
theorem pState_1 {n : Nat} {C : Nat → Int32} {b e : Nat} (h : pNum (obT n C) b 7 = .inl e) : pState (obT n C) b = .inl e := by unfold pState; rw [h]
theorem pState_2 {n : Nat} {C : Nat → Int32} {b b1 z e : Nat} (h : pNum (obT n C) b 7 = .inr (b1, z)) (h2 : pNum (obT n C) b1 3 = .inl e) : pState (obT n C) b = .inl e := by unfold pState; rw [h]; show (match pNum (obT n C) b1 3 with | .inl e => (Sum.inl e : NR) | .inr u => .inr (u.1, 4 * z + u.2)) = _; rw [h2]
theorem pState_3 {n : Nat} {C : Nat → Int32} {b b1 b2 z f : Nat} (h : pNum (obT n C) b 7 = .inr (b1, z)) (h2 : pNum (obT n C) b1 3 = .inr (b2, f)) : pState (obT n C) b = .inr (b2, 4 * z + f) := by unfold pState; rw [h]; show (match pNum (obT n C) b1 3 with | .inl e => (Sum.inl e : NR) | .inr u => .inr (u.1, 4 * z + u.2)) = _; rw [h2]
theorem pNum_le {n : Nat} {C : Nat → Int32} {b b1 v most : Nat} (hm : most < 2 ^ 30) (h : pNum (obT n C) b most = .inr (b1, v)) : v ≤ most := by
  unfold pNum at h
  by_cases c : oNum (obT n C) b < 0
  · rw [if_pos c] at h; cases h
  · rw [if_neg c] at h
    by_cases c2 : oNum (obT n C) b ≤ nI most
    · rw [if_pos c2] at h
      cases h
      have h1 := Int32.le_iff_toInt_le.mp c2
      rw [nI_toInt (by omega)] at h1
      show (oNum (obT n C) b).toInt.toNat ≤ most
      omega
    · rw [if_neg c2] at h; cases h

set_option maxRecDepth 100000 in
set_option maxHeartbeats 4000000 in
theorem ct_m_readState (g : GS) (n : Nat) (C : Nat → Int32) (b : Nat) (hQ : MLq n C b g) : Ct mX12_readState (rm 3 0 0) [.ref 63] (Wd g) (RXi (NP n C g (pState (obT n C) b))) := by
  refine Ct.of (by decide +kernel) (Nat.le_of_ble_eq_true rfl) ?_
  show J _ _ _ _ 0 [some (.ref 63), none, none] [] _ 0 0
  refine J_aload_n (nx := 1) dX12_readState_0 rfl rfl ?_
  refine J_bipush (nx := 3) (i := 7) (v := 7) (by decide) dX12_readState_1 rfl ?_
  refine JiV1 (R' := rm (2) 0 0) (nx := 6) dX12_readState_3 rfl ml_X12_number lk_X12_148 iv_X12_number rfl rfl ⟨(Nat.le_of_ble_eq_true rfl), (Nat.le_of_ble_eq_true rfl)⟩ (Nat.le_of_ble_eq_true rfl) ⟨rfl, rfl⟩ (ct_m_num g n C b hQ 7) (fun x_3 g_3 p_3 => ?_)
  refine J_istore_n (nx := 7) dX12_readState_6 rfl rfl (Nat.le_of_ble_eq_true rfl) ?_
  refine J_iload_n (nx := 8) dX12_readState_7 rfl rfl ?_
  refine J_if_ge (nx := 11) (tgt := 15) dX12_readState_8 rfl (by decide) (fun c_8 => ?_) (fun c_8 => ?_)
  · obtain ⟨b1, z, he1, hx1, hz9, hq1, hf1⟩ := p_3.pos (fun q => lt_nle q c_8)
    have hz7 := pNum_le (by decide) he1
    refine J_aload_n (nx := 16) dX12_readState_15 rfl rfl ?_
    refine J_iconst (nx := 17) (i := 3) (v := 3) (by decide) dX12_readState_16 rfl ?_
    refine JiV1 (R' := rm (2) 0 0) (nx := 20) dX12_readState_17 rfl ml_X12_number lk_X12_148 iv_X12_number rfl rfl ⟨(Nat.le_of_ble_eq_true rfl), (Nat.le_of_ble_eq_true rfl)⟩ (Nat.le_of_ble_eq_true rfl) ⟨rfl, rfl⟩ (ct_m_num g_3 n C b1 hq1 3) (fun x_17 g_17 p_17 => ?_)
    refine J_istore_n (nx := 21) dX12_readState_20 rfl rfl (Nat.le_of_ble_eq_true rfl) ?_
    refine J_iload_n (nx := 22) dX12_readState_21 rfl rfl ?_
    refine J_if_ge (nx := 25) (tgt := 29) dX12_readState_22 rfl (by decide) (fun c_22 => ?_) (fun c_22 => ?_)
    · obtain ⟨b2, f, he2, hx2, hf9, hq2, hf2⟩ := p_17.pos (fun q => lt_nle q c_22)
      rw [hx1, hx2]
      have hf3 := pNum_le (by decide) he2
      refine J_iconst (nx := 30) (i := 4) (v := 4) (by decide) dX12_readState_29 rfl ?_
      skip
      refine J_iload_n (nx := 31) dX12_readState_30 rfl rfl ?_
      refine J_imul (nx := 32) dX12_readState_31 rfl ?_
      refine J_iload_n (nx := 33) dX12_readState_32 rfl rfl ?_
      refine J_iadd (nx := 34) dX12_readState_33 rfl ?_
      exact Jri dX12_readState_34 rfl (Nat.zero_le _) (Nat.zero_le _) (RXi.of (by rw [pState_3 he1 he2]; exact ⟨hf1.tr hf2, (nIa (nIm (nIc 4) (Eq.refl (nI (z)))) (Eq.refl (nI (f)))), by show 4 * z + f ≤ 9999; omega, hq2⟩))
    · skip
      refine J_iconst (nx := 26) (i := -1) (v := -1) (by decide) dX12_readState_25 rfl ?_
      refine J_goto (nx := 34) dX12_readState_26 (by decide) ?_
      exact Jri dX12_readState_34 rfl (Nat.zero_le _) (Nat.zero_le _) (RXi.of (by first | (rw [pState_1 he1]; exact NP.mkN hf1 hb1) | (obtain ⟨e, he2, hb2, hf2⟩ := p_17.neg (nle_lt c_22); rw [pState_2 he1 he2]; exact NP.mkN (hf1.tr hf2) hb2)))
  · obtain ⟨e, he1, hb1, hf1⟩ := p_3.neg (nle_lt c_8)
    refine J_iconst (nx := 12) (i := -1) (v := -1) (by decide) dX12_readState_11 rfl ?_
    refine J_goto (nx := 20) dX12_readState_12 (by decide) ?_
    refine J_istore_n (nx := 21) dX12_readState_20 rfl rfl (Nat.le_of_ble_eq_true rfl) ?_
    refine J_iload_n (nx := 22) dX12_readState_21 rfl rfl ?_
    refine J_if_ge (nx := 25) (tgt := 29) dX12_readState_22 rfl (by decide) (fun c_22 => ?_) (fun c_22 => ?_)
    · exact absurd c_22 (by decide)
    · skip
      refine J_iconst (nx := 26) (i := -1) (v := -1) (by decide) dX12_readState_25 rfl ?_
      refine J_goto (nx := 34) dX12_readState_26 (by decide) ?_
      exact Jri dX12_readState_34 rfl (Nat.zero_le _) (Nat.zero_le _) (RXi.of (by first | (rw [pState_1 he1]; exact NP.mkN hf1 hb1) | (obtain ⟨e, he2, hb2, hf2⟩ := p_17.neg (nle_lt c_22); rw [pState_2 he1 he2]; exact NP.mkN (hf1.tr hf2) hb2)))

theorem pState_lt {n : Nat} {C : Nat → Int32} {b b1 s : Nat} (h : pState (obT n C) b = .inr (b1, s)) : s < 32 := by
  cases h1 : pNum (obT n C) b 7 with
  | inl e => rw [pState_1 h1] at h; cases h
  | inr q =>
    obtain ⟨c1, z⟩ := q
    cases h2 : pNum (obT n C) c1 3 with
    | inl e => rw [pState_2 h1 h2] at h; cases h
    | inr u =>
      obtain ⟨c2, f⟩ := u
      rw [pState_3 h1 h2] at h
      cases h
      have := pNum_le (by decide) h1
      have := pNum_le (by decide) h2
      omega
def fGm (c k : Nat) : Bool := Nat.beq c 63 && (Nat.beq k 6 || (Nat.beq k 8 || Nat.beq k 16))
def aGm (c : Nat) : Bool := Nat.beq c 68 || Nat.beq c 69
theorem fGm_B (c k : Nat) (h : fGm c k = false) : fB c k = false := by
  unfold fGm at h; unfold fB; revert h
  cases Nat.beq c 63 <;> cases Nat.beq k 6 <;> cases Nat.beq k 8 <;> simp
theorem Fr.gB {g g1 g2 : GS} (h : Fr fGm aGm g g1) (h2 : Fr fB aNo g1 g2) : Fr fGm aGm g g2 := h.tr (h2.mono fGm_B (fun _ _ => rfl))
def drM (g : GS) : Dr := (gA g 68, gA g 69, gF g 63 16)
theorem drM_B {g g2 : GS} (h : Fr fB aNo g g2) : drM g2 = drM g := by unfold drM; rw [h.2.1 68 rfl, h.2.1 69 rfl, h.1 63 16 rfl]
def PGm (n : Nat) (C : Nat → Int32) (g : GS) (r : Nat ⊕ (Nat × Ed)) (x : Int32) (g2 : GS) : Prop := Fr fGm aGm g g2 ∧ (match r with
  | .inl e => x = 0 ∧ gF g2 63 8 = nI e
  | .inr q => x = 1 ∧ MLq n C q.1 g2 ∧ drM g2 = apE q.2 (drM g))
theorem PGm.mkN {n : Nat} {C : Nat → Int32} {g g2 : GS} {e : Nat} (h : Fr fGm aGm g g2) (h2 : gF g2 63 8 = nI e) : PGm n C g (.inl e) 0 g2 := ⟨h, rfl, h2⟩
theorem PGm.mkY {n : Nat} {C : Nat → Int32} {g g2 : GS} {b : Nat} {ed : Ed} (h : Fr fGm aGm g g2) (h2 : MLq n C b g2) (h3 : drM g2 = apE ed (drM g)) : PGm n C g (.inr (b, ed)) 1 g2 := ⟨h, rfl, h2, h3⟩
theorem pGrace_n {n : Nat} {C : Nat → Int32} {b e : Nat} (h : pNum (obT n C) b 10 = .inl e) : pGrace (obT n C) b = .inl e := by unfold pGrace; rw [h]
theorem pGrace_y {n : Nat} {C : Nat → Int32} {b b1 v : Nat} (h : pNum (obT n C) b 10 = .inr (b1, v)) : pGrace (obT n C) b = .inr (b1, 2, 0, v) := by unfold pGrace; rw [h]
theorem pKick_1 {n : Nat} {C : Nat → Int32} {b e : Nat} (h : pNum (obT n C) b 7 = .inl e) : pKick (obT n C) b = .inl e := by unfold pKick; rw [h]
theorem pKick_2 {n : Nat} {C : Nat → Int32} {b b1 z e : Nat} (h : pNum (obT n C) b 7 = .inr (b1, z)) (h2 : pNum (obT n C) b1 9999 = .inl e) : pKick (obT n C) b = .inl e := by
  unfold pKick; rw [h]
  show (match pNum (obT n C) b1 9999 with | .inl e => (Sum.inl e : Nat ⊕ (Nat × Ed)) | .inr v => .inr (v.1, 1, z, v.2)) = _
  rw [h2]
theorem pKick_3 {n : Nat} {C : Nat → Int32} {b b1 b2 z v : Nat} (h : pNum (obT n C) b 7 = .inr (b1, z)) (h2 : pNum (obT n C) b1 9999 = .inr (b2, v)) : pKick (obT n C) b = .inr (b2, 1, z, v) := by
  unfold pKick; rw [h]
  show (match pNum (obT n C) b1 9999 with | .inl e => (Sum.inl e : Nat ⊕ (Nat × Ed)) | .inr v => .inr (v.1, 1, z, v.2)) = _
  rw [h2]
theorem chT_1 {n : Nat} {C : Nat → Int32} {s e : Nat} {r : NR} (h : r = .inl e) : chT (obT n C) s r = .inl e := by rw [h]; rfl
theorem chT_2 {n : Nat} {C : Nat → Int32} {s b w e : Nat} {r : NR} (h : r = .inr (b, w)) (h2 : pNum (obT n C) b 100 = .inl e) : chT (obT n C) s r = .inl e := by
  rw [h]
  show (match pNum (obT n C) b 100 with | .inl e => (Sum.inl e : Nat ⊕ (Nat × Ed)) | .inr v => .inr (v.1, 0, 34 * s + w, v.2)) = _
  rw [h2]
theorem chT_3 {n : Nat} {C : Nat → Int32} {s b b2 w v : Nat} {r : NR} (h : r = .inr (b, w)) (h2 : pNum (obT n C) b 100 = .inr (b2, v)) : chT (obT n C) s r = .inr (b2, 0, 34 * s + w, v) := by
  rw [h]
  show (match pNum (obT n C) b 100 with | .inl e => (Sum.inl e : Nat ⊕ (Nat × Ed)) | .inr v => .inr (v.1, 0, 34 * s + w, v.2)) = _
  rw [h2]

set_option maxRecDepth 100000 in
set_option maxHeartbeats 4000000 in
theorem sg_m_gr (n0 : Nat) (g : GS) (n : Nat) (C : Nat → Int32) (b : Nat) (hQ : MLq n C b g) : J mX12_readGameLine (rm 5 0 0) (RXi (PGm n C g (pGrace (obT n C) b))) n0 9 [some (.ref 63), none, none, none] [] (Wd g) 0 0 := by
  refine J_aload_n (nx := 10) dX12_readGameLine_9 rfl rfl ?_
  refine J_bipush (nx := 12) (i := 10) (v := 10) (by decide) dX12_readGameLine_10 rfl ?_
  refine JiV1 (R' := rm (2) 0 0) (nx := 15) dX12_readGameLine_12 rfl ml_X12_number lk_X12_148 iv_X12_number rfl rfl ⟨(Nat.le_of_ble_eq_true rfl), (Nat.le_of_ble_eq_true rfl)⟩ (Nat.le_of_ble_eq_true rfl) ⟨rfl, rfl⟩ (ct_m_num g n C b hQ 10) (fun x_12 g_12 p_12 => ?_)
  refine J_istore_n (nx := 16) dX12_readGameLine_15 rfl rfl (Nat.le_of_ble_eq_true rfl) ?_
  refine J_aload_n (nx := 17) dX12_readGameLine_16 rfl rfl ?_
  refine J_iload_n (nx := 18) dX12_readGameLine_17 rfl rfl ?_
  refine J_if_ge (nx := 21) (tgt := 28) dX12_readGameLine_18 rfl (by decide) (fun c_18 => ?_) (fun c_18 => ?_)
  · refine J_iload_n (nx := 29) dX12_readGameLine_28 rfl rfl ?_
    refine Jp_63_16 (nx := 32) dX12_readGameLine_29 rfl fl_X12_187 ?_
    refine J.gen (fun g_29 hg_29 => ?_)
    refine J_iload_n (nx := 33) dX12_readGameLine_32 rfl rfl ?_
    refine J_if_lt (nx := 36) (tgt := 40) dX12_readGameLine_33 rfl (by decide) (fun c_33 => ?_) (fun c_33 => ?_)
    · refine J_iconst (nx := 41) (i := 0) (v := 0) (by decide) dX12_readGameLine_40 rfl ?_
      obtain ⟨e, he, hb, hf⟩ := p_12.neg c_33
      exact Jrz dX12_readGameLine_41 rfl (by decide) (Nat.zero_le _) (Nat.zero_le _) (RXi.of (by rw [pGrace_n he]; exact PGm.mkN (by rw [hg_29]; exact Fr.sF ((Fr.rf (f := fGm) (a := aGm)).gB hf) rfl) (by rw [hg_29]; exact hb)))
    · refine J_iconst (nx := 37) (i := 1) (v := 1) (by decide) dX12_readGameLine_36 rfl ?_
      refine J_goto (nx := 41) dX12_readGameLine_37 (by decide) ?_
      obtain ⟨b1, v, he, hx, hv, hq, hf⟩ := p_12.pos c_33
      exact Jrz dX12_readGameLine_41 rfl (by decide) (Nat.zero_le _) (Nat.zero_le _) (RXi.of (by
  rw [pGrace_y he]
  have hge : g_29 = sF g_12 63 16 (nI v) := by
    rw [hg_29]
    first
      | rw [hx]
      | exact absurd c_18 (fun z => c_33 (nle_lt z))
      | exact absurd (nle_lt c_18) c_33
  refine PGm.mkY (by rw [hge]; exact Fr.sF ((Fr.rf (f := fGm) (a := aGm)).gB hf) rfl) (by rw [hge]; exact hq) ?_
  rw [hge]
  have h0 := drM_B hf
  unfold drM at h0 ⊢
  show (gA g_12 68, gA g_12 69, nI v) = (gA g 68, gA g 69, nI v)
  rw [hf.2.1 68 rfl, hf.2.1 69 rfl]))
  · refine J_aload_n (nx := 22) dX12_readGameLine_21 rfl rfl ?_
    refine Jg_63_16 (nx := 25) dX12_readGameLine_22 rfl fl_X12_187 ?_
    refine J_goto (nx := 29) dX12_readGameLine_25 (by decide) ?_
    refine Jp_63_16 (nx := 32) dX12_readGameLine_29 rfl fl_X12_187 ?_
    refine J.gen (fun g_29 hg_29 => ?_)
    refine J_iload_n (nx := 33) dX12_readGameLine_32 rfl rfl ?_
    refine J_if_lt (nx := 36) (tgt := 40) dX12_readGameLine_33 rfl (by decide) (fun c_33 => ?_) (fun c_33 => ?_)
    · refine J_iconst (nx := 41) (i := 0) (v := 0) (by decide) dX12_readGameLine_40 rfl ?_
      obtain ⟨e, he, hb, hf⟩ := p_12.neg c_33
      exact Jrz dX12_readGameLine_41 rfl (by decide) (Nat.zero_le _) (Nat.zero_le _) (RXi.of (by rw [pGrace_n he]; exact PGm.mkN (by rw [hg_29]; exact Fr.sF ((Fr.rf (f := fGm) (a := aGm)).gB hf) rfl) (by rw [hg_29]; exact hb)))
    · refine J_iconst (nx := 37) (i := 1) (v := 1) (by decide) dX12_readGameLine_36 rfl ?_
      refine J_goto (nx := 41) dX12_readGameLine_37 (by decide) ?_
      obtain ⟨b1, v, he, hx, hv, hq, hf⟩ := p_12.pos c_33
      exact Jrz dX12_readGameLine_41 rfl (by decide) (Nat.zero_le _) (Nat.zero_le _) (RXi.of (by
  rw [pGrace_y he]
  have hge : g_29 = sF g_12 63 16 (nI v) := by
    rw [hg_29]
    first
      | rw [hx]
      | exact absurd c_18 (fun z => c_33 (nle_lt z))
      | exact absurd (nle_lt c_18) c_33
  refine PGm.mkY (by rw [hge]; exact Fr.sF ((Fr.rf (f := fGm) (a := aGm)).gB hf) rfl) (by rw [hge]; exact hq) ?_
  rw [hge]
  have h0 := drM_B hf
  unfold drM at h0 ⊢
  show (gA g_12 68, gA g_12 69, nI v) = (gA g 68, gA g 69, nI v)
  rw [hf.2.1 68 rfl, hf.2.1 69 rfl]))

set_option maxRecDepth 100000 in
set_option maxHeartbeats 4000000 in
theorem sg_m_ki (n0 : Nat) (g : GS) (n : Nat) (C : Nat → Int32) (b : Nat) (hQ : MLq n C b g) : J mX12_readGameLine (rm 5 0 0) (RXi (PGm n C g (pKick (obT n C) b))) n0 51 [some (.ref 63), none, none, none] [] (Wd g) 0 0 := by
  refine J_aload_n (nx := 52) dX12_readGameLine_51 rfl rfl ?_
  refine J_bipush (nx := 54) (i := 7) (v := 7) (by decide) dX12_readGameLine_52 rfl ?_
  refine JiV1 (R' := rm (2) 0 0) (nx := 57) dX12_readGameLine_54 rfl ml_X12_number lk_X12_148 iv_X12_number rfl rfl ⟨(Nat.le_of_ble_eq_true rfl), (Nat.le_of_ble_eq_true rfl)⟩ (Nat.le_of_ble_eq_true rfl) ⟨rfl, rfl⟩ (ct_m_num g n C b hQ 7) (fun x_54 g_54 p_54 => ?_)
  refine J_istore_n (nx := 58) dX12_readGameLine_57 rfl rfl (Nat.le_of_ble_eq_true rfl) ?_
  refine J_iload_n (nx := 59) dX12_readGameLine_58 rfl rfl ?_
  refine J_if_ge (nx := 62) (tgt := 66) dX12_readGameLine_59 rfl (by decide) (fun c_59 => ?_) (fun c_59 => ?_)
  · obtain ⟨b1, z, he1, hx1, hz9, hq1, hf1⟩ := p_54.pos (fun q => lt_nle q c_59)
    have hz7 := pNum_le (by decide) he1
    refine J_aload_n (nx := 67) dX12_readGameLine_66 rfl rfl ?_
    refine J_sipush (nx := 70) (i := 9999) (v := 9999) (by decide) dX12_readGameLine_67 rfl ?_
    refine JiV1 (R' := rm (2) 0 0) (nx := 73) dX12_readGameLine_70 rfl ml_X12_number lk_X12_148 iv_X12_number rfl rfl ⟨(Nat.le_of_ble_eq_true rfl), (Nat.le_of_ble_eq_true rfl)⟩ (Nat.le_of_ble_eq_true rfl) ⟨rfl, rfl⟩ (ct_m_num g_54 n C b1 hq1 9999) (fun x_70 g_70 p_70 => ?_)
    refine J_istore_n (nx := 74) dX12_readGameLine_73 rfl rfl (Nat.le_of_ble_eq_true rfl) ?_
    refine J_iload_n (nx := 75) dX12_readGameLine_74 rfl rfl ?_
    refine J_if_lt (nx := 78) (tgt := 85) dX12_readGameLine_75 rfl (by decide) (fun c_75 => ?_) (fun c_75 => ?_)
    · skip
      refine J_iload_n (nx := 86) dX12_readGameLine_85 rfl rfl ?_
      refine J_if_lt (nx := 89) (tgt := 93) dX12_readGameLine_86 rfl (by decide) (fun c_86 => ?_) (fun c_86 => ?_)
      · refine J_iconst (nx := 94) (i := 0) (v := 0) (by decide) dX12_readGameLine_93 rfl ?_
        exact Jrz dX12_readGameLine_94 rfl (by decide) (Nat.zero_le _) (Nat.zero_le _) (RXi.of (by
  first
    | exact absurd c_75 c_86
    | exact absurd c_86 c_75
    | (obtain ⟨e, he2, hb2, hf2⟩ := p_70.neg c_75
       rw [pKick_2 he1 he2]; exact PGm.mkN (((Fr.rf (f := fGm) (a := aGm)).gB hf1).gB hf2) hb2)))
      · refine J_iconst (nx := 90) (i := 1) (v := 1) (by decide) dX12_readGameLine_89 rfl ?_
        refine J_goto (nx := 94) dX12_readGameLine_90 (by decide) ?_
        exact Jrz dX12_readGameLine_94 rfl (by decide) (Nat.zero_le _) (Nat.zero_le _) (RXi.of (by
  first
    | exact absurd c_75 c_86
    | exact absurd c_86 c_75
    | (rw [pKick_3 he1 he2]
       refine PGm.mkY (by rw [hg_84]; exact (((Fr.rf (f := fGm) (a := aGm)).gB hf1).gB hf2).sA rfl) (by rw [hg_84]; exact hq2) ?_
       rw [hg_84, hx2]
       show (gA g_70 68, upd (gA g_70 69) z (nI v), gF g_70 63 16) = (gA g 68, upd (gA g 69) z (nI v), gF g 63 16)
       rw [hf2.2.1 68 rfl, hf2.2.1 69 rfl, hf2.1 63 16 rfl, hf1.2.1 68 rfl, hf1.2.1 69 rfl, hf1.1 63 16 rfl])))
    · obtain ⟨b2, v, he2, hx2, hv9, hq2, hf2⟩ := p_70.pos c_75
      refine J_aload_n (nx := 79) dX12_readGameLine_78 rfl rfl ?_
      refine Jg_63_15 (nx := 82) dX12_readGameLine_79 rfl fl_X12_33 ?_
      rw [hx1]
      refine J_iload_n (nx := 83) dX12_readGameLine_82 rfl rfl ?_
      skip
      refine J_iload_n (nx := 84) dX12_readGameLine_83 rfl rfl ?_
      refine Jt_69 (nx := 85) dX12_readGameLine_84 rfl (vpE (n := z) (Eq.refl (nI (z))) (by omega) (by decide)) ?_
      rw [clE (n := z) (Eq.refl (nI (z))) (by omega)]
      refine J.gen (fun g_84 hg_84 => ?_)
      skip
      refine J_iload_n (nx := 86) dX12_readGameLine_85 rfl rfl ?_
      refine J_if_lt (nx := 89) (tgt := 93) dX12_readGameLine_86 rfl (by decide) (fun c_86 => ?_) (fun c_86 => ?_)
      · refine J_iconst (nx := 94) (i := 0) (v := 0) (by decide) dX12_readGameLine_93 rfl ?_
        exact Jrz dX12_readGameLine_94 rfl (by decide) (Nat.zero_le _) (Nat.zero_le _) (RXi.of (by
  first
    | exact absurd c_75 c_86
    | exact absurd c_86 c_75
    | (obtain ⟨e, he2, hb2, hf2⟩ := p_70.neg c_75
       rw [pKick_2 he1 he2]; exact PGm.mkN (((Fr.rf (f := fGm) (a := aGm)).gB hf1).gB hf2) hb2)))
      · refine J_iconst (nx := 90) (i := 1) (v := 1) (by decide) dX12_readGameLine_89 rfl ?_
        refine J_goto (nx := 94) dX12_readGameLine_90 (by decide) ?_
        exact Jrz dX12_readGameLine_94 rfl (by decide) (Nat.zero_le _) (Nat.zero_le _) (RXi.of (by
  first
    | exact absurd c_75 c_86
    | exact absurd c_86 c_75
    | (rw [pKick_3 he1 he2]
       refine PGm.mkY (by rw [hg_84]; exact (((Fr.rf (f := fGm) (a := aGm)).gB hf1).gB hf2).sA rfl) (by rw [hg_84]; exact hq2) ?_
       rw [hg_84, hx2]
       show (gA g_70 68, upd (gA g_70 69) z (nI v), gF g_70 63 16) = (gA g 68, upd (gA g 69) z (nI v), gF g 63 16)
       rw [hf2.2.1 68 rfl, hf2.2.1 69 rfl, hf2.1 63 16 rfl, hf1.2.1 68 rfl, hf1.2.1 69 rfl, hf1.1 63 16 rfl])))
  · obtain ⟨e, he1, hb1, hf1⟩ := p_54.neg (nle_lt c_59)
    refine J_iconst (nx := 63) (i := -1) (v := -1) (by decide) dX12_readGameLine_62 rfl ?_
    refine J_goto (nx := 73) dX12_readGameLine_63 (by decide) ?_
    refine J_istore_n (nx := 74) dX12_readGameLine_73 rfl rfl (Nat.le_of_ble_eq_true rfl) ?_
    refine J_iload_n (nx := 75) dX12_readGameLine_74 rfl rfl ?_
    refine J_if_lt (nx := 78) (tgt := 85) dX12_readGameLine_75 rfl (by decide) (fun c_75 => ?_) (fun c_75 => ?_)
    · skip
      refine J_iload_n (nx := 86) dX12_readGameLine_85 rfl rfl ?_
      refine J_if_lt (nx := 89) (tgt := 93) dX12_readGameLine_86 rfl (by decide) (fun c_86 => ?_) (fun c_86 => ?_)
      · refine J_iconst (nx := 94) (i := 0) (v := 0) (by decide) dX12_readGameLine_93 rfl ?_
        exact Jrz dX12_readGameLine_94 rfl (by decide) (Nat.zero_le _) (Nat.zero_le _) (RXi.of (by rw [pKick_1 he1]; exact PGm.mkN ((Fr.rf (f := fGm) (a := aGm)).gB hf1) hb1))
      · exact absurd c_86 (by decide)
    · exact absurd c_75 (by decide)

set_option maxRecDepth 100000 in
set_option maxHeartbeats 4000000 in
theorem sg_m_ch (n0 : Nat) (g0 g : GS) (n : Nat) (C : Nat → Int32) (s : Nat) (hs : s < 32) (W : Int32) (r : NR) (hfr : Fr fB aNo g0 g) (hr : (∃ e, r = .inl e ∧ W = -1 ∧ gF g 63 8 = nI e) ∨ (∃ b2 wh, r = .inr (b2, wh) ∧ W = nI wh ∧ wh < 34 ∧ MLq n C b2 g)) : J mX12_readGameLine (rm 5 0 0) (RXi (PGm n C g0 (chT (obT n C) s r))) n0 176 [some (.ref 63), some (.int (nI s)), some (.int W), none] [] (Wd g) 0 0 := by
  refine J_iload_n (nx := 177) dX12_readGameLine_176 rfl rfl ?_
  refine J_if_ge (nx := 180) (tgt := 184) dX12_readGameLine_177 rfl (by decide) (fun c_177 => ?_) (fun c_177 => ?_)
  · obtain ⟨b2, wh, he2, hW, hw34, hq2⟩ : ∃ b2 wh, r = .inr (b2, wh) ∧ W = nI wh ∧ wh < 34 ∧ MLq n C b2 g := by
      rcases hr with ⟨e, h1, h2, h3⟩ | h
      · exact absurd (show W < 0 by rw [h2]; decide) (fun z => lt_nle z c_177)
      · exact h
    refine J_aload_n (nx := 185) dX12_readGameLine_184 rfl rfl ?_
    refine J_bipush (nx := 187) (i := 100) (v := 100) (by decide) dX12_readGameLine_185 rfl ?_
    refine JiV1 (R' := rm (2) 0 0) (nx := 190) dX12_readGameLine_187 rfl ml_X12_number lk_X12_148 iv_X12_number rfl rfl ⟨(Nat.le_of_ble_eq_true rfl), (Nat.le_of_ble_eq_true rfl)⟩ (Nat.le_of_ble_eq_true rfl) ⟨rfl, rfl⟩ (ct_m_num g n C b2 hq2 100) (fun x_187 g_187 p_187 => ?_)
    refine J_istore_n (nx := 191) dX12_readGameLine_190 rfl rfl (Nat.le_of_ble_eq_true rfl) ?_
    refine J_iload_n (nx := 192) dX12_readGameLine_191 rfl rfl ?_
    refine J_if_lt (nx := 195) (tgt := 207) dX12_readGameLine_192 rfl (by decide) (fun c_192 => ?_) (fun c_192 => ?_)
    · refine J_iload_n (nx := 208) dX12_readGameLine_207 rfl rfl ?_
      refine J_if_lt (nx := 211) (tgt := 215) dX12_readGameLine_208 rfl (by decide) (fun c_208 => ?_) (fun c_208 => ?_)
      · refine J_iconst (nx := 216) (i := 0) (v := 0) (by decide) dX12_readGameLine_215 rfl ?_
        exact Jrz dX12_readGameLine_216 rfl (by decide) (Nat.zero_le _) (Nat.zero_le _) (RXi.of (by
  first
    | exact absurd c_192 c_208
    | exact absurd c_208 c_192
    | (obtain ⟨e, he3, hb3, hf3⟩ := p_187.neg c_192
       rw [chT_2 he2 he3]; exact PGm.mkN (((Fr.rf (f := fGm) (a := aGm)).gB hfr).gB hf3) hb3)))
      · refine J_iconst (nx := 212) (i := 1) (v := 1) (by decide) dX12_readGameLine_211 rfl ?_
        refine J_goto (nx := 216) dX12_readGameLine_212 (by decide) ?_
        exact Jrz dX12_readGameLine_216 rfl (by decide) (Nat.zero_le _) (Nat.zero_le _) (RXi.of (by
  first
    | exact absurd c_192 c_208
    | exact absurd c_208 c_192
    | (rw [chT_3 he2 he3]
       refine PGm.mkY (by rw [hg_206]; exact (((Fr.rf (f := fGm) (a := aGm)).gB hfr).gB hf3).sA rfl) (by rw [hg_206]; exact hq3) ?_
       rw [hg_206, hx3]
       show (upd (gA g_187 68) (34 * s + wh) (nI v), gA g_187 69, gF g_187 63 16) = (upd (gA g0 68) (34 * s + wh) (nI v), gA g0 69, gF g0 63 16)
       rw [hf3.2.1 68 rfl, hf3.2.1 69 rfl, hf3.1 63 16 rfl, hfr.2.1 68 rfl, hfr.2.1 69 rfl, hfr.1 63 16 rfl])))
    · obtain ⟨b3, v, he3, hx3, hv9, hq3, hf3⟩ := p_187.pos c_192
      refine J_aload_n (nx := 196) dX12_readGameLine_195 rfl rfl ?_
      refine Jg_63_14 (nx := 199) dX12_readGameLine_196 rfl fl_X12_30 ?_
      refine J_bipush (nx := 201) (i := 34) (v := 34) (by decide) dX12_readGameLine_199 rfl ?_
      refine J_iload_n (nx := 202) dX12_readGameLine_201 rfl rfl ?_
      refine J_imul (nx := 203) dX12_readGameLine_202 rfl ?_
      refine J_iload_n (nx := 204) dX12_readGameLine_203 rfl rfl ?_
      rw [hW]
      refine J_iadd (nx := 205) dX12_readGameLine_204 rfl ?_
      refine J_iload_n (nx := 206) dX12_readGameLine_205 rfl rfl ?_
      refine Jt_68 (nx := 207) dX12_readGameLine_206 rfl (vpE (n := ((34 * s) + wh)) (nIa (nIm (nIc 34) (Eq.refl (nI (s)))) (Eq.refl (nI (wh)))) (by omega) (by decide)) ?_
      rw [clE (n := ((34 * s) + wh)) (nIa (nIm (nIc 34) (Eq.refl (nI (s)))) (Eq.refl (nI (wh)))) (by omega)]
      refine J.gen (fun g_206 hg_206 => ?_)
      refine J_iload_n (nx := 208) dX12_readGameLine_207 rfl rfl ?_
      refine J_if_lt (nx := 211) (tgt := 215) dX12_readGameLine_208 rfl (by decide) (fun c_208 => ?_) (fun c_208 => ?_)
      · refine J_iconst (nx := 216) (i := 0) (v := 0) (by decide) dX12_readGameLine_215 rfl ?_
        exact Jrz dX12_readGameLine_216 rfl (by decide) (Nat.zero_le _) (Nat.zero_le _) (RXi.of (by
  first
    | exact absurd c_192 c_208
    | exact absurd c_208 c_192
    | (obtain ⟨e, he3, hb3, hf3⟩ := p_187.neg c_192
       rw [chT_2 he2 he3]; exact PGm.mkN (((Fr.rf (f := fGm) (a := aGm)).gB hfr).gB hf3) hb3)))
      · refine J_iconst (nx := 212) (i := 1) (v := 1) (by decide) dX12_readGameLine_211 rfl ?_
        refine J_goto (nx := 216) dX12_readGameLine_212 (by decide) ?_
        exact Jrz dX12_readGameLine_216 rfl (by decide) (Nat.zero_le _) (Nat.zero_le _) (RXi.of (by
  first
    | exact absurd c_192 c_208
    | exact absurd c_208 c_192
    | (rw [chT_3 he2 he3]
       refine PGm.mkY (by rw [hg_206]; exact (((Fr.rf (f := fGm) (a := aGm)).gB hfr).gB hf3).sA rfl) (by rw [hg_206]; exact hq3) ?_
       rw [hg_206, hx3]
       show (upd (gA g_187 68) (34 * s + wh) (nI v), gA g_187 69, gF g_187 63 16) = (upd (gA g0 68) (34 * s + wh) (nI v), gA g0 69, gF g0 63 16)
       rw [hf3.2.1 68 rfl, hf3.2.1 69 rfl, hf3.1 63 16 rfl, hfr.2.1 68 rfl, hfr.2.1 69 rfl, hfr.1 63 16 rfl])))
  · obtain ⟨e, he1, hb1⟩ : ∃ e, r = .inl e ∧ gF g 63 8 = nI e := by
      rcases hr with ⟨e, h1, h2, h3⟩ | ⟨b2, wh, h1, h2, h3, h4⟩
      · exact ⟨e, h1, h3⟩
      · exact absurd (show ¬ W < 0 by rw [h2]; exact fun z => absurd (nI_ltd (a := wh) (b := 0) (by omega) (by omega) z) (by omega)) (fun z => z (nle_lt c_177))
    refine J_iconst (nx := 181) (i := -1) (v := -1) (by decide) dX12_readGameLine_180 rfl ?_
    refine J_goto (nx := 190) dX12_readGameLine_181 (by decide) ?_
    refine J_istore_n (nx := 191) dX12_readGameLine_190 rfl rfl (Nat.le_of_ble_eq_true rfl) ?_
    refine J_iload_n (nx := 192) dX12_readGameLine_191 rfl rfl ?_
    refine J_if_lt (nx := 195) (tgt := 207) dX12_readGameLine_192 rfl (by decide) (fun c_192 => ?_) (fun c_192 => ?_)
    · refine J_iload_n (nx := 208) dX12_readGameLine_207 rfl rfl ?_
      refine J_if_lt (nx := 211) (tgt := 215) dX12_readGameLine_208 rfl (by decide) (fun c_208 => ?_) (fun c_208 => ?_)
      · refine J_iconst (nx := 216) (i := 0) (v := 0) (by decide) dX12_readGameLine_215 rfl ?_
        exact Jrz dX12_readGameLine_216 rfl (by decide) (Nat.zero_le _) (Nat.zero_le _) (RXi.of (by rw [chT_1 he1]; exact PGm.mkN ((Fr.rf (f := fGm) (a := aGm)).gB hfr) hb1))
      · exact absurd c_208 (by decide)
    · exact absurd c_192 (by decide)

theorem pChance_n {n : Nat} {C : Nat → Int32} {b e : Nat} (h : pState (obT n C) b = .inl e) : pChance (obT n C) b = .inl e := by unfold pChance; rw [h]
theorem pChance_y {n : Nat} {C : Nat → Int32} {b b1 s : Nat} (h : pState (obT n C) b = .inr (b1, s)) : pChance (obT n C) b = chT (obT n C) s (pWhat (obT n C) b1) := by unfold pChance; rw [h]
theorem pWhat_g {n : Nat} {C : Nat → Int32} {b : Nat} (h : obWrd n C b = 3) : pWhat (obT n C) b = .inr (obNxt n C b, 32) := if_pos h
theorem pWhat_l {n : Nat} {C : Nat → Int32} {b : Nat} (h : obWrd n C b = 4) : pWhat (obT n C) b = .inr (obNxt n C b, 33) := (if_neg (show ¬ obWrd n C b = 3 by omega)).trans (if_pos h)
theorem pWhat_t {n : Nat} {C : Nat → Int32} {b : Nat} (h : obWrd n C b = 2) : pWhat (obT n C) b = pState (obT n C) (obNxt n C b) := (if_neg (show ¬ obWrd n C b = 3 by omega)).trans ((if_neg (show ¬ obWrd n C b = 4 by omega)).trans (if_pos h))
theorem pWhat_n {n : Nat} {C : Nat → Int32} {b : Nat} (h : ¬ obWrd n C b = 2) (h3 : ¬ obWrd n C b = 3) (h4 : ¬ obWrd n C b = 4) : pWhat (obT n C) b = .inl b := (if_neg h3).trans ((if_neg h4).trans (if_neg h))
set_option maxRecDepth 100000 in
set_option maxHeartbeats 4000000 in
theorem sg_m_at (n0 : Nat) (g : GS) (n : Nat) (C : Nat → Int32) (b : Nat) (hQ : MLq n C b g) : J mX12_readGameLine (rm 5 0 0) (RXi (PGm n C g (pChance (obT n C) b))) n0 106 [some (.ref 63), none, none, none] [] (Wd g) 0 0 := by
  refine J_aload_n (nx := 107) dX12_readGameLine_106 rfl rfl ?_
  refine JiV0 (R' := rm (3) 0 0) (nx := 110) dX12_readGameLine_107 rfl ml_X12_readState lk_X12_191 iv_X12_readState rfl rfl ⟨(Nat.le_of_ble_eq_true rfl), (Nat.le_of_ble_eq_true rfl)⟩ (Nat.le_of_ble_eq_true rfl) ⟨rfl, rfl⟩ (ct_m_readState g n C b hQ) (fun x_107 g_107 p_107 => ?_)
  refine J_istore_n (nx := 111) dX12_readGameLine_110 rfl rfl (Nat.le_of_ble_eq_true rfl) ?_
  refine J_iload_n (nx := 112) dX12_readGameLine_111 rfl rfl ?_
  refine J_if_ge (nx := 115) (tgt := 117) dX12_readGameLine_112 rfl (by decide) (fun c_112 => ?_) (fun c_112 => ?_)
  · obtain ⟨b1, s, he1, hx1, hs9, hq1, hf1⟩ := p_107.pos (fun q => lt_nle q c_112)
    have hs32 := pState_lt he1
    rw [hx1, pChance_y he1]
    have hb1n := hq1.le
    refine J_aload_n (nx := 118) dX12_readGameLine_117 rfl rfl ?_
    refine JvV0 (R' := rm (2) 0 0) (nx := 121) dX12_readGameLine_118 rfl ml_X12_letters lk_X12_110 iv_X12_letters rfl rfl ⟨(Nat.le_of_ble_eq_true rfl), (Nat.le_of_ble_eq_true rfl)⟩ (Nat.le_of_ble_eq_true rfl) ⟨rfl, rfl⟩ (ct_m_lettersQ g_107 n C b1 hq1) (fun g_118 p_118 => ?_)
    have hlel := leN_le (C := C) hb1n.1
    have hf2 := hf1.tr p_118.1
    refine J_aload_n (nx := 122) dX12_readGameLine_121 rfl rfl ?_
    refine J_ldcS (nx := 124) (j := 2) dX12_readGameLine_122 rfl rfl (by decide) (by decide) ?_
    refine JcV1 (R' := rm (4) 0 0) (nx := 127) dX12_readGameLine_124 rfl ml_X12_isWord lk_X12_113 iv_X12_isWord rfl rfl ⟨(Nat.le_of_ble_eq_true rfl), (Nat.le_of_ble_eq_true rfl)⟩ (Nat.le_of_ble_eq_true rfl) ⟨rfl, rfl⟩ (ct_m_isWord g_118 n C (leN n C b1) b1 2 p_118.2.1 p_118.2.2 hlel.1 (by decide)) ?_
    rw [iw_wrd hb1n.2.1 (by decide) (by decide)]
    refine J_if_eq (nx := 130) (tgt := 135) dX12_readGameLine_127 rfl (by decide) (fun c_127 => ?_) (fun c_127 => ?_)
    · refine J_aload_n (nx := 136) dX12_readGameLine_135 rfl rfl ?_
      refine J_ldcS (nx := 138) (j := 3) dX12_readGameLine_136 rfl rfl (by decide) (by decide) ?_
      refine JcV1 (R' := rm (4) 0 0) (nx := 141) dX12_readGameLine_138 rfl ml_X12_isWord lk_X12_113 iv_X12_isWord rfl rfl ⟨(Nat.le_of_ble_eq_true rfl), (Nat.le_of_ble_eq_true rfl)⟩ (Nat.le_of_ble_eq_true rfl) ⟨rfl, rfl⟩ (ct_m_isWord g_118 n C (leN n C b1) b1 3 p_118.2.1 p_118.2.2 hlel.1 (by decide)) ?_
      rw [iw_wrd hb1n.2.1 (by decide) (by decide)]
      refine J_if_eq (nx := 144) (tgt := 149) dX12_readGameLine_141 rfl (by decide) (fun c_141 => ?_) (fun c_141 => ?_)
      · refine J_aload_n (nx := 150) dX12_readGameLine_149 rfl rfl ?_
        refine J_ldcS (nx := 152) (j := 4) dX12_readGameLine_150 rfl rfl (by decide) (by decide) ?_
        refine JcV1 (R' := rm (4) 0 0) (nx := 155) dX12_readGameLine_152 rfl ml_X12_isWord lk_X12_113 iv_X12_isWord rfl rfl ⟨(Nat.le_of_ble_eq_true rfl), (Nat.le_of_ble_eq_true rfl)⟩ (Nat.le_of_ble_eq_true rfl) ⟨rfl, rfl⟩ (ct_m_isWord g_118 n C (leN n C b1) b1 4 p_118.2.1 p_118.2.2 hlel.1 (by decide)) ?_
        rw [iw_wrd hb1n.2.1 (by decide) (by decide)]
        refine J_if_eq (nx := 158) (tgt := 163) dX12_readGameLine_155 rfl (by decide) (fun c_155 => ?_) (fun c_155 => ?_)
        · refine J_iconst (nx := 164) (i := -1) (v := -1) (by decide) dX12_readGameLine_163 rfl ?_
          refine J_istore_n (nx := 165) dX12_readGameLine_164 rfl rfl (Nat.le_of_ble_eq_true rfl) ?_
          refine J_iload_n (nx := 166) dX12_readGameLine_165 rfl rfl ?_
          refine J_bipush (nx := 168) (i := 34) (v := 34) (by decide) dX12_readGameLine_166 rfl ?_
          refine J_icmp_ne (nx := 171) (tgt := 176) dX12_readGameLine_168 rfl (by decide) (fun c_168 => ?_) (fun c_168 => ?_)
          · exact sg_m_ch _ g g_118 n C s hs32 _ _ hf2 (Or.inl ⟨b1, pWhat_n (of_decide_eq_false (bI_0.mp c_127)) (of_decide_eq_false (bI_0.mp c_141)) (of_decide_eq_false (bI_0.mp c_155)), rfl, p_118.2.2⟩)
          · exact absurd c_168 (by decide)
        · refine J_bipush (nx := 160) (i := 33) (v := 33) (by decide) dX12_readGameLine_158 rfl ?_
          refine J_goto (nx := 164) dX12_readGameLine_160 (by decide) ?_
          refine J_istore_n (nx := 165) dX12_readGameLine_164 rfl rfl (Nat.le_of_ble_eq_true rfl) ?_
          refine J_iload_n (nx := 166) dX12_readGameLine_165 rfl rfl ?_
          refine J_bipush (nx := 168) (i := 34) (v := 34) (by decide) dX12_readGameLine_166 rfl ?_
          refine J_icmp_ne (nx := 171) (tgt := 176) dX12_readGameLine_168 rfl (by decide) (fun c_168 => ?_) (fun c_168 => ?_)
          · have hwg := of_decide_eq_true (bI_n0.mp c_155)
            exact sg_m_ch _ g g_118 n C s hs32 _ _ hf2 (Or.inr ⟨obNxt n C b1, 33, pWhat_l hwg, rfl, by omega, leN_nx hb1n.2.1 (by decide) hwg p_118.2.1⟩)
          · exact absurd c_168 (by decide)
      · refine J_bipush (nx := 146) (i := 32) (v := 32) (by decide) dX12_readGameLine_144 rfl ?_
        refine J_goto (nx := 164) dX12_readGameLine_146 (by decide) ?_
        refine J_istore_n (nx := 165) dX12_readGameLine_164 rfl rfl (Nat.le_of_ble_eq_true rfl) ?_
        refine J_iload_n (nx := 166) dX12_readGameLine_165 rfl rfl ?_
        refine J_bipush (nx := 168) (i := 34) (v := 34) (by decide) dX12_readGameLine_166 rfl ?_
        refine J_icmp_ne (nx := 171) (tgt := 176) dX12_readGameLine_168 rfl (by decide) (fun c_168 => ?_) (fun c_168 => ?_)
        · have hwg := of_decide_eq_true (bI_n0.mp c_141)
          exact sg_m_ch _ g g_118 n C s hs32 _ _ hf2 (Or.inr ⟨obNxt n C b1, 32, pWhat_g hwg, rfl, by omega, leN_nx hb1n.2.1 (by decide) hwg p_118.2.1⟩)
        · exact absurd c_168 (by decide)
    · have hwt : obWrd n C b1 = 2 := of_decide_eq_true (bI_n0.mp c_127)
      have hqt := leN_nx hb1n.2.1 (by decide) hwt p_118.2.1
      refine J_bipush (nx := 132) (i := 34) (v := 34) (by decide) dX12_readGameLine_130 rfl ?_
      refine J_goto (nx := 164) dX12_readGameLine_132 (by decide) ?_
      refine J_istore_n (nx := 165) dX12_readGameLine_164 rfl rfl (Nat.le_of_ble_eq_true rfl) ?_
      refine J_iload_n (nx := 166) dX12_readGameLine_165 rfl rfl ?_
      refine J_bipush (nx := 168) (i := 34) (v := 34) (by decide) dX12_readGameLine_166 rfl ?_
      refine J_icmp_ne (nx := 171) (tgt := 176) dX12_readGameLine_168 rfl (by decide) (fun c_168 => ?_) (fun c_168 => ?_)
      · exact absurd c_168 (by decide)
      · refine J_aload_n (nx := 172) dX12_readGameLine_171 rfl rfl ?_
        refine JiV0 (R' := rm (3) 0 0) (nx := 175) dX12_readGameLine_172 rfl ml_X12_readState lk_X12_191 iv_X12_readState rfl rfl ⟨(Nat.le_of_ble_eq_true rfl), (Nat.le_of_ble_eq_true rfl)⟩ (Nat.le_of_ble_eq_true rfl) ⟨rfl, rfl⟩ (ct_m_readState g_118 n C (obNxt n C b1) hqt) (fun x_172 g_172 p_172 => ?_)
        refine J_istore_n (nx := 176) dX12_readGameLine_175 rfl rfl (Nat.le_of_ble_eq_true rfl) ?_
        rw [pWhat_t hwt]
        by_cases c : x_172 < 0
        · obtain ⟨e, he2, hb2, hf3⟩ := p_172.neg c
          obtain ⟨h1, h2⟩ := p_172
          rw [he2] at h2
          exact sg_m_ch _ g g_172 n C s hs32 _ _ (hf2.tr hf3) (Or.inl ⟨e, he2, h2.1, hb2⟩)
        · obtain ⟨b2, wh, he2, hx2, hw9, hq2, hf3⟩ := p_172.pos c
          have := pState_lt he2
          exact sg_m_ch _ g g_172 n C s hs32 _ _ (hf2.tr hf3) (Or.inr ⟨b2, wh, he2, hx2, by omega, hq2⟩)
  · refine J_iconst (nx := 116) (i := 0) (v := 0) (by decide) dX12_readGameLine_115 rfl ?_
    obtain ⟨e, he1, hb1, hf1⟩ := p_107.neg (nle_lt c_112)
    exact Jrz dX12_readGameLine_116 rfl (by decide) (Nat.zero_le _) (Nat.zero_le _) (RXi.of (by rw [pChance_n he1]; exact PGm.mkN ((Fr.rf (f := fGm) (a := aGm)).gB hf1) hb1))

set_option maxRecDepth 100000 in
set_option maxHeartbeats 4000000 in
theorem ct_m_gameLine (g : GS) (n : Nat) (C : Nat → Int32) (b : Nat) (h : MPt n C (leN n C b) g) (hbn : b ≤ n) (hb : gF g 63 8 = nI b) : Ct mX12_readGameLine (rm 5 0 0) [.ref 63] (Wd g) (RXi (PGm n C g (pGame (obT n C) b))) := by
  refine Ct.of (by decide +kernel) (Nat.le_of_ble_eq_true rfl) ?_
  show J _ _ _ _ 0 [some (.ref 63), none, none, none] [] _ 0 0
  have hn4 := h.2.1
  have hlel := leN_le (C := C) hbn
  refine J_aload_n (nx := 1) dX12_readGameLine_0 rfl rfl ?_
  refine J_ldcS (nx := 3) (j := 5) dX12_readGameLine_1 rfl rfl (by decide) (by decide) ?_
  refine JcV1 (R' := rm (4) 0 0) (nx := 6) dX12_readGameLine_3 rfl ml_X12_isWord lk_X12_113 iv_X12_isWord rfl rfl ⟨(Nat.le_of_ble_eq_true rfl), (Nat.le_of_ble_eq_true rfl)⟩ (Nat.le_of_ble_eq_true rfl) ⟨rfl, rfl⟩ (ct_m_isWord g n C (leN n C b) b 5 h hb hlel.1 (by decide)) ?_
  rw [iw_wrd hn4 (by decide) (by decide)]
  refine J_if_eq (nx := 9) (tgt := 42) dX12_readGameLine_6 rfl (by decide) (fun c_6 => ?_) (fun c_6 => ?_)
  · refine J_aload_n (nx := 43) dX12_readGameLine_42 rfl rfl ?_
    refine J_ldcS (nx := 45) (j := 19) dX12_readGameLine_43 rfl rfl (by decide) (by decide) ?_
    refine JcV1 (R' := rm (4) 0 0) (nx := 48) dX12_readGameLine_45 rfl ml_X12_isWord lk_X12_113 iv_X12_isWord rfl rfl ⟨(Nat.le_of_ble_eq_true rfl), (Nat.le_of_ble_eq_true rfl)⟩ (Nat.le_of_ble_eq_true rfl) ⟨rfl, rfl⟩ (ct_m_isWord g n C (leN n C b) b 19 h hb hlel.1 (by decide)) ?_
    rw [iw_wrd hn4 (by decide) (by decide)]
    refine J_if_eq (nx := 51) (tgt := 95) dX12_readGameLine_48 rfl (by decide) (fun c_48 => ?_) (fun c_48 => ?_)
    · refine J_aload_n (nx := 96) dX12_readGameLine_95 rfl rfl ?_
      refine J_ldcS (nx := 98) (j := 1) dX12_readGameLine_96 rfl rfl (by decide) (by decide) ?_
      refine JcV1 (R' := rm (4) 0 0) (nx := 101) dX12_readGameLine_98 rfl ml_X12_isWord lk_X12_113 iv_X12_isWord rfl rfl ⟨(Nat.le_of_ble_eq_true rfl), (Nat.le_of_ble_eq_true rfl)⟩ (Nat.le_of_ble_eq_true rfl) ⟨rfl, rfl⟩ (ct_m_isWord g n C (leN n C b) b 1 h hb hlel.1 (by decide)) ?_
      rw [iw_wrd hn4 (by decide) (by decide)]
      refine J_if_ne (nx := 104) (tgt := 106) dX12_readGameLine_101 rfl (by decide) (fun c_101 => ?_) (fun c_101 => ?_)
      · have hw := of_decide_eq_true (bI_n0.mp c_101)
        rw [show pGame (obT n C) b = pChance (obT n C) (obNxt n C b) from by show (if obWrd n C b = 1 then _ else if obWrd n C b = 19 then _ else if obWrd n C b = 5 then _ else _) = _; rw [hw]; rfl]
        exact sg_m_at _ g n C (obNxt n C b) (leN_nx hn4 (by decide) hw h)
      · refine J_iconst (nx := 105) (i := 0) (v := 0) (by decide) dX12_readGameLine_104 rfl ?_
        exact Jrz dX12_readGameLine_105 rfl (by decide) (Nat.zero_le _) (Nat.zero_le _) (RXi.of (by
  have h1 := of_decide_eq_false (bI_0.mp c_6)
  have h2 := of_decide_eq_false (bI_0.mp c_48)
  have h3 := of_decide_eq_false (bI_0.mp c_101)
  rw [show pGame (obT n C) b = .inl b from (if_neg h3).trans ((if_neg h2).trans (if_neg h1))]
  exact PGm.mkN Fr.rf hb))
    · have hw := of_decide_eq_true (bI_n0.mp c_48)
      rw [show pGame (obT n C) b = pKick (obT n C) (obNxt n C b) from by show (if obWrd n C b = 1 then _ else if obWrd n C b = 19 then _ else if obWrd n C b = 5 then _ else _) = _; rw [hw]; rfl]
      exact sg_m_ki _ g n C (obNxt n C b) (leN_nx hn4 (by decide) hw h)
  · have hw := of_decide_eq_true (bI_n0.mp c_6)
    rw [show pGame (obT n C) b = pGrace (obT n C) (obNxt n C b) from by show (if obWrd n C b = 1 then _ else if obWrd n C b = 19 then _ else if obWrd n C b = 5 then _ else _) = _; rw [hw]; rfl]
    exact sg_m_gr _ g n C (obNxt n C b) (leN_nx hn4 (by decide) hw h)

