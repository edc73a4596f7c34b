
/-! the Model: its tape -/
theorem J_ldcS {M : MI} {R : Room} {Q : Res → List ME → Prop} {n0 pc nx : Nat} {L : List (Option Value)} {rest : List Value} {es : List ME} {k ks : Nat} {j idx : Nat} (d : decode M.2.1 pc = .ok (.ldc idx, 2)) (hn : pc + 2 = nx) (hO : M.1.cls = "WhistleBookModel") (hm : (idx, j) ∈ mStr) (hj : j < 23) (h : J M R Q n0 nx L (.ref (CST + 24 + j) :: rest) es k ks) : J M R Q n0 pc L (rest) es k ks := by
  subst hn
  intro p l e s m args below meth c D cA ad0 A B0 H locs ls ad hC hR
  have hw := h p l e s m args below meth c D cA ad0 A B0 H locs ls ad hC ⟨hR.1, hR.2.1, hR.2.2.1, ws_cons (okV_ref (Or.inr (by omega))) hR.2.2.2.1, hR.2.2.2.2⟩
  have hz := (jKW hC).2.2.2.2.2.1 (idx, j) hm
  rw [← hO] at hz
  dsimp only at hz
  rw [← jRk hR (CST + 24 + j) (by omega)] at hz
  exact va_ldcS hC.1.1 hC.1.2.1 hC.1.2.2.2.2.1 hz d hw
def MPt (n : Nat) (C : Nat → Int32) (p : Nat) (g : GS) : Prop := gF g 63 7 = nI n ∧ n ≤ 400 ∧ gA g 66 = C ∧ gF g 63 6 = nI p ∧ p ≤ n
def atP (n : Nat) (C : Nat → Int32) (p : Nat) (lo hi : Int32) : Bool := if p < n then (if C p < lo then false else if hi < C p then false else true) else false
theorem atP_L {n : Nat} {C : Nat → Int32} {p : Nat} : atP n C p 97 122 = if p < n then isL (C p) else false := rfl
theorem atP_D {n : Nat} {C : Nat → Int32} {p : Nat} : atP n C p 48 57 = if p < n then isD (C p) else false := rfl
theorem atP_1 {n : Nat} {C : Nat → Int32} {p : Nat} {c : Int32} : atP n C p c c = if p < n then (if C p = c then true else false) else false := by
  unfold atP
  by_cases h : p < n
  · rw [if_pos h, if_pos h]
    by_cases e : C p = c
    · rw [if_pos e, e, if_neg (fun z => lt_nle z (Int32.le_iff_toInt_le.mpr (Int.le_refl _))), if_neg (fun z => lt_nle z (Int32.le_iff_toInt_le.mpr (Int.le_refl _)))]
    · rw [if_neg e]
      by_cases h1 : C p < c
      · rw [if_pos h1]
      · rw [if_neg h1]
        by_cases h2 : c < C p
        · rw [if_pos h2]
        · refine absurd (Int32.toInt_inj.mp ?_) e
          have q1 := Int32.le_iff_toInt_le.mp (nlt_le h1)
          have q2 := Int32.le_iff_toInt_le.mp (nlt_le h2)
          omega
  · rw [if_neg h, if_neg h]
theorem atP_B {n : Nat} {C : Nat → Int32} {p : Nat} : atP n C p 32 32 = if p < n then isB (C p) else false := atP_1
def fB (c k : Nat) : Bool := Nat.beq c 63 && (Nat.beq k 6 || Nat.beq k 8)
theorem MPt.mv {n : Nat} {C : Nat → Int32} {p q : Nat} {g g2 : GS} (h : MPt n C p g) (hf : Fr fB aNo g g2) (h6 : gF g2 63 6 = nI q) (hq : q ≤ n) : MPt n C q g2 := ⟨(hf.1 63 7 rfl).trans h.1, h.2.1, (hf.2.1 66 rfl).trans h.2.2.1, h6, hq⟩

theorem atP_0 {n : Nat} {C : Nat → Int32} {p : Nat} {lo hi : Int32} (h : ¬ p < n) : atP n C p lo hi = false := if_neg h
theorem atP_lo {n : Nat} {C : Nat → Int32} {p : Nat} {lo hi : Int32} (h : p < n) (h1 : C p < lo) : atP n C p lo hi = false := (if_pos h).trans (if_pos h1)
theorem atP_hi {n : Nat} {C : Nat → Int32} {p : Nat} {lo hi : Int32} (h : p < n) (h1 : ¬ C p < lo) (h2 : hi < C p) : atP n C p lo hi = false := (if_pos h).trans ((if_neg h1).trans (if_pos h2))
theorem atP_t {n : Nat} {C : Nat → Int32} {p : Nat} {lo hi : Int32} (h : p < n) (h1 : ¬ C p < lo) (h2 : ¬ hi < C p) : atP n C p lo hi = true := (if_pos h).trans ((if_neg h1).trans (if_neg h2))

set_option maxRecDepth 100000 in
set_option maxHeartbeats 4000000 in
theorem ct_m_isAt (g : GS) (n : Nat) (C : Nat → Int32) (p : Nat) (h : MPt n C p g) (lo hi : Int32) : Ct mX12_isAt (rm 0 0 0) [.ref 63, .int lo, .int hi] (Wd g) (RR (.inl (some (.int (bI (atP n C p lo hi))))) g) := by
  refine Ct.of (by decide +kernel) (Nat.le_of_ble_eq_true rfl) ?_
  show J _ _ _ _ 0 [some (.ref 63), some (.int lo), some (.int hi)] [] _ 0 0
  refine J_aload_n (nx := 1) dX12_isAt_0 rfl rfl ?_
  refine Jg_63_6 (nx := 4) dX12_isAt_1 rfl fl_X12_84 ?_
  rw [h.2.2.2.1]
  refine J_aload_n (nx := 5) dX12_isAt_4 rfl rfl ?_
  refine Jg_63_7 (nx := 8) dX12_isAt_5 rfl fl_X12_87 ?_
  rw [h.1]
  refine J_icmp_ge (nx := 11) (tgt := 41) dX12_isAt_8 rfl (by decide) (fun c_8 => ?_) (fun c_8 => ?_)
  · refine J_iconst (nx := 42) (i := 0) (v := 0) (by decide) dX12_isAt_41 rfl ?_
    exact Jrz dX12_isAt_42 rfl (by decide) (Nat.zero_le _) (Nat.zero_le _) (RR.i (show bI false = bI (atP n C p lo hi) from congrArg bI (by first | exact (atP_0 (fun z => absurd c_8 (nlt_nI z (by have := h.2.1; omega)))).symm | exact (atP_lo hpn c_21).symm | exact (atP_hi hpn c_21 c_34).symm)) rfl)
  · have hn4 := h.2.1
    have hp4 := h.2.2.2.2
    have hpn : p < n := by
      rcases Nat.lt_or_ge p n with z | z
      · exact z
      · exact absurd (nI_le_n z (by omega)) c_8
    have hn4 := h.2.1
    refine J_aload_n (nx := 12) dX12_isAt_11 rfl rfl ?_
    refine Jg_63_4 (nx := 15) dX12_isAt_12 rfl fl_X12_20 ?_
    refine J_aload_n (nx := 16) dX12_isAt_15 rfl rfl ?_
    refine Jg_63_6 (nx := 19) dX12_isAt_16 rfl fl_X12_84 ?_
    rw [h.2.2.2.1]
    refine Ja_66 (nx := 20) dX12_isAt_19 rfl (vp_in_nI (by omega) (by decide)) ?_
    rw [nI_clamp (by omega), show gA g 66 p = C p from congrFun h.2.2.1 p]
    refine J_iload_n (nx := 21) dX12_isAt_20 rfl rfl ?_
    refine J_icmp_lt (nx := 24) (tgt := 41) dX12_isAt_21 rfl (by decide) (fun c_21 => ?_) (fun c_21 => ?_)
    · refine J_iconst (nx := 42) (i := 0) (v := 0) (by decide) dX12_isAt_41 rfl ?_
      exact Jrz dX12_isAt_42 rfl (by decide) (Nat.zero_le _) (Nat.zero_le _) (RR.i (show bI false = bI (atP n C p lo hi) from congrArg bI (by first | exact (atP_0 (fun z => absurd c_8 (nlt_nI z (by have := h.2.1; omega)))).symm | exact (atP_lo hpn c_21).symm | exact (atP_hi hpn c_21 c_34).symm)) rfl)
    · refine J_aload_n (nx := 25) dX12_isAt_24 rfl rfl ?_
      refine Jg_63_4 (nx := 28) dX12_isAt_25 rfl fl_X12_20 ?_
      refine J_aload_n (nx := 29) dX12_isAt_28 rfl rfl ?_
      refine Jg_63_6 (nx := 32) dX12_isAt_29 rfl fl_X12_84 ?_
      rw [h.2.2.2.1]
      refine Ja_66 (nx := 33) dX12_isAt_32 rfl (vp_in_nI (by omega) (by decide)) ?_
      rw [nI_clamp (by omega), show gA g 66 p = C p from congrFun h.2.2.1 p]
      refine J_iload_n (nx := 34) dX12_isAt_33 rfl rfl ?_
      refine J_icmp_gt (nx := 37) (tgt := 41) dX12_isAt_34 rfl (by decide) (fun c_34 => ?_) (fun c_34 => ?_)
      · refine J_iconst (nx := 42) (i := 0) (v := 0) (by decide) dX12_isAt_41 rfl ?_
        exact Jrz dX12_isAt_42 rfl (by decide) (Nat.zero_le _) (Nat.zero_le _) (RR.i (show bI false = bI (atP n C p lo hi) from congrArg bI (by first | exact (atP_0 (fun z => absurd c_8 (nlt_nI z (by have := h.2.1; omega)))).symm | exact (atP_lo hpn c_21).symm | exact (atP_hi hpn c_21 c_34).symm)) rfl)
      · refine J_iconst (nx := 38) (i := 1) (v := 1) (by decide) dX12_isAt_37 rfl ?_
        refine J_goto (nx := 42) dX12_isAt_38 (by decide) ?_
        exact Jrz dX12_isAt_42 rfl (by decide) (Nat.zero_le _) (Nat.zero_le _) (RR.i (show bI true = bI (atP n C p lo hi) from congrArg bI (by first | exact (atP_t hpn c_21 c_34).symm)) rfl)

set_option maxRecDepth 100000 in
set_option maxHeartbeats 4000000 in
theorem lp_m_blanks (g0 : GS) (n : Nat) (C : Nat → Int32) (n0 : Nat) : ∀ (k : Nat) (p : Nat) (g : GS) (r : Nat), n ≤ p + k → Fr fB aNo g0 g → MPt n C p g → r = rnN n C isB k p → J mX12_blanks (rm 1 0 0) (RXv (fun g2 => Fr fB aNo g0 g2 ∧ MPt n C r g2 ∧ gF g2 63 8 = nI r)) n0 0 [some (.ref 63)] [] (Wd g) 0 0 := by
  intro k
  induction k with
  | zero =>
    intro p g r hk hfr h hr
    refine J_aload_n (nx := 1) dX12_blanks_0 rfl rfl ?_
    refine J_bipush (nx := 3) (i := 32) (v := 32) (by decide) dX12_blanks_1 rfl ?_
    refine J_bipush (nx := 5) (i := 32) (v := 32) (by decide) dX12_blanks_3 rfl ?_
    refine JcV2 (R' := rm (0) 0 0) (nx := 8) dX12_blanks_5 rfl ml_X12_isAt lk_X12_90 iv_X12_isAt rfl rfl ⟨(Nat.le_of_ble_eq_true rfl), (Nat.le_of_ble_eq_true rfl)⟩ (Nat.le_of_ble_eq_true rfl) ⟨rfl, rfl⟩ (ct_m_isAt g n C p h 32 32) ?_
    refine J_if_eq (nx := 11) (tgt := 24) dX12_blanks_8 rfl (by decide) (fun c_8 => ?_) (fun c_8 => ?_)
    · refine J_aload_n (nx := 25) dX12_blanks_24 rfl rfl ?_
      refine J_aload_n (nx := 26) dX12_blanks_25 rfl rfl ?_
      refine Jg_63_6 (nx := 29) dX12_blanks_26 rfl fl_X12_84 ?_
      refine Jp_63_8 (nx := 32) dX12_blanks_29 rfl fl_X12_94 ?_
      refine J.gen (fun g_29 hg_29 => ?_)
      have e : r = p := hr
      exact Jrv dX12_blanks_32 rfl (Nat.zero_le _) (Nat.zero_le _) (RXv.of ⟨by rw [hg_29]; exact Fr.sF hfr rfl, h.mv (by rw [hg_29]; exact Fr.sF Fr.rf rfl) (by rw [hg_29, e]; exact h.2.2.2.1) (by rw [e]; exact h.2.2.2.2), by rw [hg_29, e]; exact h.2.2.2.1⟩)
    · exact absurd (show bI (atP n C p 32 32) = 0 from by rw [atP_B, if_neg (by omega)]; rfl) c_8
  | succ k ih =>
    intro p g r hk hfr h hr
    refine J_aload_n (nx := 1) dX12_blanks_0 rfl rfl ?_
    refine J_bipush (nx := 3) (i := 32) (v := 32) (by decide) dX12_blanks_1 rfl ?_
    refine J_bipush (nx := 5) (i := 32) (v := 32) (by decide) dX12_blanks_3 rfl ?_
    refine JcV2 (R' := rm (0) 0 0) (nx := 8) dX12_blanks_5 rfl ml_X12_isAt lk_X12_90 iv_X12_isAt rfl rfl ⟨(Nat.le_of_ble_eq_true rfl), (Nat.le_of_ble_eq_true rfl)⟩ (Nat.le_of_ble_eq_true rfl) ⟨rfl, rfl⟩ (ct_m_isAt g n C p h 32 32) ?_
    refine J_if_eq (nx := 11) (tgt := 24) dX12_blanks_8 rfl (by decide) (fun c_8 => ?_) (fun c_8 => ?_)
    · refine J_aload_n (nx := 25) dX12_blanks_24 rfl rfl ?_
      refine J_aload_n (nx := 26) dX12_blanks_25 rfl rfl ?_
      refine Jg_63_6 (nx := 29) dX12_blanks_26 rfl fl_X12_84 ?_
      refine Jp_63_8 (nx := 32) dX12_blanks_29 rfl fl_X12_94 ?_
      refine J.gen (fun g_29 hg_29 => ?_)
      have e : r = p := by
        rw [hr]
        show (if p < n then (if isB (C p) = true then rnN n C isB k (p + 1) else p) else p) = p
        rw [atP_B] at c_8
        by_cases hp : p < n
        · rw [if_pos hp] at c_8
          rw [if_pos hp, if_neg (by rw [bI_0.mp c_8]; decide)]
        · rw [if_neg hp]
      exact Jrv dX12_blanks_32 rfl (Nat.zero_le _) (Nat.zero_le _) (RXv.of ⟨by rw [hg_29]; exact Fr.sF hfr rfl, h.mv (by rw [hg_29]; exact Fr.sF Fr.rf rfl) (by rw [hg_29, e]; exact h.2.2.2.1) (by rw [e]; exact h.2.2.2.2), by rw [hg_29, e]; exact h.2.2.2.1⟩)
    · refine J_aload_n (nx := 12) dX12_blanks_11 rfl rfl ?_
      refine J_dup (nx := 13) rfl dX12_blanks_12 rfl ?_
      refine Jg_63_6 (nx := 16) dX12_blanks_13 rfl fl_X12_84 ?_
      refine J_iconst (nx := 17) (i := 1) (v := 1) (by decide) dX12_blanks_16 rfl ?_
      refine J_iadd (nx := 18) dX12_blanks_17 rfl ?_
      refine Jp_63_6 (nx := 21) dX12_blanks_18 rfl fl_X12_84 ?_
      refine J.gen (fun g_18 hg_18 => ?_)
      refine J_goto (nx := 0) dX12_blanks_21 (by decide) ?_
      have hpn : p < n ∧ isB (C p) = true := by
        rw [atP_B] at c_8
        by_cases hp : p < n
        · rw [if_pos hp] at c_8; exact ⟨hp, bI_n0.mp c_8⟩
        · rw [if_neg hp] at c_8; exact absurd rfl c_8
      refine ih (p + 1) g_18 r (by omega) (by rw [hg_18]; exact Fr.sF hfr rfl) (h.mv (by rw [hg_18]; exact Fr.sF Fr.rf rfl) (by rw [hg_18]; exact (congrArg (· + 1) h.2.2.2.1).trans (nI_add p 1)) (by omega)) ?_
      rw [hr]
      show (if p < n then (if isB (C p) = true then rnN n C isB k (p + 1) else p) else p) = _
      rw [if_pos hpn.1, if_pos hpn.2]

theorem ct_m_blanks (g : GS) (n : Nat) (C : Nat → Int32) (p : Nat) (h : MPt n C p g) : Ct mX12_blanks (rm 1 0 0) [.ref 63] (Wd g) (RXv (fun g2 => Fr fB aNo g g2 ∧ MPt n C (sk n C p) g2 ∧ gF g2 63 8 = nI (sk n C p))) := by
  refine Ct.of (by decide +kernel) (Nat.le_of_ble_eq_true rfl) ?_
  have hn4 := h.2.1
  exact lp_m_blanks g n C _ 400 p g (sk n C p) (by omega) Fr.rf h rfl
