
/-! the Model: its tape -/
theorem J_ldcS {M : MI} {R : Room} {Q : Res → List ME → Prop} {n0 pc nx : Nat} {L : List (Option Value)} {rest : List Value} {es : List ME} {k ks : Nat} {j idx : Nat} (d : decode M.2.1 pc = .ok (.ldc idx, 2)) (hn : pc + 2 = nx) (hO : M.1.cls = "WhistleBookModel") (hm : (idx, j) ∈ mStr) (hj : j < 23) (h : J M R Q n0 nx L (.ref (CST + 24 + j) :: rest) es k ks) : J M R Q n0 pc L (rest) es k ks := by
  subst hn
  intro p l e s m args below meth c D cA ad0 A B0 H locs ls ad hC hR
  have hw := h p l e s m args below meth c D cA ad0 A B0 H locs ls ad hC ⟨hR.1, hR.2.1, hR.2.2.1, ws_cons (okV_ref (Or.inr (by omega))) hR.2.2.2.1, hR.2.2.2.2⟩
  have hz := (jKW hC).2.2.2.2.2.1 (idx, j) hm
  rw [← hO] at hz
  dsimp only at hz
  rw [← jRk hR (CST + 24 + j) (by omega)] at hz
  exact va_ldcS hC.1.1 hC.1.2.1 hC.1.2.2.2.2.1 hz d hw
def MPt (n : Nat) (C : Nat → Int32) (p : Nat) (g : GS) : Prop := gF g 63 7 = nI n ∧ n ≤ 400 ∧ gA g 66 = C ∧ gF g 63 6 = nI p ∧ p ≤ n
def atP (n : Nat) (C : Nat → Int32) (p : Nat) (lo hi : Int32) : Bool := if p < n then (if C p < lo then false else if hi < C p then false else true) else false
theorem atP_L {n : Nat} {C : Nat → Int32} {p : Nat} : atP n C p 97 122 = if p < n then isL (C p) else false := rfl
theorem atP_D {n : Nat} {C : Nat → Int32} {p : Nat} : atP n C p 48 57 = if p < n then isD (C p) else false := rfl
theorem atP_1 {n : Nat} {C : Nat → Int32} {p : Nat} {c : Int32} : atP n C p c c = if p < n then (if C p = c then true else false) else false := by
  unfold atP
  by_cases h : p < n
  · rw [if_pos h, if_pos h]
    by_cases e : C p = c
    · rw [if_pos e, e, if_neg (fun z => lt_nle z (Int32.le_iff_toInt_le.mpr (Int.le_refl _))), if_neg (fun z => lt_nle z (Int32.le_iff_toInt_le.mpr (Int.le_refl _)))]
    · rw [if_neg e]
      by_cases h1 : C p < c
      · rw [if_pos h1]
      · rw [if_neg h1]
        by_cases h2 : c < C p
        · rw [if_pos h2]
        · refine absurd (Int32.toInt_inj.mp ?_) e
          have q1 := Int32.le_iff_toInt_le.mp (nlt_le h1)
          have q2 := Int32.le_iff_toInt_le.mp (nlt_le h2)
          omega
  · rw [if_neg h, if_neg h]
theorem atP_B {n : Nat} {C : Nat → Int32} {p : Nat} : atP n C p 32 32 = if p < n then isB (C p) else false := atP_1
def fB (c k : Nat) : Bool := Nat.beq c 63 && (Nat.beq k 6 || Nat.beq k 8)
theorem MPt.mv {n : Nat} {C : Nat → Int32} {p q : Nat} {g g2 : GS} (h : MPt n C p g) (hf : Fr fB aNo g g2) (h6 : gF g2 63 6 = nI q) (hq : q ≤ n) : MPt n C q g2 := ⟨(hf.1 63 7 rfl).trans h.1, h.2.1, (hf.2.1 66 rfl).trans h.2.2.1, h6, hq⟩

theorem atP_0 {n : Nat} {C : Nat → Int32} {p : Nat} {lo hi : Int32} (h : ¬ p < n) : atP n C p lo hi = false := if_neg h
theorem atP_lo {n : Nat} {C : Nat → Int32} {p : Nat} {lo hi : Int32} (h : p < n) (h1 : C p < lo) : atP n C p lo hi = false := (if_pos h).trans (if_pos h1)
theorem atP_hi {n : Nat} {C : Nat → Int32} {p : Nat} {lo hi : Int32} (h : p < n) (h1 : ¬ C p < lo) (h2 : hi < C p) : atP n C p lo hi = false := (if_pos h).trans ((if_neg h1).trans (if_pos h2))
theorem atP_t {n : Nat} {C : Nat → Int32} {p : Nat} {lo hi : Int32} (h : p < n) (h1 : ¬ C p < lo) (h2 : ¬ hi < C p) : atP n C p lo hi = true := (if_pos h).trans ((if_neg h1).trans (if_neg h2))

set_option maxRecDepth 100000 in
set_option maxHeartbeats 4000000 in
theorem ct_m_isAt (g : GS) (n : Nat) (C : Nat → Int32) (p : Nat) (h : MPt n C p g) (lo hi : Int32) : Ct mX12_isAt (rm 0 0 0) [.ref 63, .int lo, .int hi] (Wd g) (RR (.inl (some (.int (bI (atP n C p lo hi))))) g) := by
  refine Ct.of (by decide +kernel) (Nat.le_of_ble_eq_true rfl) ?_
  show J _ _ _ _ 0 [some (.ref 63), some (.int lo), some (.int hi)] [] _ 0 0
  refine J_aload_n (nx := 1) dX12_isAt_0 rfl rfl ?_
  refine Jg_63_6 (nx := 4) dX12_isAt_1 rfl fl_X12_84 ?_
  rw [h.2.2.2.1]
  refine J_aload_n (nx := 5) dX12_isAt_4 rfl rfl ?_
  refine Jg_63_7 (nx := 8) dX12_isAt_5 rfl fl_X12_87 ?_
  rw [h.1]
  refine J_icmp_ge (nx := 11) (tgt := 41) dX12_isAt_8 rfl (by decide) (fun c_8 => ?_) (fun c_8 => ?_)
  · refine J_iconst (nx := 42) (i := 0) (v := 0) (by decide) dX12_isAt_41 rfl ?_
    exact Jrz dX12_isAt_42 rfl (by decide) (Nat.zero_le _) (Nat.zero_le _) (RR.i (show bI false = bI (atP n C p lo hi) from congrArg bI (by first | exact (atP_0 (fun z => absurd c_8 (nlt_nI z (by have := h.2.1; omega)))).symm | exact (atP_lo hpn c_21).symm | exact (atP_hi hpn c_21 c_34).symm)) rfl)
  · have hn4 := h.2.1
    have hp4 := h.2.2.2.2
    have hpn : p < n := by
      rcases Nat.lt_or_ge p n with z | z
      · exact z
      · exact absurd (nI_le_n z (by omega)) c_8
    have hn4 := h.2.1
    refine J_aload_n (nx := 12) dX12_isAt_11 rfl rfl ?_
    refine Jg_63_4 (nx := 15) dX12_isAt_12 rfl fl_X12_20 ?_
    refine J_aload_n (nx := 16) dX12_isAt_15 rfl rfl ?_
    refine Jg_63_6 (nx := 19) dX12_isAt_16 rfl fl_X12_84 ?_
    rw [h.2.2.2.1]
    refine Ja_66 (nx := 20) dX12_isAt_19 rfl (vp_in_nI (by omega) (by decide)) ?_
    rw [nI_clamp (by omega), show gA g 66 p = C p from congrFun h.2.2.1 p]
    refine J_iload_n (nx := 21) dX12_isAt_20 rfl rfl ?_
    refine J_icmp_lt (nx := 24) (tgt := 41) dX12_isAt_21 rfl (by decide) (fun c_21 => ?_) (fun c_21 => ?_)
    · refine J_iconst (nx := 42) (i := 0) (v := 0) (by decide) dX12_isAt_41 rfl ?_
      exact Jrz dX12_isAt_42 rfl (by decide) (Nat.zero_le _) (Nat.zero_le _) (RR.i (show bI false = bI (atP n C p lo hi) from congrArg bI (by first | exact (atP_0 (fun z => absurd c_8 (nlt_nI z (by have := h.2.1; omega)))).symm | exact (atP_lo hpn c_21).symm | exact (atP_hi hpn c_21 c_34).symm)) rfl)
    · refine J_aload_n (nx := 25) dX12_isAt_24 rfl rfl ?_
      refine Jg_63_4 (nx := 28) dX12_isAt_25 rfl fl_X12_20 ?_
      refine J_aload_n (nx := 29) dX12_isAt_28 rfl rfl ?_
      refine Jg_63_6 (nx := 32) dX12_isAt_29 rfl fl_X12_84 ?_
      rw [h.2.2.2.1]
      refine Ja_66 (nx := 33) dX12_isAt_32 rfl (vp_in_nI (by omega) (by decide)) ?_
      rw [nI_clamp (by omega), show gA g 66 p = C p from congrFun h.2.2.1 p]
      refine J_iload_n (nx := 34) dX12_isAt_33 rfl rfl ?_
      refine J_icmp_gt (nx := 37) (tgt := 41) dX12_isAt_34 rfl (by decide) (fun c_34 => ?_) (fun c_34 => ?_)
      · refine J_iconst (nx := 42) (i := 0) (v := 0) (by decide) dX12_isAt_41 rfl ?_
        exact Jrz dX12_isAt_42 rfl (by decide) (Nat.zero_le _) (Nat.zero_le _) (RR.i (show bI false = bI (atP n C p lo hi) from congrArg bI (by first | exact (atP_0 (fun z => absurd c_8 (nlt_nI z (by have := h.2.1; omega)))).symm | exact (atP_lo hpn c_21).symm | exact (atP_hi hpn c_21 c_34).symm)) rfl)
      · refine J_iconst (nx := 38) (i := 1) (v := 1) (by decide) dX12_isAt_37 rfl ?_
        refine J_goto (nx := 42) dX12_isAt_38 (by decide) ?_
        exact Jrz dX12_isAt_42 rfl (by decide) (Nat.zero_le _) (Nat.zero_le _) (RR.i (show bI true = bI (atP n C p lo hi) from congrArg bI (by first | exact (atP_t hpn c_21 c_34).symm)) rfl)

set_option maxRecDepth 100000 in
set_option maxHeartbeats 4000000 in
theorem lp_m_blanks (g0 : GS) (n : Nat) (C : Nat → Int32) (n0 : Nat) : ∀ (k : Nat) (p : Nat) (g : GS) (r : Nat), n ≤ p + k → Fr fB aNo g0 g → MPt n C p g → r = rnN n C isB k p → J mX12_blanks (rm 1 0 0) (RXv (fun g2 => Fr fB aNo g0 g2 ∧ MPt n C r g2 ∧ gF g2 63 8 = nI r)) n0 0 [some (.ref 63)] [] (Wd g) 0 0 := by
  intro k
  induction k with
  | zero =>
    intro p g r hk hfr h hr
    refine J_aload_n (nx := 1) dX12_blanks_0 rfl rfl ?_
    refine J_bipush (nx := 3) (i := 32) (v := 32) (by decide) dX12_blanks_1 rfl ?_
    refine J_bipush (nx := 5) (i := 32) (v := 32) (by decide) dX12_blanks_3 rfl ?_
    refine JcV2 (R' := rm (0) 0 0) (nx := 8) dX12_blanks_5 rfl ml_X12_isAt lk_X12_90 iv_X12_isAt rfl rfl ⟨(Nat.le_of_ble_eq_true rfl), (Nat.le_of_ble_eq_true rfl)⟩ (Nat.le_of_ble_eq_true rfl) ⟨rfl, rfl⟩ (ct_m_isAt g n C p h 32 32) ?_
    refine J_if_eq (nx := 11) (tgt := 24) dX12_blanks_8 rfl (by decide) (fun c_8 => ?_) (fun c_8 => ?_)
    · refine J_aload_n (nx := 25) dX12_blanks_24 rfl rfl ?_
      refine J_aload_n (nx := 26) dX12_blanks_25 rfl rfl ?_
      refine Jg_63_6 (nx := 29) dX12_blanks_26 rfl fl_X12_84 ?_
      refine Jp_63_8 (nx := 32) dX12_blanks_29 rfl fl_X12_94 ?_
      refine J.gen (fun g_29 hg_29 => ?_)
      have e : r = p := hr
      exact Jrv dX12_blanks_32 rfl (Nat.zero_le _) (Nat.zero_le _) (RXv.of ⟨by rw [hg_29]; exact Fr.sF hfr rfl, h.mv (by rw [hg_29]; exact Fr.sF Fr.rf rfl) (by rw [hg_29, e]; exact h.2.2.2.1) (by rw [e]; exact h.2.2.2.2), by rw [hg_29, e]; exact h.2.2.2.1⟩)
    · exact absurd (show bI (atP n C p 32 32) = 0 from by rw [atP_B, if_neg (by omega)]; rfl) c_8
  | succ k ih =>
    intro p g r hk hfr h hr
    refine J_aload_n (nx := 1) dX12_blanks_0 rfl rfl ?_
    refine J_bipush (nx := 3) (i := 32) (v := 32) (by decide) dX12_blanks_1 rfl ?_
    refine J_bipush (nx := 5) (i := 32) (v := 32) (by decide) dX12_blanks_3 rfl ?_
    refine JcV2 (R' := rm (0) 0 0) (nx := 8) dX12_blanks_5 rfl ml_X12_isAt lk_X12_90 iv_X12_isAt rfl rfl ⟨(Nat.le_of_ble_eq_true rfl), (Nat.le_of_ble_eq_true rfl)⟩ (Nat.le_of_ble_eq_true rfl) ⟨rfl, rfl⟩ (ct_m_isAt g n C p h 32 32) ?_
    refine J_if_eq (nx := 11) (tgt := 24) dX12_blanks_8 rfl (by decide) (fun c_8 => ?_) (fun c_8 => ?_)
    · refine J_aload_n (nx := 25) dX12_blanks_24 rfl rfl ?_
      refine J_aload_n (nx := 26) dX12_blanks_25 rfl rfl ?_
      refine Jg_63_6 (nx := 29) dX12_blanks_26 rfl fl_X12_84 ?_
      refine Jp_63_8 (nx := 32) dX12_blanks_29 rfl fl_X12_94 ?_
      refine J.gen (fun g_29 hg_29 => ?_)
      have e : r = p := by
        rw [hr]
        show (if p < n then (if isB (C p) = true then rnN n C isB k (p + 1) else p) else p) = p
        rw [atP_B] at c_8
        by_cases hp : p < n
        · rw [if_pos hp] at c_8
          rw [if_pos hp, if_neg (by rw [bI_0.mp c_8]; decide)]
        · rw [if_neg hp]
      exact Jrv dX12_blanks_32 rfl (Nat.zero_le _) (Nat.zero_le _) (RXv.of ⟨by rw [hg_29]; exact Fr.sF hfr rfl, h.mv (by rw [hg_29]; exact Fr.sF Fr.rf rfl) (by rw [hg_29, e]; exact h.2.2.2.1) (by rw [e]; exact h.2.2.2.2), by rw [hg_29, e]; exact h.2.2.2.1⟩)
    · refine J_aload_n (nx := 12) dX12_blanks_11 rfl rfl ?_
      refine J_dup (nx := 13) rfl dX12_blanks_12 rfl ?_
      refine Jg_63_6 (nx := 16) dX12_blanks_13 rfl fl_X12_84 ?_
      refine J_iconst (nx := 17) (i := 1) (v := 1) (by decide) dX12_blanks_16 rfl ?_
      refine J_iadd (nx := 18) dX12_blanks_17 rfl ?_
      refine Jp_63_6 (nx := 21) dX12_blanks_18 rfl fl_X12_84 ?_
      refine J.gen (fun g_18 hg_18 => ?_)
      refine J_goto (nx := 0) dX12_blanks_21 (by decide) ?_
      have hpn : p < n ∧ isB (C p) = true := by
        rw [atP_B] at c_8
        by_cases hp : p < n
        · rw [if_pos hp] at c_8; exact ⟨hp, bI_n0.mp c_8⟩
        · rw [if_neg hp] at c_8; exact absurd rfl c_8
      refine ih (p + 1) g_18 r (by omega) (by rw [hg_18]; exact Fr.sF hfr rfl) (h.mv (by rw [hg_18]; exact Fr.sF Fr.rf rfl) (by rw [hg_18]; exact (congrArg (· + 1) h.2.2.2.1).trans (nI_add p 1)) (by omega)) ?_
      rw [hr]
      show (if p < n then (if isB (C p) = true then rnN n C isB k (p + 1) else p) else p) = _
      rw [if_pos hpn.1, if_pos hpn.2]

theorem ct_m_blanks (g : GS) (n : Nat) (C : Nat → Int32) (p : Nat) (h : MPt n C p g) : Ct mX12_blanks (rm 1 0 0) [.ref 63] (Wd g) (RXv (fun g2 => Fr fB aNo g g2 ∧ MPt n C (sk n C p) g2 ∧ gF g2 63 8 = nI (sk n C p))) := by
  refine Ct.of (by decide +kernel) (Nat.le_of_ble_eq_true rfl) ?_
  have hn4 := h.2.1
  exact lp_m_blanks g n C _ 400 p g (sk n C p) (by omega) Fr.rf h rfl
def leN (n : Nat) (C : Nat → Int32) (b : Nat) : Nat := rnN n C isL 400 b
def dgN (n : Nat) (C : Nat → Int32) (b : Nat) : Nat := rnN n C isD 400 b
theorem rnN_step {n : Nat} {C : Nat → Int32} {P : Int32 → Bool} {k p : Nat} : rnN n C P (k + 1) p = if p < n then (if P (C p) = true then rnN n C P k (p + 1) else p) else p := rfl
theorem leN_te {n : Nat} {C : Nat → Int32} {b : Nat} (hn : n ≤ 400) (hb : b < n) (hl : isL (C b) = true) : leN n C b = teN n C b := by
  unfold leN teN
  rw [if_pos hl, rnN_step, if_pos hb, if_pos hl]
  exact rnN_fuel n C isL 399 400 (b + 1) (by omega) (by omega) (by omega)
theorem leN_no {n : Nat} {C : Nat → Int32} {b : Nat} (h : ¬ (b < n ∧ isL (C b) = true)) : leN n C b = b := by
  unfold leN
  rw [rnN_step]
  by_cases hb : b < n
  · rw [if_pos hb, if_neg (fun z => h ⟨hb, z⟩)]
  · rw [if_neg hb]
def iwN (C : Nat → Int32) (j b e : Nat) : Bool := if e - b = wLen.getD j 0 then stN C j b (wLen.getD j 0) 0 else false
theorem w_uni : ∀ j, j < 23 → ∀ j', j' < 23 → wLen.getD j 0 = wLen.getD j' 0 → (∀ i, i < 7 → i < wLen.getD j 0 → wCh j i = wCh j' i) → j = j' := by decide +kernel
theorem wLen_pos : ∀ j, j < 23 → 1 ≤ j → 2 ≤ wLen.getD j 0 := by decide +kernel
theorem stN_all {C : Nat → Int32} {j a : Nat} : ∀ (k i : Nat), stN C j a k i = true → ∀ q, i ≤ q → q < i + k → C (a + q) = wCh j q := by
  intro k
  induction k with
  | zero => intro i _ q h1 h2; omega
  | succ k ih =>
    intro i h q h1 h2
    have h3 : (if C (a + i) = wCh j i then stN C j a k (i + 1) else false) = true := h
    by_cases e : C (a + i) = wCh j i
    · rw [if_pos e] at h3
      by_cases hq : q = i
      · rw [hq]; exact e
      · exact ih (i + 1) h3 q (by omega) (by omega)
    · rw [if_neg e] at h3; cases h3
theorem wd_uni {n : Nat} {C : Nat → Int32} {b j j' : Nat} (hj : j < 23) (hj' : j' < 23) (h : wdN n C b j = true) (h' : wdN n C b j' = true) : j = j' := by
  unfold wdN at h h'
  by_cases e : teN n C b - b = wLen.getD j 0
  · rw [if_pos e] at h
    by_cases e' : teN n C b - b = wLen.getD j' 0
    · rw [if_pos e'] at h'
      refine w_uni j hj j' hj' (e.symm.trans e') (fun i _ hi => ?_)
      rw [← stN_all _ 0 h i (by omega) (by omega), stN_all _ 0 h' i (by omega) (by omega)]
    · rw [if_neg e'] at h'; cases h'
  · rw [if_neg e] at h; cases h
theorem fwN_spec {n : Nat} {C : Nat → Int32} {b : Nat} : ∀ (k j0 : Nat), (wdN n C b (fwN n C b k j0) = true ∨ fwN n C b k j0 = 0) ∧ ∀ j, j0 ≤ j → j < j0 + k → j0 + k ≤ 23 → wdN n C b j = true → fwN n C b k j0 = j := by
  intro k
  induction k with
  | zero => intro j0; exact ⟨Or.inr rfl, fun j h1 h2 => by omega⟩
  | succ k ih =>
    intro j0
    have e : fwN n C b (k + 1) j0 = if wdN n C b j0 = true then j0 else fwN n C b k (j0 + 1) := rfl
    by_cases h : wdN n C b j0 = true
    · rw [e, if_pos h]
      exact ⟨Or.inl h, fun j h1 h2 h3 hj => wd_uni (by omega) (by omega) h hj⟩
    · rw [e, if_neg h]
      refine ⟨(ih (j0 + 1)).1, fun j h1 h2 h3 hj => ?_⟩
      have : j ≠ j0 := fun z => h (by rw [← z]; exact hj)
      exact (ih (j0 + 1)).2 j (by omega) (by omega) (by omega) hj
theorem iw_wrd {n : Nat} {C : Nat → Int32} {b j : Nat} (hn : n ≤ 400) (hj : j < 23) (hj1 : 1 ≤ j) : iwN C j b (leN n C b) = decide (obWrd n C b = j) := by
  by_cases h : b < n ∧ isL (C b) = true
  · have e : obWrd n C b = fwN n C b 23 0 := if_pos h
    have hs := fwN_spec (n := n) (C := C) (b := b) 23 0
    have ew : iwN C j b (leN n C b) = wdN n C b j := by rw [leN_te hn h.1 h.2]; rfl
    rw [ew, e]
    cases hw : wdN n C b j with
    | true => rw [decide_eq_true (hs.2 j (by omega) (by omega) (by omega) hw)]
    | false =>
      symm
      refine decide_eq_false (fun z => ?_)
      rcases hs.1 with h1 | h1
      · rw [z, hw] at h1; cases h1
      · omega
  · have e : obWrd n C b = 0 := if_neg h
    have h2 := wLen_pos j hj hj1
    rw [leN_no h, e]
    unfold iwN
    rw [if_neg (by omega)]
    symm
    exact decide_eq_false (by omega)
def f6 (c k : Nat) : Bool := Nat.beq c 63 && Nat.beq k 6
theorem f6_B (c k : Nat) (h : fB c k = false) : f6 c k = false := by unfold fB at h; unfold f6; revert h; cases Nat.beq c 63 <;> cases Nat.beq k 6 <;> simp
theorem MPt.mv6 {n : Nat} {C : Nat → Int32} {p q : Nat} {g g2 : GS} (h : MPt n C p g) (hf : Fr f6 aNo g g2) (h6 : gF g2 63 6 = nI q) (hq : q ≤ n) : MPt n C q g2 := h.mv (hf.mono f6_B (fun _ h => h)) h6 hq
set_option maxRecDepth 100000 in
set_option maxHeartbeats 4000000 in
theorem lp_m_letters (g0 : GS) (n : Nat) (C : Nat → Int32) (n0 : Nat) : ∀ (k : Nat) (p : Nat) (g : GS) (r : Nat), n ≤ p + k → Fr f6 aNo g0 g → MPt n C p g → r = rnN n C isL k p → J mX12_letters (rm 2 0 0) (RXv (fun g2 => Fr f6 aNo g0 g2 ∧ MPt n C r g2)) n0 4 [some (.ref 63)] [] (Wd g) 0 0 := by
  intro k
  induction k with
  | zero =>
    intro p g r hk hfr h hr
    refine J_aload_n (nx := 5) dX12_letters_4 rfl rfl ?_
    refine J_bipush (nx := 7) (i := 97) (v := 97) (by decide) dX12_letters_5 rfl ?_
    refine J_bipush (nx := 9) (i := 122) (v := 122) (by decide) dX12_letters_7 rfl ?_
    refine JcV2 (R' := rm (0) 0 0) (nx := 12) dX12_letters_9 rfl ml_X12_isAt lk_X12_90 iv_X12_isAt rfl rfl ⟨(Nat.le_of_ble_eq_true rfl), (Nat.le_of_ble_eq_true rfl)⟩ (Nat.le_of_ble_eq_true rfl) ⟨rfl, rfl⟩ (ct_m_isAt g n C p h 97 122) ?_
    refine J_if_eq (nx := 15) (tgt := 28) dX12_letters_12 rfl (by decide) (fun c_12 => ?_) (fun c_12 => ?_)
    · have e : r = p := hr
      exact Jrv dX12_letters_28 rfl (Nat.zero_le _) (Nat.zero_le _) (RXv.of ⟨hfr, by rw [e]; exact h⟩)
    · exact absurd (show bI (atP n C p 97 122) = 0 from by rw [atP_L, if_neg (by omega)]; rfl) c_12
  | succ k ih =>
    intro p g r hk hfr h hr
    refine J_aload_n (nx := 5) dX12_letters_4 rfl rfl ?_
    refine J_bipush (nx := 7) (i := 97) (v := 97) (by decide) dX12_letters_5 rfl ?_
    refine J_bipush (nx := 9) (i := 122) (v := 122) (by decide) dX12_letters_7 rfl ?_
    refine JcV2 (R' := rm (0) 0 0) (nx := 12) dX12_letters_9 rfl ml_X12_isAt lk_X12_90 iv_X12_isAt rfl rfl ⟨(Nat.le_of_ble_eq_true rfl), (Nat.le_of_ble_eq_true rfl)⟩ (Nat.le_of_ble_eq_true rfl) ⟨rfl, rfl⟩ (ct_m_isAt g n C p h 97 122) ?_
    refine J_if_eq (nx := 15) (tgt := 28) dX12_letters_12 rfl (by decide) (fun c_12 => ?_) (fun c_12 => ?_)
    · have e : r = p := by
        rw [hr, rnN_step]
        rw [atP_L] at c_12
        by_cases hp : p < n
        · rw [if_pos hp] at c_12
          rw [if_pos hp, if_neg (by rw [bI_0.mp c_12]; decide)]
        · rw [if_neg hp]
      exact Jrv dX12_letters_28 rfl (Nat.zero_le _) (Nat.zero_le _) (RXv.of ⟨hfr, by rw [e]; exact h⟩)
    · refine J_aload_n (nx := 16) dX12_letters_15 rfl rfl ?_
      refine J_dup (nx := 17) rfl dX12_letters_16 rfl ?_
      refine Jg_63_6 (nx := 20) dX12_letters_17 rfl fl_X12_84 ?_
      refine J_iconst (nx := 21) (i := 1) (v := 1) (by decide) dX12_letters_20 rfl ?_
      refine J_iadd (nx := 22) dX12_letters_21 rfl ?_
      refine Jp_63_6 (nx := 25) dX12_letters_22 rfl fl_X12_84 ?_
      refine J.gen (fun g_22 hg_22 => ?_)
      refine J_goto (nx := 4) dX12_letters_25 (by decide) ?_
      have hpn : p < n ∧ isL (C p) = true := by
        rw [atP_L] at c_12
        by_cases hp : p < n
        · rw [if_pos hp] at c_12; exact ⟨hp, bI_n0.mp c_12⟩
        · rw [if_neg hp] at c_12; exact absurd rfl c_12
      refine ih (p + 1) g_22 r (by omega) (by rw [hg_22]; exact Fr.sF hfr rfl) (h.mv (by rw [hg_22]; exact Fr.sF Fr.rf rfl) (by rw [hg_22]; exact (congrArg (· + 1) h.2.2.2.1).trans (nI_add p 1)) (by omega)) ?_
      rw [hr, rnN_step, if_pos hpn.1, if_pos hpn.2]

set_option maxRecDepth 100000 in
set_option maxHeartbeats 4000000 in
theorem ct_m_letters (g : GS) (n : Nat) (C : Nat → Int32) (p : Nat) (h : MPt n C p g) : Ct mX12_letters (rm 2 0 0) [.ref 63] (Wd g) (RXv (fun g2 => Fr fB aNo g g2 ∧ MPt n C (leN n C (sk n C p)) g2 ∧ gF g2 63 8 = nI (sk n C p))) := by
  refine Ct.of (by decide +kernel) (Nat.le_of_ble_eq_true rfl) ?_
  show J _ _ _ _ 0 [some (.ref 63)] [] _ 0 0
  refine J_aload_n (nx := 1) dX12_letters_0 rfl rfl ?_
  refine JvV0 (R' := rm (1) 0 0) (nx := 4) dX12_letters_1 rfl ml_X12_blanks lk_X12_97 iv_X12_blanks rfl rfl ⟨(Nat.le_of_ble_eq_true rfl), (Nat.le_of_ble_eq_true rfl)⟩ (Nat.le_of_ble_eq_true rfl) ⟨rfl, rfl⟩ (ct_m_blanks g n C p h) (fun g_1 p_1 => ?_)
  have hn4 := h.2.1
  refine J.post (lp_m_letters g_1 n C _ 400 (sk n C p) g_1 (leN n C (sk n C p)) (by omega) Fr.rf p_1.2.1 rfl) (fun r es q => ?_)
  obtain ⟨g2, hr, he, hf, hm⟩ := q
  exact ⟨g2, hr, he, p_1.1.tr (hf.mono f6_B (fun _ h => h)), hm, (hf.1 63 8 rfl).trans p_1.2.2⟩

set_option maxRecDepth 100000 in
set_option maxHeartbeats 4000000 in
theorem lp_m_isWord (g : GS) (n : Nat) (C : Nat → Int32) (e b j : Nat) (h : MPt n C e g) (hb : gF g 63 8 = nI b) (hbe : b ≤ e) (hj : j < 23) (hl : e - b = wLen.getD j 0) (n0 : Nat) : ∀ (k : Nat) (i : Nat) (r : Bool), i + k = wLen.getD j 0 → r = stN C j b k i → J mX12_isWord (rm 4 0 0) (RR (.inl (some (.int (bI r)))) g) n0 24 [some (.ref 63), some (.ref (CST + 24 + j)), some (.int 1), some (.int (nI (i)))] [] (Wd g) 0 0 := by
  intro k
  induction k with
  | zero =>
    intro i r hk hr
    refine J_iload_n (nx := 25) dX12_isWord_24 rfl rfl ?_
    refine J_if_eq (nx := 28) (tgt := 67) dX12_isWord_25 rfl (by decide) (fun c_25 => ?_) (fun c_25 => ?_)
    · exact absurd c_25 (by decide)
    · refine J_iload_n (nx := 29) dX12_isWord_28 rfl rfl ?_
      refine J_aload_n (nx := 30) dX12_isWord_29 rfl rfl ?_
      refine JkVb0 (R' := rm (1) 0 0) (nx := 33) dX12_isWord_30 rfl ml_J0_length_8abf5 lk_X12_100 iv_J0_length_8abf5 (kw_S (j := j) hj) ⟨(Nat.le_of_ble_eq_true rfl), (Nat.le_of_ble_eq_true rfl)⟩ (Nat.le_of_ble_eq_true rfl) ⟨rfl, rfl⟩ (ct_strlen _ j hj) ?_
      refine J_icmp_ge (nx := 36) (tgt := 67) dX12_isWord_33 rfl (by decide) (fun c_33 => ?_) (fun c_33 => ?_)
      · refine J_iload_n (nx := 68) dX12_isWord_67 rfl rfl ?_
        exact Jrz dX12_isWord_68 rfl (by decide) (Nat.zero_le _) (Nat.zero_le _) ⟨by rw [hr]; rfl, rfl⟩
      · exact absurd (show nI (wLen.getD j 0) ≤ nI i from by rw [show i = wLen.getD j 0 by omega]; exact le_self_nI) c_33
  | succ k ih =>
    intro i r hk hr
    refine J_iload_n (nx := 25) dX12_isWord_24 rfl rfl ?_
    refine J_if_eq (nx := 28) (tgt := 67) dX12_isWord_25 rfl (by decide) (fun c_25 => ?_) (fun c_25 => ?_)
    · exact absurd c_25 (by decide)
    · refine J_iload_n (nx := 29) dX12_isWord_28 rfl rfl ?_
      refine J_aload_n (nx := 30) dX12_isWord_29 rfl rfl ?_
      refine JkVb0 (R' := rm (1) 0 0) (nx := 33) dX12_isWord_30 rfl ml_J0_length_8abf5 lk_X12_100 iv_J0_length_8abf5 (kw_S (j := j) hj) ⟨(Nat.le_of_ble_eq_true rfl), (Nat.le_of_ble_eq_true rfl)⟩ (Nat.le_of_ble_eq_true rfl) ⟨rfl, rfl⟩ (ct_strlen _ j hj) ?_
      refine J_icmp_ge (nx := 36) (tgt := 67) dX12_isWord_33 rfl (by decide) (fun c_33 => ?_) (fun c_33 => ?_)
      · exact absurd c_33 (nlt_nI (n := wLen.getD j 0) (by omega) (by have := wLen_lt j hj; omega))
      · have hi : i < wLen.getD j 0 := by omega
        have hw := wLen_lt j hj
        have hn4 := h.2.1
        have he4 := h.2.2.2.2
        refine J_aload_n (nx := 37) dX12_isWord_36 rfl rfl ?_
        refine Jg_63_4 (nx := 40) dX12_isWord_37 rfl fl_X12_20 ?_
        refine J_aload_n (nx := 41) dX12_isWord_40 rfl rfl ?_
        refine Jg_63_8 (nx := 44) dX12_isWord_41 rfl fl_X12_94 ?_
        rw [hb]
        refine J_iload_n (nx := 45) dX12_isWord_44 rfl rfl ?_
        refine J_iadd (nx := 46) dX12_isWord_45 rfl ?_
        refine Ja_66 (nx := 47) dX12_isWord_46 rfl (vpE (n := (b + i)) (nIa (Eq.refl (nI (b))) (Eq.refl (nI (i)))) (by omega) (by decide)) ?_
        rw [clE (n := (b + i)) (nIa (Eq.refl (nI (b))) (Eq.refl (nI (i)))) (by omega)]
        rw [show gA g 66 (b + i) = C (b + i) from congrFun h.2.2.1 _]
        refine J_aload_n (nx := 48) dX12_isWord_47 rfl rfl ?_
        refine J_iload_n (nx := 49) dX12_isWord_48 rfl rfl ?_
        refine JkVb1 (R' := rm (3) 0 0) (nx := 52) dX12_isWord_49 rfl ml_J0_charAt_5068e lk_X12_106 iv_J0_charAt_5068e (kw_S (j := j) hj) ⟨(Nat.le_of_ble_eq_true rfl), (Nat.le_of_ble_eq_true rfl)⟩ (Nat.le_of_ble_eq_true rfl) ⟨rfl, rfl⟩ (ct_charAt _ i j hj hi) ?_
        refine J_icmp_ne (nx := 55) (tgt := 59) dX12_isWord_52 rfl (by decide) (fun c_52 => ?_) (fun c_52 => ?_)
        · refine J_iconst (nx := 60) (i := 0) (v := 0) (by decide) dX12_isWord_59 rfl ?_
          refine J_istore_n (nx := 61) dX12_isWord_60 rfl rfl (Nat.le_of_ble_eq_true rfl) ?_
          refine J_iinc (nx := 64) dX12_isWord_61 rfl rfl rfl (Nat.le_of_ble_eq_true rfl) ?_
          refine J_goto (nx := 24) dX12_isWord_64 (by decide) ?_
          refine J_iload_n (nx := 25) dX12_isWord_24 rfl rfl ?_
          refine J_if_eq (nx := 28) (tgt := 67) dX12_isWord_25 rfl (by decide) (fun c_25 => ?_) (fun c_25 => ?_)
          · refine J_iload_n (nx := 68) dX12_isWord_67 rfl rfl ?_
            exact Jrz dX12_isWord_68 rfl (by decide) (Nat.zero_le _) (Nat.zero_le _) ⟨by rw [hr.trans (if_neg c_52)]; rfl, rfl⟩
          · exact absurd c_25 (by decide)
        · refine J_iconst (nx := 56) (i := 1) (v := 1) (by decide) dX12_isWord_55 rfl ?_
          refine J_goto (nx := 60) dX12_isWord_56 (by decide) ?_
          refine J_istore_n (nx := 61) dX12_isWord_60 rfl rfl (Nat.le_of_ble_eq_true rfl) ?_
          refine J_iinc (nx := 64) dX12_isWord_61 rfl rfl rfl (Nat.le_of_ble_eq_true rfl) ?_
          refine J_goto (nx := 24) dX12_isWord_64 (by decide) ?_
          rw [show (nI (i) + Int32.ofInt 1) = nI (i + 1) from (show nI (i) + Int32.ofInt 1 = nI (i + 1) from nI_add (i) 1)]
          exact ih (i + 1) r (by omega) (hr.trans (if_pos c_52))

set_option maxRecDepth 100000 in
set_option maxHeartbeats 4000000 in
theorem ct_m_isWord (g : GS) (n : Nat) (C : Nat → Int32) (e b j : Nat) (h : MPt n C e g) (hb : gF g 63 8 = nI b) (hbe : b ≤ e) (hj : j < 23) : Ct mX12_isWord (rm 4 0 0) [.ref 63, .ref (CST + 24 + j)] (Wd g) (RR (.inl (some (.int (bI (iwN C j b e))))) g) := by
  refine Ct.of (by decide +kernel) (Nat.le_of_ble_eq_true rfl) ?_
  show J _ _ _ _ 0 [some (.ref 63), some (.ref (CST + 24 + j)), none, none] [] _ 0 0
  refine J_aload_n (nx := 1) dX12_isWord_0 rfl rfl ?_
  refine Jg_63_6 (nx := 4) dX12_isWord_1 rfl fl_X12_84 ?_
  have hn4 := h.2.1
  have he4 := h.2.2.2.2
  rw [h.2.2.2.1]
  refine J_aload_n (nx := 5) dX12_isWord_4 rfl rfl ?_
  refine Jg_63_8 (nx := 8) dX12_isWord_5 rfl fl_X12_94 ?_
  rw [hb]
  refine J_isub (nx := 9) dX12_isWord_8 rfl ?_
  rw [show (nI (e) - nI (b)) = nI ((e - b)) from (nIs (by omega) (Eq.refl (nI (e))) (Eq.refl (nI (b))))]
  refine J_aload_n (nx := 10) dX12_isWord_9 rfl rfl ?_
  refine JkVb0 (R' := rm (1) 0 0) (nx := 13) dX12_isWord_10 rfl ml_J0_length_8abf5 lk_X12_100 iv_J0_length_8abf5 (kw_S (j := j) hj) ⟨(Nat.le_of_ble_eq_true rfl), (Nat.le_of_ble_eq_true rfl)⟩ (Nat.le_of_ble_eq_true rfl) ⟨rfl, rfl⟩ (ct_strlen _ j hj) ?_
  refine J_icmp_ne (nx := 16) (tgt := 20) dX12_isWord_13 rfl (by decide) (fun c_13 => ?_) (fun c_13 => ?_)
  · refine J_iconst (nx := 21) (i := 0) (v := 0) (by decide) dX12_isWord_20 rfl ?_
    refine J_istore_n (nx := 22) dX12_isWord_21 rfl rfl (Nat.le_of_ble_eq_true rfl) ?_
    refine J_iconst (nx := 23) (i := 0) (v := 0) (by decide) dX12_isWord_22 rfl ?_
    refine J_istore_n (nx := 24) dX12_isWord_23 rfl rfl (Nat.le_of_ble_eq_true rfl) ?_
    refine J_iload_n (nx := 25) dX12_isWord_24 rfl rfl ?_
    refine J_if_eq (nx := 28) (tgt := 67) dX12_isWord_25 rfl (by decide) (fun c_25 => ?_) (fun c_25 => ?_)
    · refine J_iload_n (nx := 68) dX12_isWord_67 rfl rfl ?_
      exact Jrz dX12_isWord_68 rfl (by decide) (Nat.zero_le _) (Nat.zero_le _) (RR.i (show bI false = bI (iwN C j b e) from congrArg bI (if_neg (fun z => c_13 (by rw [z]))).symm) rfl)
    · exact absurd c_25 (by decide)
  · refine J_iconst (nx := 17) (i := 1) (v := 1) (by decide) dX12_isWord_16 rfl ?_
    refine J_goto (nx := 21) dX12_isWord_17 (by decide) ?_
    refine J_istore_n (nx := 22) dX12_isWord_21 rfl rfl (Nat.le_of_ble_eq_true rfl) ?_
    refine J_iconst (nx := 23) (i := 0) (v := 0) (by decide) dX12_isWord_22 rfl ?_
    refine J_istore_n (nx := 24) dX12_isWord_23 rfl rfl (Nat.le_of_ble_eq_true rfl) ?_
    have hl : e - b = wLen.getD j 0 := nI_inj (by omega) (by have := wLen_lt j hj; omega) c_13
    exact lp_m_isWord g n C e b j h hb hbe hj hl _ (wLen.getD j 0) 0 _ (by omega) (if_pos hl)

