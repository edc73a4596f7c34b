
theorem bI0 {b : Bool} : bI b = 0 ↔ b = false := by cases b <;> decide
theorem bI1 {b : Bool} : ¬ bI b = 0 ↔ b = true := by cases b <;> decide
/-- the deed of a RULE: lines from l on, k of them left -/
def cdD (cd : CD) (F : Nat → Int32) : Nat → Nat → (Nat → Int32) → Int32 × (Nat → Int32)
  | 0, _, S => (2, S)
  | k + 1, l, S => bif cdH cd F S (nI l) then (cd_hd cd (4 * nI l), cdS cd F S (nI l)) else cdD cd F k (l + 1) (cdS cd F S (nI l))
/-- the sum of GOALS -/
def cdT (cd : CD) (F : Nat → Int32) : Nat → Nat → Int32 → (Nat → Int32) → Int32 × (Nat → Int32)
  | 0, _, a, S => (a, S)
  | k + 1, l, a, S => cdT cd F k (l + 1) (bif cdH cd F S (nI l) then a + cd_hd cd (4 * nI l) * (if ¬ cd_hd cd (4 * nI l + 1) = -1 then rAt 8 F (cd_hd cd (4 * nI l + 1)) else 1) else a) (cdS cd F S (nI l))
theorem cdT_n {cd : CD} {F S : Nat → Int32} {k l : Nat} {a : Int32} (h : cdH cd F S (nI l) = false) : cdT cd F (k + 1) l a S = cdT cd F k (l + 1) a (cdS cd F S (nI l)) := by
  show cdT cd F k (l + 1) (bif cdH cd F S (nI l) then _ else a) _ = _
  rw [h]; rfl
theorem cdT_1 {cd : CD} {F S : Nat → Int32} {k l : Nat} {a : Int32} (h : cdH cd F S (nI l) = true) (h2 : cd_hd cd (4 * nI l + 1) = -1) : cdT cd F (k + 1) l a S = cdT cd F k (l + 1) (a + cd_hd cd (4 * nI l) * 1) (cdS cd F S (nI l)) := by
  show cdT cd F k (l + 1) (bif cdH cd F S (nI l) then a + cd_hd cd (4 * nI l) * (if ¬ cd_hd cd (4 * nI l + 1) = -1 then _ else 1) else a) _ = _
  rw [h, if_neg (fun z => z h2)]; rfl
theorem cdT_f {cd : CD} {F S : Nat → Int32} {k l : Nat} {a : Int32} (h : cdH cd F S (nI l) = true) (h2 : ¬ cd_hd cd (4 * nI l + 1) = -1) : cdT cd F (k + 1) l a S = cdT cd F k (l + 1) (a + cd_hd cd (4 * nI l) * rAt 8 F (cd_hd cd (4 * nI l + 1))) (cdS cd F S (nI l)) := by
  show cdT cd F k (l + 1) (bif cdH cd F S (nI l) then a + cd_hd cd (4 * nI l) * (if ¬ cd_hd cd (4 * nI l + 1) = -1 then _ else 1) else a) _ = _
  rw [h, if_pos h2]; rfl
theorem cdD_n {cd : CD} {F S : Nat → Int32} {k l : Nat} (h : cdH cd F S (nI l) = false) : cdD cd F (k + 1) l S = cdD cd F k (l + 1) (cdS cd F S (nI l)) := by
  show (bif cdH cd F S (nI l) then _ else cdD cd F k (l + 1) (cdS cd F S (nI l)) : Int32 × (Nat → Int32)) = _
  rw [h]; rfl
theorem cdD_y {cd : CD} {F S : Nat → Int32} {k l : Nat} (h : cdH cd F S (nI l) = true) : cdD cd F (k + 1) l S = (cd_hd cd (4 * nI l), cdS cd F S (nI l)) := by
  show (bif cdH cd F S (nI l) then (cd_hd cd (4 * nI l), cdS cd F S (nI l)) else _ : Int32 × (Nat → Int32)) = _
  rw [h]; rfl
theorem nlt_nI {l n : Nat} (h : l < n) (hn : n < 2 ^ 31) : ¬ nI n ≤ nI l := nI_ge h hn
theorem le_self_nI {l : Nat} : nI l ≤ nI l := by rw [Int32.le_iff_toInt_le]; omega

set_option maxRecDepth 100000 in
set_option maxHeartbeats 4000000 in
theorem lp_X2_deed (c : Nat) (cd : CD) (n0 : Nat) : ∀ (k : Nat) (l : Nat) (g : GS) (r : Int32) (g2 : GS), CodeT (gT g) c cd → l + k = cd.1 → r = (cdD cd (gA g 48) k l (gA g 49)).1 → g2 = sA g 49 (cdD cd (gA g 48) k l (gA g 49)).2 → J mX2_deed (rm 2 0 0) (RR (.inl (some (.int r))) g2) n0 2 [some (.ref c), some (.ref 48), some (.ref 49), some (.int (nI l))] [] (Wd g) 0 0 := by
  intro k
  induction k with
  | zero =>
    intro l g r g2 hc hl hr hg
    refine J_iload_n (nx := 3) dX2_deed_2 rfl rfl ?_
    refine J_aload_n (nx := 4) dX2_deed_3 rfl rfl ?_
    refine J_get (nx := 7) dX2_deed_4 rfl fl_X2_9 (hc.oo rfl) rfl ?_
    refine J_icmp_ge (nx := 10) (tgt := 37) dX2_deed_7 rfl (by decide) (fun c_7 => ?_) (fun c_7 => ?_)
    · refine J_iconst (nx := 38) (i := 2) (v := 2) (by decide) dX2_deed_37 rfl ?_
      exact Jri dX2_deed_38 rfl (Nat.zero_le _) (Nat.zero_le _) ⟨by rw [hr]; rfl, by rw [hg]; show Wd g = Wd (sA g 49 (gA g 49)); rw [sA_self]⟩
    · exact absurd (show nI cd.1 ≤ nI l from by rw [show l = cd.1 by omega]; exact le_self_nI) c_7
  | succ k ih =>
    intro l g r g2 hc hl hr hg
    refine J_iload_n (nx := 3) dX2_deed_2 rfl rfl ?_
    refine J_aload_n (nx := 4) dX2_deed_3 rfl rfl ?_
    refine J_get (nx := 7) dX2_deed_4 rfl fl_X2_9 (hc.oo rfl) rfl ?_
    refine J_icmp_ge (nx := 10) (tgt := 37) dX2_deed_7 rfl (by decide) (fun c_7 => ?_) (fun c_7 => ?_)
    · exact absurd c_7 (nlt_nI (by omega) hc.2.2.2.2.1)
    · refine J_aload_n (nx := 11) dX2_deed_10 rfl rfl ?_
      refine J_iload_n (nx := 12) dX2_deed_11 rfl rfl ?_
      refine J_aload_n (nx := 13) dX2_deed_12 rfl rfl ?_
      refine J_aload_n (nx := 14) dX2_deed_13 rfl rfl ?_
      refine JcV3 (R' := rm 1 0 0) (nx := 17) dX2_deed_14 rfl ml_X2_holds lk_X2_34 iv_X2_holds rfl (hc.oo rfl) ⟨(Nat.le_of_ble_eq_true rfl), (Nat.le_of_ble_eq_true rfl)⟩ (Nat.le_of_ble_eq_true rfl) ⟨rfl, rfl⟩ (ct_X2_holds _ c cd _ hc) ?_
      refine J_if_eq (nx := 20) (tgt := 31) dX2_deed_17 rfl (by decide) (fun c_17 => ?_) (fun c_17 => ?_)
      · refine J_iinc (nx := 34) dX2_deed_31 rfl rfl rfl (Nat.le_of_ble_eq_true rfl) ?_
        refine J_goto (nx := 2) dX2_deed_34 (by decide) ?_
        show J _ _ _ _ 2 [some (.ref c), some (.ref 48), some (.ref 49), some (.int (nI l + Int32.ofInt 1))] [] _ 0 0
        rw [nI_s l]
        rw [cdD_n (bI0.mp c_17)] at hr hg
        exact ih (l + 1) _ r g2 hc (by omega) (by rw [hr, gA_sA]; rfl) (by rw [hg, sA_sA, gA_sA]; rfl)
      · rw [cdD_y (bI1.mp c_17)] at hr hg
        refine J_aload_n (nx := 21) dX2_deed_20 rfl rfl ?_
        refine J_get (nx := 24) dX2_deed_21 rfl fl_X2_21 (hc.oo rfl) rfl ?_
        refine J_iconst (nx := 25) (i := 4) (v := 4) (by decide) dX2_deed_24 rfl ?_
        refine J_iload_n (nx := 26) dX2_deed_25 rfl rfl ?_
        refine J_imul (nx := 27) dX2_deed_26 rfl ?_
        refine JcS2 (R' := rm 0 0 0) (nx := 30) dX2_deed_27 rfl ml_X6_at lk_X2_38 st_X6_at ⟨(Nat.le_of_ble_eq_true rfl), (Nat.le_of_ble_eq_true rfl)⟩ (Nat.le_of_ble_eq_true rfl) ⟨rfl, rfl⟩ (ct_at _ (c + 1) _ _ _ (hc.hh rfl) hc.2.2.2.2.2.1) ?_
        exact Jri dX2_deed_30 rfl (Nat.zero_le _) (Nat.zero_le _) ⟨by rw [hr]; rfl, by rw [hg]⟩

set_option maxRecDepth 100000 in
set_option maxHeartbeats 4000000 in
theorem ct_X2_deed (g : GS) (c : Nat) (cd : CD) (hc : CodeT (gT g) c cd) : Ct mX2_deed (rm 2 0 0) [.ref c, .ref 48, .ref 49] (Wd g) (RR (.inl (some (.int (cdD cd (gA g 48) cd.1 0 (gA g 49)).1))) (sA g 49 (cdD cd (gA g 48) cd.1 0 (gA g 49)).2)) := by
  refine Ct.of (by decide +kernel) (Nat.le_of_ble_eq_true rfl) ?_
  show J _ _ _ _ 0 [some (.ref c), some (.ref 48), some (.ref 49), none] [] _ 0 0
  refine J_iconst (nx := 1) (i := 0) (v := 0) (by decide) dX2_deed_0 rfl ?_
  refine J_istore_n (nx := 2) dX2_deed_1 rfl rfl (Nat.le_of_ble_eq_true rfl) ?_
  exact lp_X2_deed c cd _ cd.1 0 g _ _ hc (by omega) rfl rfl

set_option maxRecDepth 100000 in
set_option maxHeartbeats 4000000 in
theorem lp_X2_total (c : Nat) (cd : CD) (n0 : Nat) : ∀ (k : Nat) (l : Nat) (a : Int32) (g : GS) (r : Int32) (g2 : GS) (j5 : Option Value), CodeT (gT g) c cd → l + k = cd.1 → r = (cdT cd (gA g 48) k l a (gA g 49)).1 → g2 = sA g 49 (cdT cd (gA g 48) k l a (gA g 49)).2 → J mX2_total (rm 2 0 0) (RR (.inl (some (.int r))) g2) n0 5 [some (.ref c), some (.ref 48), some (.ref 49), some (.int a), some (.int (nI l)), j5] [] (Wd g) 0 0 := by
  intro k
  induction k with
  | zero =>
    intro l a g r g2 j5 hc hl hr hg
    refine J_iload (nx := 7) dX2_total_5 rfl rfl ?_
    refine J_aload_n (nx := 8) dX2_total_7 rfl rfl ?_
    refine J_get (nx := 11) dX2_total_8 rfl fl_X2_9 (hc.oo rfl) rfl ?_
    refine J_icmp_ge (nx := 14) (tgt := 77) dX2_total_11 rfl (by decide) (fun c_11 => ?_) (fun c_11 => ?_)
    · refine J_iload_n (nx := 78) dX2_total_77 rfl rfl ?_
      exact Jri dX2_total_78 rfl (Nat.zero_le _) (Nat.zero_le _) ⟨by rw [hr]; rfl, by rw [hg]; show Wd g = Wd (sA g 49 (gA g 49)); rw [sA_self]⟩
    · exact absurd (show nI cd.1 ≤ nI l from by rw [show l = cd.1 by omega]; exact le_self_nI) c_11
  | succ k ih =>
    intro l a g r g2 j5 hc hl hr hg
    refine J_iload (nx := 7) dX2_total_5 rfl rfl ?_
    refine J_aload_n (nx := 8) dX2_total_7 rfl rfl ?_
    refine J_get (nx := 11) dX2_total_8 rfl fl_X2_9 (hc.oo rfl) rfl ?_
    refine J_icmp_ge (nx := 14) (tgt := 77) dX2_total_11 rfl (by decide) (fun c_11 => ?_) (fun c_11 => ?_)
    · exact absurd c_11 (nlt_nI (by omega) hc.2.2.2.2.1)
    · refine J_aload_n (nx := 15) dX2_total_14 rfl rfl ?_
      refine J_iload (nx := 17) dX2_total_15 rfl rfl ?_
      refine J_aload_n (nx := 18) dX2_total_17 rfl rfl ?_
      refine J_aload_n (nx := 19) dX2_total_18 rfl rfl ?_
      refine JcV3 (R' := rm 1 0 0) (nx := 22) dX2_total_19 rfl ml_X2_holds lk_X2_34 iv_X2_holds rfl (hc.oo rfl) ⟨(Nat.le_of_ble_eq_true rfl), (Nat.le_of_ble_eq_true rfl)⟩ (Nat.le_of_ble_eq_true rfl) ⟨rfl, rfl⟩ (ct_X2_holds _ c cd _ hc) ?_
      refine J_if_eq (nx := 25) (tgt := 71) dX2_total_22 rfl (by decide) (fun c_22 => ?_) (fun c_22 => ?_)
      · refine J_iinc (nx := 74) dX2_total_71 rfl rfl rfl (Nat.le_of_ble_eq_true rfl) ?_
        refine J_goto (nx := 5) dX2_total_74 (by decide) ?_
        show J _ _ _ _ 5 [some (.ref c), some (.ref 48), some (.ref 49), some (.int _), some (.int (nI l + Int32.ofInt 1)), _] [] _ 0 0
        rw [nI_s l]
        first | rw [cdT_n (bI0.mp c_22)] at hr hg | rw [cdT_1 (bI1.mp c_22) c_55] at hr hg | rw [cdT_f (bI1.mp c_22) c_55] at hr hg
        exact ih (l + 1) _ _ r g2 _ hc (by omega) (by rw [hr, gA_sA]; rfl) (by rw [hg, sA_sA, gA_sA]; rfl)
      · refine J_aload_n (nx := 26) dX2_total_25 rfl rfl ?_
        refine J_get (nx := 29) dX2_total_26 rfl fl_X2_21 (hc.oo rfl) rfl ?_
        refine J_iconst (nx := 30) (i := 4) (v := 4) (by decide) dX2_total_29 rfl ?_
        refine J_iload (nx := 32) dX2_total_30 rfl rfl ?_
        refine J_imul (nx := 33) dX2_total_32 rfl ?_
        refine J_iconst (nx := 34) (i := 1) (v := 1) (by decide) dX2_total_33 rfl ?_
        refine J_iadd (nx := 35) dX2_total_34 rfl ?_
        refine JcS2 (R' := rm 0 0 0) (nx := 38) dX2_total_35 rfl ml_X6_at lk_X2_38 st_X6_at ⟨(Nat.le_of_ble_eq_true rfl), (Nat.le_of_ble_eq_true rfl)⟩ (Nat.le_of_ble_eq_true rfl) ⟨rfl, rfl⟩ (ct_at _ (c + 1) _ _ _ (hc.hh rfl) hc.2.2.2.2.2.1) ?_
        refine J_istore (nx := 40) dX2_total_38 rfl rfl (Nat.le_of_ble_eq_true rfl) ?_
        refine J_iload_n (nx := 41) dX2_total_40 rfl rfl ?_
        refine J_aload_n (nx := 42) dX2_total_41 rfl rfl ?_
        refine J_get (nx := 45) dX2_total_42 rfl fl_X2_21 (hc.oo rfl) rfl ?_
        refine J_iconst (nx := 46) (i := 4) (v := 4) (by decide) dX2_total_45 rfl ?_
        refine J_iload (nx := 48) dX2_total_46 rfl rfl ?_
        refine J_imul (nx := 49) dX2_total_48 rfl ?_
        refine JcS2 (R' := rm 0 0 0) (nx := 52) dX2_total_49 rfl ml_X6_at lk_X2_38 st_X6_at ⟨(Nat.le_of_ble_eq_true rfl), (Nat.le_of_ble_eq_true rfl)⟩ (Nat.le_of_ble_eq_true rfl) ⟨rfl, rfl⟩ (ct_at _ (c + 1) _ _ _ (hc.hh rfl) hc.2.2.2.2.2.1) ?_
        refine J_iload (nx := 54) dX2_total_52 rfl rfl ?_
        refine J_iconst (nx := 55) (i := -1) (v := -1) (by decide) dX2_total_54 rfl ?_
        refine J_icmp_ne (nx := 58) (tgt := 62) dX2_total_55 rfl (by decide) (fun c_55 => ?_) (fun c_55 => ?_)
        · refine J_aload_n (nx := 63) dX2_total_62 rfl rfl ?_
          refine J_iload (nx := 65) dX2_total_63 rfl rfl ?_
          refine JcS2 (R' := rm 0 0 0) (nx := 68) dX2_total_65 rfl ml_X6_at lk_X2_38 st_X6_at ⟨(Nat.le_of_ble_eq_true rfl), (Nat.le_of_ble_eq_true rfl)⟩ (Nat.le_of_ble_eq_true rfl) ⟨rfl, rfl⟩ (ct_at _ 48 8 _ _ rfl (by decide)) ?_
          refine J_imul (nx := 69) dX2_total_68 rfl ?_
          refine J_iadd (nx := 70) dX2_total_69 rfl ?_
          refine J_istore_n (nx := 71) dX2_total_70 rfl rfl (Nat.le_of_ble_eq_true rfl) ?_
          refine J_iinc (nx := 74) dX2_total_71 rfl rfl rfl (Nat.le_of_ble_eq_true rfl) ?_
          refine J_goto (nx := 5) dX2_total_74 (by decide) ?_
          show J _ _ _ _ 5 [some (.ref c), some (.ref 48), some (.ref 49), some (.int _), some (.int (nI l + Int32.ofInt 1)), _] [] _ 0 0
          rw [nI_s l]
          first | rw [cdT_n (bI0.mp c_22)] at hr hg | rw [cdT_1 (bI1.mp c_22) c_55] at hr hg | rw [cdT_f (bI1.mp c_22) c_55] at hr hg
          exact ih (l + 1) _ _ r g2 _ hc (by omega) (by rw [hr, gA_sA]; rfl) (by rw [hg, sA_sA, gA_sA]; rfl)
        · refine J_iconst (nx := 59) (i := 1) (v := 1) (by decide) dX2_total_58 rfl ?_
          refine J_goto (nx := 68) dX2_total_59 (by decide) ?_
          refine J_imul (nx := 69) dX2_total_68 rfl ?_
          refine J_iadd (nx := 70) dX2_total_69 rfl ?_
          refine J_istore_n (nx := 71) dX2_total_70 rfl rfl (Nat.le_of_ble_eq_true rfl) ?_
          refine J_iinc (nx := 74) dX2_total_71 rfl rfl rfl (Nat.le_of_ble_eq_true rfl) ?_
          refine J_goto (nx := 5) dX2_total_74 (by decide) ?_
          show J _ _ _ _ 5 [some (.ref c), some (.ref 48), some (.ref 49), some (.int _), some (.int (nI l + Int32.ofInt 1)), _] [] _ 0 0
          rw [nI_s l]
          first | rw [cdT_n (bI0.mp c_22)] at hr hg | rw [cdT_1 (bI1.mp c_22) c_55] at hr hg | rw [cdT_f (bI1.mp c_22) c_55] at hr hg
          exact ih (l + 1) _ _ r g2 _ hc (by omega) (by rw [hr, gA_sA]; rfl) (by rw [hg, sA_sA, gA_sA]; rfl)

set_option maxRecDepth 100000 in
set_option maxHeartbeats 4000000 in
theorem ct_X2_total (g : GS) (c : Nat) (cd : CD) (hc : CodeT (gT g) c cd) : Ct mX2_total (rm 2 0 0) [.ref c, .ref 48, .ref 49] (Wd g) (RR (.inl (some (.int (cdT cd (gA g 48) cd.1 0 0 (gA g 49)).1))) (sA g 49 (cdT cd (gA g 48) cd.1 0 0 (gA g 49)).2)) := by
  refine Ct.of (by decide +kernel) (Nat.le_of_ble_eq_true rfl) ?_
  show J _ _ _ _ 0 [some (.ref c), some (.ref 48), some (.ref 49), none, none, none] [] _ 0 0
  refine J_iconst (nx := 1) (i := 0) (v := 0) (by decide) dX2_total_0 rfl ?_
  refine J_istore_n (nx := 2) dX2_total_1 rfl rfl (Nat.le_of_ble_eq_true rfl) ?_
  refine J_iconst (nx := 3) (i := 0) (v := 0) (by decide) dX2_total_2 rfl ?_
  refine J_istore (nx := 5) dX2_total_3 rfl rfl (Nat.le_of_ble_eq_true rfl) ?_
  exact lp_X2_total c cd _ cd.1 0 0 g _ _ none hc (by omega) rfl rfl

