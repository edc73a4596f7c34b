
theorem nI_mul (a b : Nat) : nI a * nI b = nI (a * b) := (Int32.ofNat_mul a b).symm
def wtI (g : GS) (f n : Nat) : Int32 := sI (fun i => woI g 0 (nI (f + i))) n
def gnI (g : GS) (s : Int32) : Int32 := ltI g s (gF g 20 13) - woI g 0 s
def odF (g : GS) (p : Nat) (a : Int32) : Int32 := if rAt 352 (gA g 52) (nI p) = rAt 352 (gA g 53) (nI p) then a else a + Int32.ofInt 1
def skF (g : GS) (s : Nat) (a : Int32) : Int32 := if ¬ woI g 0 (nI s) = rAt 352 (gA g 53) (nI s) then a else a ||| 1 <<< (nI s &&& 31)
def foS (g : GS) : Nat → Nat → Int32
  | 0, _ => -1
  | k + 1, p => if rAt 352 (gA g 52) (nI p) = rAt 352 (gA g 53) (nI p) then foS g k (p + 1) else nI p
theorem gr_e {g : GS} {G : Nat} (hG : gF g 40 12 = nI G) : (gF g 40 12 + 1) * 32 = nI ((G + 1) * 32) := by
  rw [hG, nI_1, show (32 : Int32) = nI 32 from rfl, nI_mul]

set_option maxRecDepth 100000 in
set_option maxHeartbeats 4000000 in
theorem ct_keepDeeds (g : GS) : Ct mX0_keepDeeds (rm 1 0 0) [.ref 40] (Wd g) (RR (.inl none) (sA g 53 (rCopy 352 352 (gA g 52) (gA g 53)))) := by
  refine Ct.of (by decide +kernel) (Nat.le_of_ble_eq_true rfl) ?_
  show J _ _ _ _ 0 [some (.ref 40)] [] _ 0 0
  refine J_aload_n (nx := 1) dX0_keepDeeds_0 rfl rfl ?_
  refine Jg_40_6 (nx := 4) dX0_keepDeeds_1 rfl fl_X0_31 ?_
  refine J_aload_n (nx := 5) dX0_keepDeeds_4 rfl rfl ?_
  refine Jg_40_7 (nx := 8) dX0_keepDeeds_5 rfl fl_X0_34 ?_
  refine JcS2 (R' := rm 0 0 0) (nx := 11) dX0_keepDeeds_8 rfl ml_X6_copy lk_X0_157 st_X6_copy ⟨(Nat.le_of_ble_eq_true rfl), (Nat.le_of_ble_eq_true rfl)⟩ (Nat.le_of_ble_eq_true rfl) ⟨rfl, rfl⟩ (ct_copy _ 52 53 352 352 _ (by decide) rfl rfl (fun _ => rfl) (by decide) (by decide)) ?_
  refine J.gen (fun g_8 hg_8 => ?_)
  subst hg_8
  exact Jrv dX0_keepDeeds_11 rfl (Nat.zero_le _) (Nat.zero_le _) ⟨rfl, rfl⟩

set_option maxRecDepth 100000 in
set_option maxHeartbeats 4000000 in
theorem ct_keepWorths (g : GS) : Ct mX0_keepWorths (rm 1 0 0) [.ref 40] (Wd g) (RR (.inl none) (sA g 53 (rCopy 352 352 (gA g 51) (gA g 53)))) := by
  refine Ct.of (by decide +kernel) (Nat.le_of_ble_eq_true rfl) ?_
  show J _ _ _ _ 0 [some (.ref 40)] [] _ 0 0
  refine J_aload_n (nx := 1) dX0_keepWorths_0 rfl rfl ?_
  refine Jg_40_5 (nx := 4) dX0_keepWorths_1 rfl fl_X0_28 ?_
  refine J_aload_n (nx := 5) dX0_keepWorths_4 rfl rfl ?_
  refine Jg_40_7 (nx := 8) dX0_keepWorths_5 rfl fl_X0_34 ?_
  refine JcS2 (R' := rm 0 0 0) (nx := 11) dX0_keepWorths_8 rfl ml_X6_copy lk_X0_157 st_X6_copy ⟨(Nat.le_of_ble_eq_true rfl), (Nat.le_of_ble_eq_true rfl)⟩ (Nat.le_of_ble_eq_true rfl) ⟨rfl, rfl⟩ (ct_copy _ 51 53 352 352 _ (by decide) rfl rfl (fun _ => rfl) (by decide) (by decide)) ?_
  refine J.gen (fun g_8 hg_8 => ?_)
  subst hg_8
  exact Jrv dX0_keepWorths_11 rfl (Nat.zero_le _) (Nat.zero_le _) ⟨rfl, rfl⟩

set_option maxRecDepth 100000 in
set_option maxHeartbeats 4000000 in
theorem ct_gain (g : GS) (s : Int32) : Ct mX0_gain (rm 2 0 0) [.ref 40, .int s] (Wd g) (RR (.inl (some (.int (gnI g s)))) g) := by
  refine Ct.of (by decide +kernel) (Nat.le_of_ble_eq_true rfl) ?_
  show J _ _ _ _ 0 [some (.ref 40), some (.int s)] [] _ 0 0
  refine J_aload_n (nx := 1) dX0_gain_0 rfl rfl ?_
  refine J_iload_n (nx := 2) dX0_gain_1 rfl rfl ?_
  refine J_aload_n (nx := 3) dX0_gain_2 rfl rfl ?_
  refine Jg_40_0 (nx := 6) dX0_gain_3 rfl fl_X0_37 ?_
  refine Jg_20_13 (nx := 9) dX0_gain_6 rfl fl_X0_137 ?_
  refine JcV2 (R' := rm 1 0 0) (nx := 12) dX0_gain_9 rfl ml_X0_lettingOn lk_X0_140 iv_X0_lettingOn rfl rfl ⟨(Nat.le_of_ble_eq_true rfl), (Nat.le_of_ble_eq_true rfl)⟩ (Nat.le_of_ble_eq_true rfl) ⟨rfl, rfl⟩ (ct_lettingOn _ _ _) ?_
  refine J_aload_n (nx := 13) dX0_gain_12 rfl rfl ?_
  refine J_iconst (nx := 14) (i := 0) (v := 0) (by decide) dX0_gain_13 rfl ?_
  refine J_iload_n (nx := 15) dX0_gain_14 rfl rfl ?_
  refine JcV2 (R' := rm 1 0 0) (nx := 18) dX0_gain_15 rfl ml_X0_worthAt lk_X0_154 iv_X0_worthAt rfl rfl ⟨(Nat.le_of_ble_eq_true rfl), (Nat.le_of_ble_eq_true rfl)⟩ (Nat.le_of_ble_eq_true rfl) ⟨rfl, rfl⟩ (ct_worthAt _ _ _) ?_
  refine J_isub (nx := 19) dX0_gain_18 rfl ?_
  exact Jri dX0_gain_19 rfl (Nat.zero_le _) (Nat.zero_le _) ⟨rfl, rfl⟩

set_option maxRecDepth 100000 in
set_option maxHeartbeats 4000000 in
theorem lp_worthTogether (g : GS) (f l n : Nat) (hn : f + n = l + 1) (hl : l < 2 ^ 30) (n0 : Nat) : ∀ (k i : Nat), i ≤ n → n + 1 ≤ i + k → J mX0_worthTogether (rm 2 0 0) (RR (.inl (some (.int (wtI g f n)))) g) n0 5 [some (.ref 40), some (.int (nI f)), some (.int (nI l)), some (.int (wtI g f i)), some (.int (nI (f + i)))] [] (Wd g) 0 0 := by
  intro k
  induction k with
  | zero => intro i h1 h2; exact absurd h2 (by omega)
  | succ k ih =>
    intro i h1 h2
    refine J_iload (nx := 7) dX0_worthTogether_5 rfl rfl ?_
    refine J_iload_n (nx := 8) dX0_worthTogether_7 rfl rfl ?_
    refine J_icmp_gt (nx := 11) (tgt := 27) dX0_worthTogether_8 rfl (by decide) (fun c_8 => ?_) (fun c_8 => ?_)
    · obtain rfl : i = n := by have := (nI_ltI (by omega) (by omega)).mp c_8; omega
      refine J_iload_n (nx := 28) dX0_worthTogether_27 rfl rfl ?_
      exact Jri dX0_worthTogether_28 rfl (Nat.zero_le _) (Nat.zero_le _) ⟨rfl, rfl⟩
    · have hi : i < n := by
        rcases Nat.lt_or_ge i n with h | h
        · exact h
        · exact absurd ((nI_ltI (by omega) (by omega)).mpr (show l < f + i by omega)) c_8
      refine J_iload_n (nx := 12) dX0_worthTogether_11 rfl rfl ?_
      refine J_aload_n (nx := 13) dX0_worthTogether_12 rfl rfl ?_
      refine J_iconst (nx := 14) (i := 0) (v := 0) (by decide) dX0_worthTogether_13 rfl ?_
      refine J_iload (nx := 16) dX0_worthTogether_14 rfl rfl ?_
      refine JcV2 (R' := rm 1 0 0) (nx := 19) dX0_worthTogether_16 rfl ml_X0_worthAt lk_X0_154 iv_X0_worthAt rfl rfl ⟨(Nat.le_of_ble_eq_true rfl), (Nat.le_of_ble_eq_true rfl)⟩ (Nat.le_of_ble_eq_true rfl) ⟨rfl, rfl⟩ (ct_worthAt _ _ _) ?_
      refine J_iadd (nx := 20) dX0_worthTogether_19 rfl ?_
      refine J_istore_n (nx := 21) dX0_worthTogether_20 rfl rfl (Nat.le_of_ble_eq_true rfl) ?_
      refine J_iinc (nx := 24) dX0_worthTogether_21 rfl rfl rfl (Nat.le_of_ble_eq_true rfl) ?_
      refine J_goto (nx := 5) dX0_worthTogether_24 (by decide) ?_
      show J _ _ _ _ 5 [some (.ref 40), some (.int (nI f)), some (.int (nI l)), some (.int (wtI g f (i + 1))), some (.int (nI (f + i) + Int32.ofInt 1))] [] _ 0 0
      rw [nI_s (f + i)]
      exact ih (i + 1) (by omega) (by omega)

set_option maxRecDepth 100000 in
set_option maxHeartbeats 4000000 in
theorem ct_worthTogether (g : GS) (f l n : Nat) (hn : f + n = l + 1) (hl : l < 2 ^ 30) : Ct mX0_worthTogether (rm 2 0 0) [.ref 40, .int (nI f), .int (nI l)] (Wd g) (RR (.inl (some (.int (wtI g f n)))) g) := by
  refine Ct.of (by decide +kernel) (Nat.le_of_ble_eq_true rfl) ?_
  show J _ _ _ _ 0 [some (.ref 40), some (.int (nI f)), some (.int (nI l)), none, none] [] _ 0 0
  refine J_iconst (nx := 1) (i := 0) (v := 0) (by decide) dX0_worthTogether_0 rfl ?_
  refine J_istore_n (nx := 2) dX0_worthTogether_1 rfl rfl (Nat.le_of_ble_eq_true rfl) ?_
  refine J_iload_n (nx := 3) dX0_worthTogether_2 rfl rfl ?_
  refine J_istore (nx := 5) dX0_worthTogether_3 rfl rfl (Nat.le_of_ble_eq_true rfl) ?_
  exact lp_worthTogether g f l n hn hl _ (n + 1) 0 (by omega) (by omega)

set_option maxRecDepth 100000 in
set_option maxHeartbeats 4000000 in
theorem lp_otherDeeds (g : GS) (G : Nat) (hG : gF g 40 12 = nI G) (hG2 : G ≤ 10) (n0 : Nat) : ∀ (k w : Nat), w ≤ ((G + 1) * 32) → ((G + 1) * 32) + 1 ≤ w + k → J mX0_otherDeeds (rm 2 0 0) (RR (.inl (some (.int (itN (odF g) ((G + 1) * 32) 0)))) g) n0 4 [some (.ref 40), some (.int (itN (odF g) w 0)), some (.int (nI w))] [] (Wd g) 0 0 := by
  intro k
  induction k with
  | zero => intro w h1 h2; exact absurd h2 (by omega)
  | succ k ih =>
    intro w h1 h2
    refine J_iload_n (nx := 5) dX0_otherDeeds_4 rfl rfl ?_
    refine J_aload_n (nx := 6) dX0_otherDeeds_5 rfl rfl ?_
    refine Jg_40_12 (nx := 9) dX0_otherDeeds_6 rfl fl_X0_86 ?_
    refine J_iconst (nx := 10) (i := 1) (v := 1) (by decide) dX0_otherDeeds_9 rfl ?_
    refine J_iadd (nx := 11) dX0_otherDeeds_10 rfl ?_
    refine J_bipush (nx := 13) (i := 32) (v := 32) (by decide) dX0_otherDeeds_11 rfl ?_
    refine J_imul (nx := 14) dX0_otherDeeds_13 rfl ?_
    refine J_icmp_ge (nx := 17) (tgt := 45) dX0_otherDeeds_14 rfl (by decide) (fun c_14 => ?_) (fun c_14 => ?_)
    · rw [gr_e hG] at c_14
      obtain rfl : w = ((G + 1) * 32) := cge h1 (by omega) c_14
      refine J_iload_n (nx := 46) dX0_otherDeeds_45 rfl rfl ?_
      exact Jri dX0_otherDeeds_46 rfl (Nat.zero_le _) (Nat.zero_le _) ⟨rfl, rfl⟩
    · rw [gr_e hG] at c_14
      have hw : w < ((G + 1) * 32) := clt h1 (by omega) c_14
      have ih2 := ih (w + 1) (by omega) (by omega)
      rw [← nI_s w, itN_s (odF g) w 0] at ih2
      refine J_aload_n (nx := 18) dX0_otherDeeds_17 rfl rfl ?_
      refine Jg_40_6 (nx := 21) dX0_otherDeeds_18 rfl fl_X0_31 ?_
      refine J_iload_n (nx := 22) dX0_otherDeeds_21 rfl rfl ?_
      refine JcS2 (R' := rm 0 0 0) (nx := 25) dX0_otherDeeds_22 rfl ml_X6_at lk_X0_100 st_X6_at ⟨(Nat.le_of_ble_eq_true rfl), (Nat.le_of_ble_eq_true rfl)⟩ (Nat.le_of_ble_eq_true rfl) ⟨rfl, rfl⟩ (ct_at _ 52 352 _ _ rfl (by decide)) ?_
      refine J_aload_n (nx := 26) dX0_otherDeeds_25 rfl rfl ?_
      refine Jg_40_7 (nx := 29) dX0_otherDeeds_26 rfl fl_X0_34 ?_
      refine J_iload_n (nx := 30) dX0_otherDeeds_29 rfl rfl ?_
      refine JcS2 (R' := rm 0 0 0) (nx := 33) dX0_otherDeeds_30 rfl ml_X6_at lk_X0_100 st_X6_at ⟨(Nat.le_of_ble_eq_true rfl), (Nat.le_of_ble_eq_true rfl)⟩ (Nat.le_of_ble_eq_true rfl) ⟨rfl, rfl⟩ (ct_at _ 53 352 _ _ rfl (by decide)) ?_
      refine J_icmp_eq (nx := 36) (tgt := 39) dX0_otherDeeds_33 rfl (by decide) (fun c_33 => ?_) (fun c_33 => ?_)
      · refine J_iinc (nx := 42) dX0_otherDeeds_39 rfl rfl rfl (Nat.le_of_ble_eq_true rfl) ?_
        refine J_goto (nx := 4) dX0_otherDeeds_42 (by decide) ?_
        first
          | (rw [show odF g w (itN (odF g) w 0) = _ from if_pos c_33] at ih2)
          | (rw [show odF g w (itN (odF g) w 0) = _ from if_neg c_33] at ih2)
          | (rw [show odF g w (itN (odF g) w 0) = _ from if_neg (fun z => z c_33)] at ih2)
        exact ih2
      · refine J_iinc (nx := 39) dX0_otherDeeds_36 rfl rfl rfl (Nat.le_of_ble_eq_true rfl) ?_
        refine J_iinc (nx := 42) dX0_otherDeeds_39 rfl rfl rfl (Nat.le_of_ble_eq_true rfl) ?_
        refine J_goto (nx := 4) dX0_otherDeeds_42 (by decide) ?_
        first
          | (rw [show odF g w (itN (odF g) w 0) = _ from if_pos c_33] at ih2)
          | (rw [show odF g w (itN (odF g) w 0) = _ from if_neg c_33] at ih2)
          | (rw [show odF g w (itN (odF g) w 0) = _ from if_neg (fun z => z c_33)] at ih2)
        exact ih2

set_option maxRecDepth 100000 in
set_option maxHeartbeats 4000000 in
theorem ct_otherDeeds (g : GS) (G : Nat) (hG : gF g 40 12 = nI G) (hG2 : G ≤ 10) : Ct mX0_otherDeeds (rm 2 0 0) [.ref 40] (Wd g) (RR (.inl (some (.int (itN (odF g) ((G + 1) * 32) 0)))) g) := by
  refine Ct.of (by decide +kernel) (Nat.le_of_ble_eq_true rfl) ?_
  show J _ _ _ _ 0 [some (.ref 40), none, none] [] _ 0 0
  refine J_iconst (nx := 1) (i := 0) (v := 0) (by decide) dX0_otherDeeds_0 rfl ?_
  refine J_istore_n (nx := 2) dX0_otherDeeds_1 rfl rfl (Nat.le_of_ble_eq_true rfl) ?_
  refine J_iconst (nx := 3) (i := 0) (v := 0) (by decide) dX0_otherDeeds_2 rfl ?_
  refine J_istore_n (nx := 4) dX0_otherDeeds_3 rfl rfl (Nat.le_of_ble_eq_true rfl) ?_
  exact lp_otherDeeds g G hG hG2 _ ((G + 1) * 32 + 1) 0 (by omega) (by omega)

set_option maxRecDepth 100000 in
set_option maxHeartbeats 4000000 in
theorem lp_statesAsKept (g : GS) (n0 : Nat) : ∀ (k w : Nat), w ≤ 32 → 32 + 1 ≤ w + k → J mX0_statesAsKept (rm 2 0 0) (RR (.inl (some (.int (itN (skF g) 32 0)))) g) n0 4 [some (.ref 40), some (.int (itN (skF g) w 0)), some (.int (nI w))] [] (Wd g) 0 0 := by
  intro k
  induction k with
  | zero => intro w h1 h2; exact absurd h2 (by omega)
  | succ k ih =>
    intro w h1 h2
    refine J_iload_n (nx := 5) dX0_statesAsKept_4 rfl rfl ?_
    refine J_bipush (nx := 7) (i := 32) (v := 32) (by decide) dX0_statesAsKept_5 rfl ?_
    refine J_icmp_ge (nx := 10) (tgt := 39) dX0_statesAsKept_7 rfl (by decide) (fun c_7 => ?_) (fun c_7 => ?_)
    · obtain rfl : w = 32 := cge h1 (by omega) c_7
      refine J_iload_n (nx := 40) dX0_statesAsKept_39 rfl rfl ?_
      exact Jri dX0_statesAsKept_40 rfl (Nat.zero_le _) (Nat.zero_le _) ⟨rfl, rfl⟩
    · have hw : w < 32 := clt h1 (by omega) c_7
      have ih2 := ih (w + 1) (by omega) (by omega)
      rw [← nI_s w, itN_s (skF g) w 0] at ih2
      refine J_aload_n (nx := 11) dX0_statesAsKept_10 rfl rfl ?_
      refine J_iconst (nx := 12) (i := 0) (v := 0) (by decide) dX0_statesAsKept_11 rfl ?_
      refine J_iload_n (nx := 13) dX0_statesAsKept_12 rfl rfl ?_
      refine JcV2 (R' := rm 1 0 0) (nx := 16) dX0_statesAsKept_13 rfl ml_X0_worthAt lk_X0_154 iv_X0_worthAt rfl rfl ⟨(Nat.le_of_ble_eq_true rfl), (Nat.le_of_ble_eq_true rfl)⟩ (Nat.le_of_ble_eq_true rfl) ⟨rfl, rfl⟩ (ct_worthAt _ _ _) ?_
      refine J_aload_n (nx := 17) dX0_statesAsKept_16 rfl rfl ?_
      refine Jg_40_7 (nx := 20) dX0_statesAsKept_17 rfl fl_X0_34 ?_
      refine J_iload_n (nx := 21) dX0_statesAsKept_20 rfl rfl ?_
      refine JcS2 (R' := rm 0 0 0) (nx := 24) dX0_statesAsKept_21 rfl ml_X6_at lk_X0_100 st_X6_at ⟨(Nat.le_of_ble_eq_true rfl), (Nat.le_of_ble_eq_true rfl)⟩ (Nat.le_of_ble_eq_true rfl) ⟨rfl, rfl⟩ (ct_at _ 53 352 _ _ rfl (by decide)) ?_
      refine J_icmp_ne (nx := 27) (tgt := 33) dX0_statesAsKept_24 rfl (by decide) (fun c_24 => ?_) (fun c_24 => ?_)
      · refine J_iinc (nx := 36) dX0_statesAsKept_33 rfl rfl rfl (Nat.le_of_ble_eq_true rfl) ?_
        refine J_goto (nx := 4) dX0_statesAsKept_36 (by decide) ?_
        first
          | (rw [show skF g w (itN (skF g) w 0) = _ from if_pos c_24] at ih2)
          | (rw [show skF g w (itN (skF g) w 0) = _ from if_neg c_24] at ih2)
          | (rw [show skF g w (itN (skF g) w 0) = _ from if_neg (fun z => z c_24)] at ih2)
        exact ih2
      · refine J_iload_n (nx := 28) dX0_statesAsKept_27 rfl rfl ?_
        refine J_iconst (nx := 29) (i := 1) (v := 1) (by decide) dX0_statesAsKept_28 rfl ?_
        refine J_iload_n (nx := 30) dX0_statesAsKept_29 rfl rfl ?_
        refine J_ishl (nx := 31) dX0_statesAsKept_30 rfl ?_
        refine J_ior (nx := 32) dX0_statesAsKept_31 rfl ?_
        refine J_istore_n (nx := 33) dX0_statesAsKept_32 rfl rfl (Nat.le_of_ble_eq_true rfl) ?_
        refine J_iinc (nx := 36) dX0_statesAsKept_33 rfl rfl rfl (Nat.le_of_ble_eq_true rfl) ?_
        refine J_goto (nx := 4) dX0_statesAsKept_36 (by decide) ?_
        first
          | (rw [show skF g w (itN (skF g) w 0) = _ from if_pos c_24] at ih2)
          | (rw [show skF g w (itN (skF g) w 0) = _ from if_neg c_24] at ih2)
          | (rw [show skF g w (itN (skF g) w 0) = _ from if_neg (fun z => z c_24)] at ih2)
        exact ih2

set_option maxRecDepth 100000 in
set_option maxHeartbeats 4000000 in
theorem ct_statesAsKept (g : GS) : Ct mX0_statesAsKept (rm 2 0 0) [.ref 40] (Wd g) (RR (.inl (some (.int (itN (skF g) 32 0)))) g) := by
  refine Ct.of (by decide +kernel) (Nat.le_of_ble_eq_true rfl) ?_
  show J _ _ _ _ 0 [some (.ref 40), none, none] [] _ 0 0
  refine J_iconst (nx := 1) (i := 0) (v := 0) (by decide) dX0_statesAsKept_0 rfl ?_
  refine J_istore_n (nx := 2) dX0_statesAsKept_1 rfl rfl (Nat.le_of_ble_eq_true rfl) ?_
  refine J_iconst (nx := 3) (i := 0) (v := 0) (by decide) dX0_statesAsKept_2 rfl ?_
  refine J_istore_n (nx := 4) dX0_statesAsKept_3 rfl rfl (Nat.le_of_ble_eq_true rfl) ?_
  exact lp_statesAsKept g _ 33 0 (by omega) (by omega)

set_option maxRecDepth 100000 in
set_option maxHeartbeats 4000000 in
theorem lp_firstOtherDeed (g : GS) (G : Nat) (hG : gF g 40 12 = nI G) (hG2 : G ≤ 10) (n0 : Nat) : ∀ (k : Nat) (p : Nat) (r : Int32), p + k = (G + 1) * 32 → r = foS g k p → J mX0_firstOtherDeed (rm 2 0 0) (RR (.inl (some (.int r))) g) n0 2 [some (.ref 40), some (.int (nI p))] [] (Wd g) 0 0 := by
  intro k
  induction k with
  | zero =>
    intro p r hp hr
    refine J_iload_n (nx := 3) dX0_firstOtherDeed_2 rfl rfl ?_
    refine J_aload_n (nx := 4) dX0_firstOtherDeed_3 rfl rfl ?_
    refine Jg_40_12 (nx := 7) dX0_firstOtherDeed_4 rfl fl_X0_86 ?_
    refine J_iconst (nx := 8) (i := 1) (v := 1) (by decide) dX0_firstOtherDeed_7 rfl ?_
    refine J_iadd (nx := 9) dX0_firstOtherDeed_8 rfl ?_
    refine J_bipush (nx := 11) (i := 32) (v := 32) (by decide) dX0_firstOtherDeed_9 rfl ?_
    refine J_imul (nx := 12) dX0_firstOtherDeed_11 rfl ?_
    refine J_icmp_ge (nx := 15) (tgt := 42) dX0_firstOtherDeed_12 rfl (by decide) (fun c_12 => ?_) (fun c_12 => ?_)
    · refine J_iconst (nx := 43) (i := -1) (v := -1) (by decide) dX0_firstOtherDeed_42 rfl ?_
      exact Jri dX0_firstOtherDeed_43 rfl (Nat.zero_le _) (Nat.zero_le _) (RR.i (by rw [hr]; rfl) rfl)
    · exact absurd (show nI ((G + 1) * 32) ≤ nI p from by rw [show p = (G + 1) * 32 by omega]; exact le_self_nI) (by rw [gr_e hG] at c_12; exact c_12)
  | succ k ih =>
    intro p r hp hr
    refine J_iload_n (nx := 3) dX0_firstOtherDeed_2 rfl rfl ?_
    refine J_aload_n (nx := 4) dX0_firstOtherDeed_3 rfl rfl ?_
    refine Jg_40_12 (nx := 7) dX0_firstOtherDeed_4 rfl fl_X0_86 ?_
    refine J_iconst (nx := 8) (i := 1) (v := 1) (by decide) dX0_firstOtherDeed_7 rfl ?_
    refine J_iadd (nx := 9) dX0_firstOtherDeed_8 rfl ?_
    refine J_bipush (nx := 11) (i := 32) (v := 32) (by decide) dX0_firstOtherDeed_9 rfl ?_
    refine J_imul (nx := 12) dX0_firstOtherDeed_11 rfl ?_
    refine J_icmp_ge (nx := 15) (tgt := 42) dX0_firstOtherDeed_12 rfl (by decide) (fun c_12 => ?_) (fun c_12 => ?_)
    · exact absurd (show nI ((G + 1) * 32) ≤ nI p from by rw [gr_e hG] at c_12; exact c_12) (nlt_nI (by omega) (by omega))
    · refine J_aload_n (nx := 16) dX0_firstOtherDeed_15 rfl rfl ?_
      refine Jg_40_6 (nx := 19) dX0_firstOtherDeed_16 rfl fl_X0_31 ?_
      refine J_iload_n (nx := 20) dX0_firstOtherDeed_19 rfl rfl ?_
      refine JcS2 (R' := rm 0 0 0) (nx := 23) dX0_firstOtherDeed_20 rfl ml_X6_at lk_X0_100 st_X6_at ⟨(Nat.le_of_ble_eq_true rfl), (Nat.le_of_ble_eq_true rfl)⟩ (Nat.le_of_ble_eq_true rfl) ⟨rfl, rfl⟩ (ct_at _ 52 352 _ _ rfl (by decide)) ?_
      refine J_aload_n (nx := 24) dX0_firstOtherDeed_23 rfl rfl ?_
      refine Jg_40_7 (nx := 27) dX0_firstOtherDeed_24 rfl fl_X0_34 ?_
      refine J_iload_n (nx := 28) dX0_firstOtherDeed_27 rfl rfl ?_
      refine JcS2 (R' := rm 0 0 0) (nx := 31) dX0_firstOtherDeed_28 rfl ml_X6_at lk_X0_100 st_X6_at ⟨(Nat.le_of_ble_eq_true rfl), (Nat.le_of_ble_eq_true rfl)⟩ (Nat.le_of_ble_eq_true rfl) ⟨rfl, rfl⟩ (ct_at _ 53 352 _ _ rfl (by decide)) ?_
      refine J_icmp_eq (nx := 34) (tgt := 36) dX0_firstOtherDeed_31 rfl (by decide) (fun c_31 => ?_) (fun c_31 => ?_)
      · refine J_iinc (nx := 39) dX0_firstOtherDeed_36 rfl rfl rfl (Nat.le_of_ble_eq_true rfl) ?_
        refine J_goto (nx := 2) dX0_firstOtherDeed_39 (by decide) ?_
        show J _ _ _ _ 2 [some (.ref 40), some (.int (nI p + Int32.ofInt 1))] [] _ 0 0
        rw [nI_s]
        exact ih (p + 1) r (by omega) (hr.trans (if_pos c_31))
      · refine J_iload_n (nx := 35) dX0_firstOtherDeed_34 rfl rfl ?_
        exact Jri dX0_firstOtherDeed_35 rfl (Nat.zero_le _) (Nat.zero_le _) (RR.i (hr.trans (if_neg c_31)).symm rfl)

set_option maxRecDepth 100000 in
set_option maxHeartbeats 4000000 in
theorem ct_firstOtherDeed (g : GS) (G : Nat) (hG : gF g 40 12 = nI G) (hG2 : G ≤ 10) : Ct mX0_firstOtherDeed (rm 2 0 0) [.ref 40] (Wd g) (RR (.inl (some (.int (foS g ((G + 1) * 32) 0)))) g) := by
  refine Ct.of (by decide +kernel) (Nat.le_of_ble_eq_true rfl) ?_
  show J _ _ _ _ 0 [some (.ref 40), none] [] _ 0 0
  refine J_iconst (nx := 1) (i := 0) (v := 0) (by decide) dX0_firstOtherDeed_0 rfl ?_
  refine J_istore_n (nx := 2) dX0_firstOtherDeed_1 rfl rfl (Nat.le_of_ble_eq_true rfl) ?_
  exact lp_firstOtherDeed g G hG hG2 _ ((G + 1) * 32) 0 _ (by omega) rfl

