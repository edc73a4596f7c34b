
/-! Course -/
def cdrG (g : GS) : GS := sF g 58 7 (1103515245 * gF g 58 7 + 12345)
def cdrV (g : GS) (all : Int32) : Int32 := if all ≤ 0 then 0 else (usr (gF (cdrG g) 58 7) 16 &&& 32767) - (usr (gF (cdrG g) 58 7) 16 &&& 32767) / all * all
def ak1 (g : GS) (w : Int32) : GS := sF g 58 4 (if ¬ w = 0 then 0 else 1000000)
def ak2 (g : GS) (w : Int32) : GS := sF g 58 5 (if ¬ w = 1 then 0 else 1000000)
def ak3 (g : GS) (w : Int32) : GS := sF g 58 6 (if ¬ w = 2 then 0 else 1000000)
def akS (t s : Nat) (g : GS) : GS := sA g 59 (rPut 1952 (gA g 59) (nI t * 32 + nI s) (mixI g 1952 (gA g 59) (nI s) ((nI t - 1) * 32) (gF g 58 5) (gF g 58 6)))
def akT (i : Nat) (g : GS) : GS := itN (akS (i + 1)) 32 g
theorem akT_e (i : Nat) (g : GS) : akT i g = itN (akS (i + 1)) 32 g := by unfold akT; rfl
theorem akS_F (t n : Nat) (g : GS) : gF (itN (akS t) n g) = gF g := by
  induction n with
  | zero => rfl
  | succ n ih => rw [itN_s]; show gF (itN (akS t) n g) = _; exact ih
theorem akT_F (n : Nat) (g : GS) : gF (itN akT n g) = gF g := by
  induction n with
  | zero => rfl
  | succ n ih => rw [itN_s, akT_e, akS_F]; exact ih
def akAll (g : GS) (w : Int32) (T : Nat) : GS := itN akT T (ak3 (ak2 (ak1 g w) w) w)
def shI (g : GS) (j s : Int32) : Int32 :=
  if ¬ deI g j s = 0 then (if ¬ deI g j s = 1 then (if gF g 20 13 - j ≤ 0 then 0 else mixI g 352 (gA g 60) s ((j + 1) * 32) (gF g 58 5) (gF g 58 4)) else rAt 1952 (gA g 59) ((gF g 20 13 - j) * 32 + s)) else gF g 58 4
def shS (j s : Nat) (g : GS) : GS := sA g 60 (rPut 352 (gA g 60) (nI j * 32 + nI s) (shI g (nI j) (nI s)))
def shD : Nat → GS → GS
  | 0, g => itN (shS 0) 32 g
  | j + 1, g => shD j (itN (shS (j + 1)) 32 g)
theorem shD_0 (g : GS) : shD 0 g = itN (shS 0) 32 g := by unfold shD; rfl
theorem shD_s (j : Nat) (g : GS) : shD (j + 1) g = shD j (itN (shS (j + 1)) 32 g) := by conv => lhs; unfold shD
def sfI (g : GS) (s : Int32) : Int32 := rAt 352 (gA g 60) s

set_option maxRecDepth 100000 in
set_option maxHeartbeats 4000000 in
theorem ct_draw (g : GS) (all : Int32) : Ct mX3_draw (rm 0 0 0) [.ref 58, .int all] (Wd g) (RR (.inl (some (.int (cdrV g all)))) (cdrG g)) := by
  refine Ct.of (by decide +kernel) (Nat.le_of_ble_eq_true rfl) ?_
  show J _ _ _ _ 0 [some (.ref 58), some (.int all), none] [] _ 0 0
  refine J_aload_n (nx := 1) dX3_draw_0 rfl rfl ?_
  refine J_ldc (nx := 3) cn_X3_79 dX3_draw_1 rfl ?_
  refine J_aload_n (nx := 4) dX3_draw_3 rfl rfl ?_
  refine Jg_58_7 (nx := 7) dX3_draw_4 rfl fl_X3_80 ?_
  refine J_imul (nx := 8) dX3_draw_7 rfl ?_
  refine J_sipush (nx := 11) (i := 12345) (v := 12345) (by decide) dX3_draw_8 rfl ?_
  refine J_iadd (nx := 12) dX3_draw_11 rfl ?_
  refine Jp_58_7 (nx := 15) dX3_draw_12 rfl fl_X3_80 ?_
  refine J.gen (fun g_12 hg_12 => ?_)
  refine J_aload_n (nx := 16) dX3_draw_15 rfl rfl ?_
  refine Jg_58_7 (nx := 19) dX3_draw_16 rfl fl_X3_80 ?_
  refine J_bipush (nx := 21) (i := 16) (v := 16) (by decide) dX3_draw_19 rfl ?_
  refine J_iushr (nx := 22) dX3_draw_21 rfl ?_
  refine J_sipush (nx := 25) (i := 32767) (v := 32767) (by decide) dX3_draw_22 rfl ?_
  refine J_iand (nx := 26) dX3_draw_25 rfl ?_
  refine J_istore_n (nx := 27) dX3_draw_26 rfl rfl (Nat.le_of_ble_eq_true rfl) ?_
  refine J_iload_n (nx := 28) dX3_draw_27 rfl rfl ?_
  refine J_if_le (nx := 31) (tgt := 37) dX3_draw_28 rfl (by decide) (fun c_28 => ?_) (fun c_28 => ?_)
  · refine J_iconst (nx := 38) (i := 0) (v := 0) (by decide) dX3_draw_37 rfl ?_
    subst hg_12
    exact Jri dX3_draw_38 rfl (Nat.zero_le _) (Nat.zero_le _) (RR.i (by unfold cdrV; first | (rw [if_pos c_28]) | (rw [if_neg c_28]; rfl)) rfl)
  · refine J_iload_n (nx := 32) dX3_draw_31 rfl rfl ?_
    refine J_iload_n (nx := 33) dX3_draw_32 rfl rfl ?_
    refine J_irem (nx := 34) (fun z => c_28 (by rw [z]; decide)) dX3_draw_33 rfl ?_
    refine J_goto (nx := 38) dX3_draw_34 (by decide) ?_
    subst hg_12
    exact Jri dX3_draw_38 rfl (Nat.zero_le _) (Nat.zero_le _) (RR.i (by unfold cdrV; first | (rw [if_pos c_28]) | (rw [if_neg c_28]; rfl)) rfl)

set_option maxRecDepth 100000 in
set_option maxHeartbeats 4000000 in
theorem ct_shareFrom (g : GS) (s : Int32) : Ct mX3_shareFrom (rm 1 0 0) [.ref 58, .int s] (Wd g) (RR (.inl (some (.int (sfI g s)))) g) := by
  refine Ct.of (by decide +kernel) (Nat.le_of_ble_eq_true rfl) ?_
  show J _ _ _ _ 0 [some (.ref 58), some (.int s)] [] _ 0 0
  refine J_aload_n (nx := 1) dX3_shareFrom_0 rfl rfl ?_
  refine Jg_58_3 (nx := 4) dX3_shareFrom_1 rfl fl_X3_15 ?_
  refine J_iload_n (nx := 5) dX3_shareFrom_4 rfl rfl ?_
  refine JcS2 (R' := rm 0 0 0) (nx := 8) dX3_shareFrom_5 rfl ml_X6_at lk_X3_75 st_X6_at ⟨(Nat.le_of_ble_eq_true rfl), (Nat.le_of_ble_eq_true rfl)⟩ (Nat.le_of_ble_eq_true rfl) ⟨rfl, rfl⟩ (ct_at _ 60 352 _ _ rfl (by decide)) ?_
  exact Jri dX3_shareFrom_8 rfl (Nat.zero_le _) (Nat.zero_le _) ⟨rfl, rfl⟩

set_option maxRecDepth 100000 in
set_option maxHeartbeats 4000000 in
theorem ct_shareAt (g : GS) (j s : Int32) : Ct mX3_shareAt (rm 2 0 0) [.ref 58, .int j, .int s] (Wd g) (RR (.inl (some (.int (shI g j s)))) g) := by
  refine Ct.of (by decide +kernel) (Nat.le_of_ble_eq_true rfl) ?_
  show J _ _ _ _ 0 [some (.ref 58), some (.int j), some (.int s), none, none] [] _ 0 0
  refine J_aload_n (nx := 1) dX3_shareAt_0 rfl rfl ?_
  refine Jg_58_1 (nx := 4) dX3_shareAt_1 rfl fl_X3_22 ?_
  refine J_iload_n (nx := 5) dX3_shareAt_4 rfl rfl ?_
  refine J_iload_n (nx := 6) dX3_shareAt_5 rfl rfl ?_
  refine JcV2 (R' := rm 1 0 0) (nx := 9) dX3_shareAt_6 rfl ml_X0_deedAt lk_X3_72 iv_X0_deedAt rfl rfl ⟨(Nat.le_of_ble_eq_true rfl), (Nat.le_of_ble_eq_true rfl)⟩ (Nat.le_of_ble_eq_true rfl) ⟨rfl, rfl⟩ (ct_deedAt _ _ _) ?_
  refine J_istore_n (nx := 10) dX3_shareAt_9 rfl rfl (Nat.le_of_ble_eq_true rfl) ?_
  refine J_iload_n (nx := 11) dX3_shareAt_10 rfl rfl ?_
  refine J_if_ne (nx := 14) (tgt := 19) dX3_shareAt_11 rfl (by decide) (fun c_11 => ?_) (fun c_11 => ?_)
  · refine J_aload_n (nx := 20) dX3_shareAt_19 rfl rfl ?_
    refine Jg_58_0 (nx := 23) dX3_shareAt_20 rfl fl_X3_18 ?_
    refine Jg_20_13 (nx := 26) dX3_shareAt_23 rfl fl_X3_37 ?_
    refine J_iload_n (nx := 27) dX3_shareAt_26 rfl rfl ?_
    refine J_isub (nx := 28) dX3_shareAt_27 rfl ?_
    refine J_istore (nx := 30) dX3_shareAt_28 rfl rfl (Nat.le_of_ble_eq_true rfl) ?_
    refine J_iload_n (nx := 31) dX3_shareAt_30 rfl rfl ?_
    refine J_iconst (nx := 32) (i := 1) (v := 1) (by decide) dX3_shareAt_31 rfl ?_
    refine J_icmp_ne (nx := 35) (tgt := 50) dX3_shareAt_32 rfl (by decide) (fun c_32 => ?_) (fun c_32 => ?_)
    · refine J_iload (nx := 52) dX3_shareAt_50 rfl rfl ?_
      refine J_if_le (nx := 55) (tgt := 87) dX3_shareAt_52 rfl (by decide) (fun c_52 => ?_) (fun c_52 => ?_)
      · refine J_iconst (nx := 88) (i := 0) (v := 0) (by decide) dX3_shareAt_87 rfl ?_
        exact Jri dX3_shareAt_88 rfl (Nat.zero_le _) (Nat.zero_le _) (RR.i (by unfold shI; first | (rw [if_pos c_11]; first | (rw [if_pos c_32]; first | (rw [if_pos c_52]) | (rw [if_neg c_52])) | (rw [if_neg (fun z => z c_32)])) | (rw [if_neg (fun z => z c_11)])) rfl)
      · refine J_aload_n (nx := 56) dX3_shareAt_55 rfl rfl ?_
        refine Jg_58_1 (nx := 59) dX3_shareAt_56 rfl fl_X3_22 ?_
        refine Jg_40_1 (nx := 62) dX3_shareAt_59 rfl fl_X3_42 ?_
        refine J_iload_n (nx := 63) dX3_shareAt_62 rfl rfl ?_
        refine J_aload_n (nx := 64) dX3_shareAt_63 rfl rfl ?_
        refine Jg_58_3 (nx := 67) dX3_shareAt_64 rfl fl_X3_15 ?_
        refine J_iload_n (nx := 68) dX3_shareAt_67 rfl rfl ?_
        refine J_iconst (nx := 69) (i := 1) (v := 1) (by decide) dX3_shareAt_68 rfl ?_
        refine J_iadd (nx := 70) dX3_shareAt_69 rfl ?_
        refine J_bipush (nx := 72) (i := 32) (v := 32) (by decide) dX3_shareAt_70 rfl ?_
        refine J_imul (nx := 73) dX3_shareAt_72 rfl ?_
        refine J_aload_n (nx := 74) dX3_shareAt_73 rfl rfl ?_
        refine Jg_58_5 (nx := 77) dX3_shareAt_74 rfl fl_X3_31 ?_
        refine J_aload_n (nx := 78) dX3_shareAt_77 rfl rfl ?_
        refine Jg_58_4 (nx := 81) dX3_shareAt_78 rfl fl_X3_27 ?_
        refine JcV5 (R' := rm 1 0 0) (nx := 84) dX3_shareAt_81 rfl ml_X9_mix lk_X3_48 iv_X9_mix rfl rfl ⟨(Nat.le_of_ble_eq_true rfl), (Nat.le_of_ble_eq_true rfl)⟩ (Nat.le_of_ble_eq_true rfl) ⟨rfl, rfl⟩ (ct_mix _ 60 352 _ _ _ _ _ rfl (by decide)) ?_
        refine J_goto (nx := 88) dX3_shareAt_84 (by decide) ?_
        exact Jri dX3_shareAt_88 rfl (Nat.zero_le _) (Nat.zero_le _) (RR.i (by unfold shI; first | (rw [if_pos c_11]; first | (rw [if_pos c_32]; first | (rw [if_pos c_52]) | (rw [if_neg c_52])) | (rw [if_neg (fun z => z c_32)])) | (rw [if_neg (fun z => z c_11)])) rfl)
    · refine J_aload_n (nx := 36) dX3_shareAt_35 rfl rfl ?_
      refine Jg_58_2 (nx := 39) dX3_shareAt_36 rfl fl_X3_9 ?_
      refine J_iload (nx := 41) dX3_shareAt_39 rfl rfl ?_
      refine J_bipush (nx := 43) (i := 32) (v := 32) (by decide) dX3_shareAt_41 rfl ?_
      refine J_imul (nx := 44) dX3_shareAt_43 rfl ?_
      refine J_iload_n (nx := 45) dX3_shareAt_44 rfl rfl ?_
      refine J_iadd (nx := 46) dX3_shareAt_45 rfl ?_
      refine JcS2 (R' := rm 0 0 0) (nx := 49) dX3_shareAt_46 rfl ml_X6_at lk_X3_75 st_X6_at ⟨(Nat.le_of_ble_eq_true rfl), (Nat.le_of_ble_eq_true rfl)⟩ (Nat.le_of_ble_eq_true rfl) ⟨rfl, rfl⟩ (ct_at _ 59 1952 _ _ rfl (by decide)) ?_
      exact Jri dX3_shareAt_49 rfl (Nat.zero_le _) (Nat.zero_le _) (RR.i (by unfold shI; first | (rw [if_pos c_11]; first | (rw [if_pos c_32]; first | (rw [if_pos c_52]) | (rw [if_neg c_52])) | (rw [if_neg (fun z => z c_32)])) | (rw [if_neg (fun z => z c_11)])) rfl)
  · refine J_aload_n (nx := 15) dX3_shareAt_14 rfl rfl ?_
    refine Jg_58_4 (nx := 18) dX3_shareAt_15 rfl fl_X3_27 ?_
    exact Jri dX3_shareAt_18 rfl (Nat.zero_le _) (Nat.zero_le _) (RR.i (by unfold shI; first | (rw [if_pos c_11]; first | (rw [if_pos c_32]; first | (rw [if_pos c_52]) | (rw [if_neg c_52])) | (rw [if_neg (fun z => z c_32)])) | (rw [if_neg (fun z => z c_11)])) rfl)

set_option maxRecDepth 100000 in
set_option maxHeartbeats 4000000 in
theorem lp_share_in (j : Nat) (g : GS) (Q : Res → List ME → Prop) (n0 : Nat) (hK : J mX3_share (rm 3 0 0) Q n0 55 [some (.ref 58), some (.int (nI j)), some (.int (nI 32))] [] (Wd (itN (shS j) 32 g)) 0 0) : ∀ (k w : Nat), w ≤ 32 → 32 + 1 ≤ w + k → J mX3_share (rm 3 0 0) Q n0 24 [some (.ref 58), some (.int (nI j)), some (.int (nI w))] [] (Wd (itN (shS j) w g)) 0 0 := by
  intro k
  induction k with
  | zero => intro w h1 h2; exact absurd h2 (by omega)
  | succ k ih =>
    intro w h1 h2
    refine J_iload_n (nx := 25) dX3_share_24 rfl rfl ?_
    refine J_bipush (nx := 27) (i := 32) (v := 32) (by decide) dX3_share_25 rfl ?_
    refine J_icmp_ge (nx := 30) (tgt := 55) dX3_share_27 rfl (by decide) (fun c_27 => ?_) (fun c_27 => ?_)
    · obtain rfl : w = 32 := cge h1 (by omega) c_27
      exact hK
    · have hw : w < 32 := clt h1 (by omega) c_27
      have ih2 := ih (w + 1) (by omega) (by omega)
      rw [← nI_s w, itN_s (shS j) w g] at ih2
      generalize itN (shS j) w g = X at ih2 ⊢
      refine J_aload_n (nx := 31) dX3_share_30 rfl rfl ?_
      refine Jg_58_3 (nx := 34) dX3_share_31 rfl fl_X3_15 ?_
      refine J_iload_n (nx := 35) dX3_share_34 rfl rfl ?_
      refine J_bipush (nx := 37) (i := 32) (v := 32) (by decide) dX3_share_35 rfl ?_
      refine J_imul (nx := 38) dX3_share_37 rfl ?_
      refine J_iload_n (nx := 39) dX3_share_38 rfl rfl ?_
      refine J_iadd (nx := 40) dX3_share_39 rfl ?_
      refine J_aload_n (nx := 41) dX3_share_40 rfl rfl ?_
      refine J_iload_n (nx := 42) dX3_share_41 rfl rfl ?_
      refine J_iload_n (nx := 43) dX3_share_42 rfl rfl ?_
      refine JcV2 (R' := rm 2 0 0) (nx := 46) dX3_share_43 rfl ml_X3_shareAt lk_X3_69 iv_X3_shareAt rfl rfl ⟨(Nat.le_of_ble_eq_true rfl), (Nat.le_of_ble_eq_true rfl)⟩ (Nat.le_of_ble_eq_true rfl) ⟨rfl, rfl⟩ (ct_shareAt _ _ _) ?_
      refine JcS3 (R' := rm 0 0 0) (nx := 49) dX3_share_46 rfl ml_X6_put lk_X3_54 st_X6_put ⟨(Nat.le_of_ble_eq_true rfl), (Nat.le_of_ble_eq_true rfl)⟩ (Nat.le_of_ble_eq_true rfl) ⟨rfl, rfl⟩ (ct_put _ 60 352 _ _ rfl (fun _ => rfl) (by decide)) ?_
      refine J_iinc (nx := 52) dX3_share_49 rfl rfl rfl (Nat.le_of_ble_eq_true rfl) ?_
      refine J_goto (nx := 24) dX3_share_52 (by decide) ?_
      exact ih2

set_option maxRecDepth 100000 in
set_option maxHeartbeats 4000000 in
theorem lp_share_in0 (j : Nat) (g : GS) (Q : Res → List ME → Prop) (n0 : Nat) (hK : J mX3_share (rm 3 0 0) Q n0 55 [some (.ref 58), some (.int (nI j)), some (.int (nI 32))] [] (Wd (itN (shS j) 32 g)) 0 0) : J mX3_share (rm 3 0 0) Q n0 24 [some (.ref 58), some (.int (nI j)), some (.int 0)] [] (Wd g) 0 0 := lp_share_in j g Q n0 hK 33 0 (by omega) (by omega)

set_option maxRecDepth 100000 in
set_option maxHeartbeats 4000000 in
theorem lp_share (n0 : Nat) : ∀ (j : Nat) (g : GS), j < 2 ^ 30 → J mX3_share (rm 3 0 0) (RR (.inl none) (shD j g)) n0 18 [some (.ref 58), some (.int (nI j)), none] [] (Wd g) 0 0 := by
  intro j
  induction j with
  | zero =>
    intro g hj
    refine J_iload_n (nx := 19) dX3_share_18 rfl rfl ?_
    refine J_if_lt (nx := 22) (tgt := 61) dX3_share_19 rfl (by decide) (fun c_19 => ?_) (fun c_19 => ?_)
    · exact absurd c_19 (nI_pos (by omega))
    · refine J_iconst (nx := 23) (i := 0) (v := 0) (by decide) dX3_share_22 rfl ?_
      refine J_istore_n (nx := 24) dX3_share_23 rfl rfl (Nat.le_of_ble_eq_true rfl) ?_
      refine lp_share_in0 0 g _ _ ?_
      refine J.gen (fun g2 hg2 => ?_)
      refine J_iinc (nx := 58) dX3_share_55 rfl rfl rfl (Nat.le_of_ble_eq_true rfl) ?_
      refine J_goto (nx := 18) dX3_share_58 (by decide) ?_
      refine J_iload_n (nx := 19) dX3_share_18 rfl rfl ?_
      refine J_if_lt (nx := 22) (tgt := 61) dX3_share_19 rfl (by decide) (fun c_19 => ?_) (fun c_19 => ?_)
      · exact Jrv dX3_share_61 rfl (Nat.zero_le _) (Nat.zero_le _) ⟨rfl, by rw [shD_0, ← hg2]⟩
      · exact absurd (by decide) c_19
  | succ j ih =>
    intro g hj
    have hj : j < 2 ^ 30 := by omega
    refine J_iload_n (nx := 19) dX3_share_18 rfl rfl ?_
    refine J_if_lt (nx := 22) (tgt := 61) dX3_share_19 rfl (by decide) (fun c_19 => ?_) (fun c_19 => ?_)
    · exact absurd c_19 (nI_pos (by omega))
    · refine J_iconst (nx := 23) (i := 0) (v := 0) (by decide) dX3_share_22 rfl ?_
      refine J_istore_n (nx := 24) dX3_share_23 rfl rfl (Nat.le_of_ble_eq_true rfl) ?_
      refine lp_share_in0 (j + 1) g _ _ ?_
      refine J.gen (fun g2 hg2 => ?_)
      refine J_iinc (nx := 58) dX3_share_55 rfl rfl rfl (Nat.le_of_ble_eq_true rfl) ?_
      refine J_goto (nx := 18) dX3_share_58 (by decide) ?_
      refine J_kill (nx := 0) 2 ?_
      show J _ _ _ _ 18 [some (.ref 58), some (.int (nI (j + 1) + Int32.ofInt (-1))), none] [] _ 0 0
      rw [nI_m, shD_s, ← hg2]
      exact ih g2 hj

theorem mn_nI {a b : Nat} (ha : a < 2 ^ 30) (hb : b < 2 ^ 30) : mnI (nI a) (nI b) = nI (min a b) := by
  unfold mnI
  by_cases h : b < a
  · rw [if_pos (nI_lt h (by omega)), Nat.min_eq_right (by omega)]
  · rw [if_neg (nI_nlt (by omega) (by omega)), Nat.min_eq_left (by omega)]

set_option maxRecDepth 100000 in
set_option maxHeartbeats 4000000 in
theorem ct_share (g : GS) (G T : Nat) (hG : gF g 40 12 = nI G) (hT : gF g 20 13 = nI T) (hG2 : G < 2 ^ 30) (hT2 : T < 2 ^ 30) : Ct mX3_share (rm 3 0 0) [.ref 58] (Wd g) (RR (.inl none) (shD (min G T) g)) := by
  refine Ct.of (by decide +kernel) (Nat.le_of_ble_eq_true rfl) ?_
  show J _ _ _ _ 0 [some (.ref 58), none, none] [] _ 0 0
  refine J_aload_n (nx := 1) dX3_share_0 rfl rfl ?_
  refine Jg_58_1 (nx := 4) dX3_share_1 rfl fl_X3_22 ?_
  refine Jg_40_12 (nx := 7) dX3_share_4 rfl fl_X3_60 ?_
  refine J_aload_n (nx := 8) dX3_share_7 rfl rfl ?_
  refine Jg_58_0 (nx := 11) dX3_share_8 rfl fl_X3_18 ?_
  refine Jg_20_13 (nx := 14) dX3_share_11 rfl fl_X3_37 ?_
  refine JcS2 (R' := rm 0 0 0) (nx := 17) dX3_share_14 rfl ml_J9_min_7cf53 lk_X3_63 st_J9_min_7cf53 ⟨(Nat.le_of_ble_eq_true rfl), (Nat.le_of_ble_eq_true rfl)⟩ (Nat.le_of_ble_eq_true rfl) ⟨rfl, rfl⟩ (ct_min _ _ _) ?_
  rw [show mnI (gF g 40 12) (gF g 20 13) = nI (min G T) from by rw [hG, hT]; exact mn_nI hG2 hT2]
  refine J_istore_n (nx := 18) dX3_share_17 rfl rfl (Nat.le_of_ble_eq_true rfl) ?_
  exact lp_share _ (min G T) g (by omega)

set_option maxRecDepth 100000 in
set_option maxHeartbeats 4000000 in
theorem lp_ask_in (t : Nat) (g : GS) (m : Int32) (Q : Res → List ME → Prop) (n0 : Nat) (hK : J mX3_ask (rm 2 0 0) Q n0 117 [some (.ref 58), some (.int m), some (.int (nI t)), some (.int (nI 32)), none] [] (Wd (itN (akS t) 32 g)) 0 0) : ∀ (k w : Nat), w ≤ 32 → 32 + 1 ≤ w + k → J mX3_ask (rm 2 0 0) Q n0 59 [some (.ref 58), some (.int m), some (.int (nI t)), some (.int (nI w)), none] [] (Wd (itN (akS t) w g)) 0 0 := by
  intro k
  induction k with
  | zero => intro w h1 h2; exact absurd h2 (by omega)
  | succ k ih =>
    intro w h1 h2
    refine J_iload_n (nx := 60) dX3_ask_59 rfl rfl ?_
    refine J_bipush (nx := 62) (i := 32) (v := 32) (by decide) dX3_ask_60 rfl ?_
    refine J_icmp_ge (nx := 65) (tgt := 117) dX3_ask_62 rfl (by decide) (fun c_62 => ?_) (fun c_62 => ?_)
    · obtain rfl : w = 32 := cge h1 (by omega) c_62
      exact hK
    · have hw : w < 32 := clt h1 (by omega) c_62
      have ih2 := ih (w + 1) (by omega) (by omega)
      rw [← nI_s w, itN_s (akS t) w g] at ih2
      generalize itN (akS t) w g = X at ih2 ⊢
      refine J_aload_n (nx := 66) dX3_ask_65 rfl rfl ?_
      refine Jg_58_1 (nx := 69) dX3_ask_66 rfl fl_X3_22 ?_
      refine Jg_40_1 (nx := 72) dX3_ask_69 rfl fl_X3_42 ?_
      refine J_iload_n (nx := 73) dX3_ask_72 rfl rfl ?_
      refine J_aload_n (nx := 74) dX3_ask_73 rfl rfl ?_
      refine Jg_58_2 (nx := 77) dX3_ask_74 rfl fl_X3_9 ?_
      refine J_iload_n (nx := 78) dX3_ask_77 rfl rfl ?_
      refine J_iconst (nx := 79) (i := 1) (v := 1) (by decide) dX3_ask_78 rfl ?_
      refine J_isub (nx := 80) dX3_ask_79 rfl ?_
      refine J_bipush (nx := 82) (i := 32) (v := 32) (by decide) dX3_ask_80 rfl ?_
      refine J_imul (nx := 83) dX3_ask_82 rfl ?_
      refine J_aload_n (nx := 84) dX3_ask_83 rfl rfl ?_
      refine Jg_58_5 (nx := 87) dX3_ask_84 rfl fl_X3_31 ?_
      refine J_aload_n (nx := 88) dX3_ask_87 rfl rfl ?_
      refine Jg_58_6 (nx := 91) dX3_ask_88 rfl fl_X3_34 ?_
      refine JcV5 (R' := rm 1 0 0) (nx := 94) dX3_ask_91 rfl ml_X9_mix lk_X3_48 iv_X9_mix rfl rfl ⟨(Nat.le_of_ble_eq_true rfl), (Nat.le_of_ble_eq_true rfl)⟩ (Nat.le_of_ble_eq_true rfl) ⟨rfl, rfl⟩ (ct_mix _ 59 1952 _ _ _ _ _ rfl (by decide)) ?_
      refine J_istore (nx := 96) dX3_ask_94 rfl rfl (Nat.le_of_ble_eq_true rfl) ?_
      refine J_aload_n (nx := 97) dX3_ask_96 rfl rfl ?_
      refine Jg_58_2 (nx := 100) dX3_ask_97 rfl fl_X3_9 ?_
      refine J_iload_n (nx := 101) dX3_ask_100 rfl rfl ?_
      refine J_bipush (nx := 103) (i := 32) (v := 32) (by decide) dX3_ask_101 rfl ?_
      refine J_imul (nx := 104) dX3_ask_103 rfl ?_
      refine J_iload_n (nx := 105) dX3_ask_104 rfl rfl ?_
      refine J_iadd (nx := 106) dX3_ask_105 rfl ?_
      refine J_iload (nx := 108) dX3_ask_106 rfl rfl ?_
      refine JcS3 (R' := rm 0 0 0) (nx := 111) dX3_ask_108 rfl ml_X6_put lk_X3_54 st_X6_put ⟨(Nat.le_of_ble_eq_true rfl), (Nat.le_of_ble_eq_true rfl)⟩ (Nat.le_of_ble_eq_true rfl) ⟨rfl, rfl⟩ (ct_put _ 59 1952 _ _ rfl (fun _ => rfl) (by decide)) ?_
      refine J_iinc (nx := 114) dX3_ask_111 rfl rfl rfl (Nat.le_of_ble_eq_true rfl) ?_
      refine J_goto (nx := 59) dX3_ask_114 (by decide) ?_
      refine J_kill (nx := 0) 4 ?_
      exact ih2

set_option maxRecDepth 100000 in
set_option maxHeartbeats 4000000 in
theorem lp_ask_in0 (t : Nat) (g : GS) (m : Int32) (Q : Res → List ME → Prop) (n0 : Nat) (hK : J mX3_ask (rm 2 0 0) Q n0 117 [some (.ref 58), some (.int m), some (.int (nI t)), some (.int (nI 32)), none] [] (Wd (itN (akS t) 32 g)) 0 0) : J mX3_ask (rm 2 0 0) Q n0 59 [some (.ref 58), some (.int m), some (.int (nI t)), some (.int 0), none] [] (Wd g) 0 0 := lp_ask_in t g m Q n0 hK 33 0 (by omega) (by omega)

set_option maxRecDepth 100000 in
set_option maxHeartbeats 4000000 in
theorem lp_ask (T : Nat) (hT : T < 2 ^ 30) (g : GS) (m : Int32) (hg : gF g 20 13 = nI T) (Q : Res → List ME → Prop) (n0 : Nat) (hK : J mX3_ask (rm 2 0 0) Q n0 123 [some (.ref 58), some (.int m), some (.int (nI (T + 1))), none, none] [] (Wd (itN akT T g)) 0 0) : ∀ (k i : Nat), i ≤ T → T + 1 ≤ i + k → J mX3_ask (rm 2 0 0) Q n0 46 [some (.ref 58), some (.int m), some (.int (nI (i + 1))), none, none] [] (Wd (itN akT i g)) 0 0 := by
  intro k
  induction k with
  | zero => intro i h1 h2; exact absurd h2 (by omega)
  | succ k ih =>
    intro i h1 h2
    have hX : gF (itN akT i g) 20 13 = nI T := by rw [akT_F]; exact hg
    refine J_iload_n (nx := 47) dX3_ask_46 rfl rfl ?_
    refine J_aload_n (nx := 48) dX3_ask_47 rfl rfl ?_
    refine Jg_58_0 (nx := 51) dX3_ask_48 rfl fl_X3_18 ?_
    refine Jg_20_13 (nx := 54) dX3_ask_51 rfl fl_X3_37 ?_
    refine J_icmp_gt (nx := 57) (tgt := 123) dX3_ask_54 rfl (by decide) (fun c_54 => ?_) (fun c_54 => ?_)
    · rw [hX] at c_54
      obtain rfl : i = T := by have := (nI_ltI (by omega) (by omega)).mp c_54; omega
      exact hK
    · rw [hX] at c_54
      have hi : i < T := by
        rcases Nat.lt_or_ge i T with h | h
        · exact h
        · exact absurd ((nI_ltI (by omega) (by omega)).mpr (show T < i + 1 by omega)) c_54
      have ih2 := ih (i + 1) (by omega) (by omega)
      rw [itN_s akT i g, ← nI_s (i + 1)] at ih2
      generalize itN akT i g = Y at ih2 ⊢
      rw [akT_e] at ih2
      refine J_iconst (nx := 58) (i := 0) (v := 0) (by decide) dX3_ask_57 rfl ?_
      refine J_istore_n (nx := 59) dX3_ask_58 rfl rfl (Nat.le_of_ble_eq_true rfl) ?_
      refine lp_ask_in0 (i + 1) _ m _ _ ?_
      generalize itN (akS (i + 1)) 32 Y = X at ih2 ⊢
      refine J_iinc (nx := 120) dX3_ask_117 rfl rfl rfl (Nat.le_of_ble_eq_true rfl) ?_
      refine J_goto (nx := 46) dX3_ask_120 (by decide) ?_
      refine J_kill (nx := 0) 3 ?_
      exact ih2
theorem lp_ask0 (T : Nat) (hT : T < 2 ^ 30) (g : GS) (m : Int32) (hg : gF g 20 13 = nI T) (Q : Res → List ME → Prop) (n0 : Nat) (hK : J mX3_ask (rm 2 0 0) Q n0 123 [some (.ref 58), some (.int m), some (.int (nI (T + 1))), none, none] [] (Wd (itN akT T g)) 0 0) : J mX3_ask (rm 2 0 0) Q n0 46 [some (.ref 58), some (.int m), some (.int 1), none, none] [] (Wd g) 0 0 := lp_ask T hT g m hg Q n0 hK (T + 1) 0 (by omega) (by omega)

set_option maxRecDepth 100000 in
set_option maxHeartbeats 4000000 in
theorem ct_ask (g : GS) (m : Int32) (T : Nat) (hT : gF g 20 13 = nI T) (hT2 : T < 2 ^ 30) : Ct mX3_ask (rm 2 0 0) [.ref 58, .int m] (Wd g) (RR (.inl none) (akAll g m T)) := by
  refine Ct.of (by decide +kernel) (Nat.le_of_ble_eq_true rfl) ?_
  show J _ _ _ _ 0 [some (.ref 58), some (.int m), none, none, none] [] _ 0 0
  refine J_aload_n (nx := 1) dX3_ask_0 rfl rfl ?_
  refine J_iload_n (nx := 2) dX3_ask_1 rfl rfl ?_
  refine J_if_ne (nx := 5) (tgt := 10) dX3_ask_2 rfl (by decide) (fun c_2 => ?_) (fun c_2 => ?_)
  · refine J_iconst (nx := 11) (i := 0) (v := 0) (by decide) dX3_ask_10 rfl ?_
    refine Jp_58_4 (nx := 14) dX3_ask_11 rfl fl_X3_27 ?_
    refine J.gen (fun g_11 hg_11 => ?_)
    refine J_aload_n (nx := 15) dX3_ask_14 rfl rfl ?_
    refine J_iload_n (nx := 16) dX3_ask_15 rfl rfl ?_
    refine J_iconst (nx := 17) (i := 1) (v := 1) (by decide) dX3_ask_16 rfl ?_
    refine J_icmp_ne (nx := 20) (tgt := 25) dX3_ask_17 rfl (by decide) (fun c_17 => ?_) (fun c_17 => ?_)
    · refine J_iconst (nx := 26) (i := 0) (v := 0) (by decide) dX3_ask_25 rfl ?_
      refine Jp_58_5 (nx := 29) dX3_ask_26 rfl fl_X3_31 ?_
      refine J.gen (fun g_26 hg_26 => ?_)
      refine J_aload_n (nx := 30) dX3_ask_29 rfl rfl ?_
      refine J_iload_n (nx := 31) dX3_ask_30 rfl rfl ?_
      refine J_iconst (nx := 32) (i := 2) (v := 2) (by decide) dX3_ask_31 rfl ?_
      refine J_icmp_ne (nx := 35) (tgt := 40) dX3_ask_32 rfl (by decide) (fun c_32 => ?_) (fun c_32 => ?_)
      · refine J_iconst (nx := 41) (i := 0) (v := 0) (by decide) dX3_ask_40 rfl ?_
        refine Jp_58_6 (nx := 44) dX3_ask_41 rfl fl_X3_34 ?_
        refine J.gen (fun g_41 hg_41 => ?_)
        refine J_iconst (nx := 45) (i := 1) (v := 1) (by decide) dX3_ask_44 rfl ?_
        refine J_istore_n (nx := 46) dX3_ask_45 rfl rfl (Nat.le_of_ble_eq_true rfl) ?_
        have e1 : ak1 g m = g_11 := by unfold ak1; first | rw [if_pos c_2, hg_11] | rw [if_neg (fun z => z c_2), hg_11]
        have e2 : ak2 g_11 m = g_26 := by unfold ak2; first | rw [if_pos c_17, hg_26] | rw [if_neg (fun z => z c_17), hg_26]
        have e3 : ak3 g_26 m = g_41 := by unfold ak3; first | rw [if_pos c_32, hg_41] | rw [if_neg (fun z => z c_32), hg_41]
        unfold akAll
        rw [e1, e2, e3]
        refine lp_ask0 T hT2 g_41 m (by rw [hg_41, hg_26, hg_11]; exact hT) _ _ ?_
        generalize itN akT T g_41 = Y
        exact Jrv dX3_ask_123 rfl (Nat.zero_le _) (Nat.zero_le _) ⟨rfl, rfl⟩
      · refine J_ldc (nx := 37) cn_X3_26 dX3_ask_35 rfl ?_
        refine J_goto (nx := 41) dX3_ask_37 (by decide) ?_
        refine Jp_58_6 (nx := 44) dX3_ask_41 rfl fl_X3_34 ?_
        refine J.gen (fun g_41 hg_41 => ?_)
        refine J_iconst (nx := 45) (i := 1) (v := 1) (by decide) dX3_ask_44 rfl ?_
        refine J_istore_n (nx := 46) dX3_ask_45 rfl rfl (Nat.le_of_ble_eq_true rfl) ?_
        have e1 : ak1 g m = g_11 := by unfold ak1; first | rw [if_pos c_2, hg_11] | rw [if_neg (fun z => z c_2), hg_11]
        have e2 : ak2 g_11 m = g_26 := by unfold ak2; first | rw [if_pos c_17, hg_26] | rw [if_neg (fun z => z c_17), hg_26]
        have e3 : ak3 g_26 m = g_41 := by unfold ak3; first | rw [if_pos c_32, hg_41] | rw [if_neg (fun z => z c_32), hg_41]
        unfold akAll
        rw [e1, e2, e3]
        refine lp_ask0 T hT2 g_41 m (by rw [hg_41, hg_26, hg_11]; exact hT) _ _ ?_
        generalize itN akT T g_41 = Y
        exact Jrv dX3_ask_123 rfl (Nat.zero_le _) (Nat.zero_le _) ⟨rfl, rfl⟩
    · refine J_ldc (nx := 22) cn_X3_26 dX3_ask_20 rfl ?_
      refine J_goto (nx := 26) dX3_ask_22 (by decide) ?_
      refine Jp_58_5 (nx := 29) dX3_ask_26 rfl fl_X3_31 ?_
      refine J.gen (fun g_26 hg_26 => ?_)
      refine J_aload_n (nx := 30) dX3_ask_29 rfl rfl ?_
      refine J_iload_n (nx := 31) dX3_ask_30 rfl rfl ?_
      refine J_iconst (nx := 32) (i := 2) (v := 2) (by decide) dX3_ask_31 rfl ?_
      refine J_icmp_ne (nx := 35) (tgt := 40) dX3_ask_32 rfl (by decide) (fun c_32 => ?_) (fun c_32 => ?_)
      · refine J_iconst (nx := 41) (i := 0) (v := 0) (by decide) dX3_ask_40 rfl ?_
        refine Jp_58_6 (nx := 44) dX3_ask_41 rfl fl_X3_34 ?_
        refine J.gen (fun g_41 hg_41 => ?_)
        refine J_iconst (nx := 45) (i := 1) (v := 1) (by decide) dX3_ask_44 rfl ?_
        refine J_istore_n (nx := 46) dX3_ask_45 rfl rfl (Nat.le_of_ble_eq_true rfl) ?_
        have e1 : ak1 g m = g_11 := by unfold ak1; first | rw [if_pos c_2, hg_11] | rw [if_neg (fun z => z c_2), hg_11]
        have e2 : ak2 g_11 m = g_26 := by unfold ak2; first | rw [if_pos c_17, hg_26] | rw [if_neg (fun z => z c_17), hg_26]
        have e3 : ak3 g_26 m = g_41 := by unfold ak3; first | rw [if_pos c_32, hg_41] | rw [if_neg (fun z => z c_32), hg_41]
        unfold akAll
        rw [e1, e2, e3]
        refine lp_ask0 T hT2 g_41 m (by rw [hg_41, hg_26, hg_11]; exact hT) _ _ ?_
        generalize itN akT T g_41 = Y
        exact Jrv dX3_ask_123 rfl (Nat.zero_le _) (Nat.zero_le _) ⟨rfl, rfl⟩
      · refine J_ldc (nx := 37) cn_X3_26 dX3_ask_35 rfl ?_
        refine J_goto (nx := 41) dX3_ask_37 (by decide) ?_
        refine Jp_58_6 (nx := 44) dX3_ask_41 rfl fl_X3_34 ?_
        refine J.gen (fun g_41 hg_41 => ?_)
        refine J_iconst (nx := 45) (i := 1) (v := 1) (by decide) dX3_ask_44 rfl ?_
        refine J_istore_n (nx := 46) dX3_ask_45 rfl rfl (Nat.le_of_ble_eq_true rfl) ?_
        have e1 : ak1 g m = g_11 := by unfold ak1; first | rw [if_pos c_2, hg_11] | rw [if_neg (fun z => z c_2), hg_11]
        have e2 : ak2 g_11 m = g_26 := by unfold ak2; first | rw [if_pos c_17, hg_26] | rw [if_neg (fun z => z c_17), hg_26]
        have e3 : ak3 g_26 m = g_41 := by unfold ak3; first | rw [if_pos c_32, hg_41] | rw [if_neg (fun z => z c_32), hg_41]
        unfold akAll
        rw [e1, e2, e3]
        refine lp_ask0 T hT2 g_41 m (by rw [hg_41, hg_26, hg_11]; exact hT) _ _ ?_
        generalize itN akT T g_41 = Y
        exact Jrv dX3_ask_123 rfl (Nat.zero_le _) (Nat.zero_le _) ⟨rfl, rfl⟩
  · refine J_ldc (nx := 7) cn_X3_26 dX3_ask_5 rfl ?_
    refine J_goto (nx := 11) dX3_ask_7 (by decide) ?_
    refine Jp_58_4 (nx := 14) dX3_ask_11 rfl fl_X3_27 ?_
    refine J.gen (fun g_11 hg_11 => ?_)
    refine J_aload_n (nx := 15) dX3_ask_14 rfl rfl ?_
    refine J_iload_n (nx := 16) dX3_ask_15 rfl rfl ?_
    refine J_iconst (nx := 17) (i := 1) (v := 1) (by decide) dX3_ask_16 rfl ?_
    refine J_icmp_ne (nx := 20) (tgt := 25) dX3_ask_17 rfl (by decide) (fun c_17 => ?_) (fun c_17 => ?_)
    · refine J_iconst (nx := 26) (i := 0) (v := 0) (by decide) dX3_ask_25 rfl ?_
      refine Jp_58_5 (nx := 29) dX3_ask_26 rfl fl_X3_31 ?_
      refine J.gen (fun g_26 hg_26 => ?_)
      refine J_aload_n (nx := 30) dX3_ask_29 rfl rfl ?_
      refine J_iload_n (nx := 31) dX3_ask_30 rfl rfl ?_
      refine J_iconst (nx := 32) (i := 2) (v := 2) (by decide) dX3_ask_31 rfl ?_
      refine J_icmp_ne (nx := 35) (tgt := 40) dX3_ask_32 rfl (by decide) (fun c_32 => ?_) (fun c_32 => ?_)
      · refine J_iconst (nx := 41) (i := 0) (v := 0) (by decide) dX3_ask_40 rfl ?_
        refine Jp_58_6 (nx := 44) dX3_ask_41 rfl fl_X3_34 ?_
        refine J.gen (fun g_41 hg_41 => ?_)
        refine J_iconst (nx := 45) (i := 1) (v := 1) (by decide) dX3_ask_44 rfl ?_
        refine J_istore_n (nx := 46) dX3_ask_45 rfl rfl (Nat.le_of_ble_eq_true rfl) ?_
        have e1 : ak1 g m = g_11 := by unfold ak1; first | rw [if_pos c_2, hg_11] | rw [if_neg (fun z => z c_2), hg_11]
        have e2 : ak2 g_11 m = g_26 := by unfold ak2; first | rw [if_pos c_17, hg_26] | rw [if_neg (fun z => z c_17), hg_26]
        have e3 : ak3 g_26 m = g_41 := by unfold ak3; first | rw [if_pos c_32, hg_41] | rw [if_neg (fun z => z c_32), hg_41]
        unfold akAll
        rw [e1, e2, e3]
        refine lp_ask0 T hT2 g_41 m (by rw [hg_41, hg_26, hg_11]; exact hT) _ _ ?_
        generalize itN akT T g_41 = Y
        exact Jrv dX3_ask_123 rfl (Nat.zero_le _) (Nat.zero_le _) ⟨rfl, rfl⟩
      · refine J_ldc (nx := 37) cn_X3_26 dX3_ask_35 rfl ?_
        refine J_goto (nx := 41) dX3_ask_37 (by decide) ?_
        refine Jp_58_6 (nx := 44) dX3_ask_41 rfl fl_X3_34 ?_
        refine J.gen (fun g_41 hg_41 => ?_)
        refine J_iconst (nx := 45) (i := 1) (v := 1) (by decide) dX3_ask_44 rfl ?_
        refine J_istore_n (nx := 46) dX3_ask_45 rfl rfl (Nat.le_of_ble_eq_true rfl) ?_
        have e1 : ak1 g m = g_11 := by unfold ak1; first | rw [if_pos c_2, hg_11] | rw [if_neg (fun z => z c_2), hg_11]
        have e2 : ak2 g_11 m = g_26 := by unfold ak2; first | rw [if_pos c_17, hg_26] | rw [if_neg (fun z => z c_17), hg_26]
        have e3 : ak3 g_26 m = g_41 := by unfold ak3; first | rw [if_pos c_32, hg_41] | rw [if_neg (fun z => z c_32), hg_41]
        unfold akAll
        rw [e1, e2, e3]
        refine lp_ask0 T hT2 g_41 m (by rw [hg_41, hg_26, hg_11]; exact hT) _ _ ?_
        generalize itN akT T g_41 = Y
        exact Jrv dX3_ask_123 rfl (Nat.zero_le _) (Nat.zero_le _) ⟨rfl, rfl⟩
    · refine J_ldc (nx := 22) cn_X3_26 dX3_ask_20 rfl ?_
      refine J_goto (nx := 26) dX3_ask_22 (by decide) ?_
      refine Jp_58_5 (nx := 29) dX3_ask_26 rfl fl_X3_31 ?_
      refine J.gen (fun g_26 hg_26 => ?_)
      refine J_aload_n (nx := 30) dX3_ask_29 rfl rfl ?_
      refine J_iload_n (nx := 31) dX3_ask_30 rfl rfl ?_
      refine J_iconst (nx := 32) (i := 2) (v := 2) (by decide) dX3_ask_31 rfl ?_
      refine J_icmp_ne (nx := 35) (tgt := 40) dX3_ask_32 rfl (by decide) (fun c_32 => ?_) (fun c_32 => ?_)
      · refine J_iconst (nx := 41) (i := 0) (v := 0) (by decide) dX3_ask_40 rfl ?_
        refine Jp_58_6 (nx := 44) dX3_ask_41 rfl fl_X3_34 ?_
        refine J.gen (fun g_41 hg_41 => ?_)
        refine J_iconst (nx := 45) (i := 1) (v := 1) (by decide) dX3_ask_44 rfl ?_
        refine J_istore_n (nx := 46) dX3_ask_45 rfl rfl (Nat.le_of_ble_eq_true rfl) ?_
        have e1 : ak1 g m = g_11 := by unfold ak1; first | rw [if_pos c_2, hg_11] | rw [if_neg (fun z => z c_2), hg_11]
        have e2 : ak2 g_11 m = g_26 := by unfold ak2; first | rw [if_pos c_17, hg_26] | rw [if_neg (fun z => z c_17), hg_26]
        have e3 : ak3 g_26 m = g_41 := by unfold ak3; first | rw [if_pos c_32, hg_41] | rw [if_neg (fun z => z c_32), hg_41]
        unfold akAll
        rw [e1, e2, e3]
        refine lp_ask0 T hT2 g_41 m (by rw [hg_41, hg_26, hg_11]; exact hT) _ _ ?_
        generalize itN akT T g_41 = Y
        exact Jrv dX3_ask_123 rfl (Nat.zero_le _) (Nat.zero_le _) ⟨rfl, rfl⟩
      · refine J_ldc (nx := 37) cn_X3_26 dX3_ask_35 rfl ?_
        refine J_goto (nx := 41) dX3_ask_37 (by decide) ?_
        refine Jp_58_6 (nx := 44) dX3_ask_41 rfl fl_X3_34 ?_
        refine J.gen (fun g_41 hg_41 => ?_)
        refine J_iconst (nx := 45) (i := 1) (v := 1) (by decide) dX3_ask_44 rfl ?_
        refine J_istore_n (nx := 46) dX3_ask_45 rfl rfl (Nat.le_of_ble_eq_true rfl) ?_
        have e1 : ak1 g m = g_11 := by unfold ak1; first | rw [if_pos c_2, hg_11] | rw [if_neg (fun z => z c_2), hg_11]
        have e2 : ak2 g_11 m = g_26 := by unfold ak2; first | rw [if_pos c_17, hg_26] | rw [if_neg (fun z => z c_17), hg_26]
        have e3 : ak3 g_26 m = g_41 := by unfold ak3; first | rw [if_pos c_32, hg_41] | rw [if_neg (fun z => z c_32), hg_41]
        unfold akAll
        rw [e1, e2, e3]
        refine lp_ask0 T hT2 g_41 m (by rw [hg_41, hg_26, hg_11]; exact hT) _ _ ?_
        generalize itN akT T g_41 = Y
        exact Jrv dX3_ask_123 rfl (Nat.zero_le _) (Nat.zero_le _) ⟨rfl, rfl⟩

