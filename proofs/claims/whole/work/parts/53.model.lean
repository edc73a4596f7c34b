
/-! whole numbers that are Nats -/
theorem nIc (k : Nat) : (OfNat.ofNat k : Int32) = nI k := rfl
theorem nIa {x y : Int32} {a b : Nat} (h1 : x = nI a) (h2 : y = nI b) : x + y = nI (a + b) := by rw [h1, h2, nI_add]
theorem nIm {x y : Int32} {a b : Nat} (h1 : x = nI a) (h2 : y = nI b) : x * y = nI (a * b) := by rw [h1, h2, nI_mul]
theorem nIs {x y : Int32} {a b : Nat} (h : b ≤ a) (h1 : x = nI a) (h2 : y = nI b) : x - y = nI (a - b) := by rw [h1, h2, nI_sub h]
theorem nId {x y : Int32} {a b : Nat} (ha : a < 2 ^ 31) (hb : b < 2 ^ 31) (h1 : x = nI a) (h2 : y = nI b) : x / y = nI (a / b) := by
  rw [h1, h2]
  apply Int32.toInt_inj.mp
  have h3 : a / b ≤ a := Nat.div_le_self a b
  have e : Int.tdiv (a : Int) (b : Int) = ((a / b : Nat) : Int) := by
    rw [Int.tdiv_eq_ediv_of_nonneg (Int.natCast_nonneg a)]; rfl
  rw [Int32.toInt_div, nI_toInt ha, nI_toInt hb, nI_toInt (by omega), e, Int.bmod_def]
  clear e
  generalize a / b = q at h3 ⊢
  omega
theorem nIr {x y : Int32} {a b : Nat} (ha : a < 2 ^ 31) (hb : b < 2 ^ 31) (h1 : x = nI a) (h2 : y = nI b) : x - x / y * y = nI (a % b) := by
  rw [nId ha hb h1 h2, h1, h2, nI_mul, nI_sub (by rw [Nat.mul_comm]; exact Nat.mul_div_le a b)]
  congr 1
  have := Nat.div_add_mod a b
  rw [Nat.mul_comm] at this
  omega
theorem clE {x : Int32} {n : Nat} (h : x = nI n) (hn : n < 2 ^ 31) : x.toNatClampNeg = n := by rw [h, nI_clamp hn]
theorem vpE {x : Int32} {n N : Nat} (h : x = nI n) (hn : n < N) (hN : N < 2 ^ 31) : vp_in x N := by rw [h]; exact vp_in_nI hn hN
/-! the Model: what it asks for -/
def fIn (v lo hi : Int32) : Bool := if v < lo then false else if hi < v then false else true
/-- the conditions one behind the other; the first that fails is told by its number -/
def mxV {α : Type} : List (Bool × Int32) → α → α → α
  | [], v, _ => v
  | (b, _) :: t, v, z => bif b then mxV t v z else z
def mxG : List (Bool × Int32) → GS → GS → GS
  | [], gk, _ => gk
  | (b, c) :: t, gk, g0 => bif b then mxG t gk g0 else sF g0 63 0 c
theorem bI_not0 {b : Bool} : bI (!b) = 0 ↔ b = true := by cases b <;> decide
theorem bI_notn {b : Bool} : ¬ bI (!b) = 0 ↔ b = false := by cases b <;> decide

set_option maxRecDepth 100000 in
set_option maxHeartbeats 4000000 in
theorem ct_m_thrown (g : GS) : Ct mX12_thrown (rm 0 0 0) [.ref 63] (Wd g) (RR (.inl (some (.int (gF g 63 0)))) g) := by
  refine Ct.of (by decide +kernel) (Nat.le_of_ble_eq_true rfl) ?_
  show J _ _ _ _ 0 [some (.ref 63)] [] _ 0 0
  refine J_aload_n (nx := 1) dX12_thrown_0 rfl rfl ?_
  refine Jg_63_0 (nx := 4) dX12_thrown_1 rfl fl_X12_3 ?_
  exact Jri dX12_thrown_4 rfl (Nat.zero_le _) (Nat.zero_le _) ⟨rfl, rfl⟩

set_option maxRecDepth 100000 in
set_option maxHeartbeats 4000000 in
theorem ct_m_throwsIf (g : GS) (b : Bool) (c : Int32) : Ct mX12_throwsIf (rm 0 0 0) [.ref 63, .int (bI b), .int c] (Wd g) (RR (.inl (some (.int (bI b)))) (bif b then sF g 63 0 c else g)) := by
  refine Ct.of (by decide +kernel) (Nat.le_of_ble_eq_true rfl) ?_
  show J _ _ _ _ 0 [some (.ref 63), some (.int (bI b)), some (.int c)] [] _ 0 0
  refine J_iload_n (nx := 1) dX12_throwsIf_0 rfl rfl ?_
  refine J_if_eq (nx := 4) (tgt := 9) dX12_throwsIf_1 rfl (by decide) (fun c_1 => ?_) (fun c_1 => ?_)
  · refine J_iload_n (nx := 10) dX12_throwsIf_9 rfl rfl ?_
    exact Jrz dX12_throwsIf_10 rfl (bI_nar _) (Nat.zero_le _) (Nat.zero_le _) ⟨rfl, by first | (rw [bI_0.mp c_1]; rfl) | (rw [bI_n0.mp c_1]; rfl)⟩
  · refine J_aload_n (nx := 5) dX12_throwsIf_4 rfl rfl ?_
    refine J_iload_n (nx := 6) dX12_throwsIf_5 rfl rfl ?_
    refine Jp_63_0 (nx := 9) dX12_throwsIf_6 rfl fl_X12_3 ?_
    refine J_iload_n (nx := 10) dX12_throwsIf_9 rfl rfl ?_
    exact Jrz dX12_throwsIf_10 rfl (bI_nar _) (Nat.zero_le _) (Nat.zero_le _) ⟨rfl, by first | (rw [bI_0.mp c_1]; rfl) | (rw [bI_n0.mp c_1]; rfl)⟩

set_option maxRecDepth 100000 in
set_option maxHeartbeats 4000000 in
theorem ct_m_in (g : GS) (v lo hi : Int32) : Ct mX12_in (rm 0 0 0) [.int v, .int lo, .int hi] (Wd g) (RR (.inl (some (.int (bI (fIn v lo hi))))) g) := by
  refine Ct.of (by decide +kernel) (Nat.le_of_ble_eq_true rfl) ?_
  show J _ _ _ _ 0 [some (.int v), some (.int lo), some (.int hi)] [] _ 0 0
  refine J_iload_n (nx := 1) dX12_in_0 rfl rfl ?_
  refine J_iload_n (nx := 2) dX12_in_1 rfl rfl ?_
  refine J_icmp_lt (nx := 5) (tgt := 14) dX12_in_2 rfl (by decide) (fun c_2 => ?_) (fun c_2 => ?_)
  · refine J_iconst (nx := 15) (i := 0) (v := 0) (by decide) dX12_in_14 rfl ?_
    exact Jrz dX12_in_15 rfl (by decide) (Nat.zero_le _) (Nat.zero_le _) (RR.i (show _ = bI (fIn v lo hi) from by unfold fIn; first | (rw [if_pos c_2]; rfl) | (rw [if_neg c_2, if_pos c_7]; rfl) | (rw [if_neg c_2, if_neg c_7]; rfl)) rfl)
  · refine J_iload_n (nx := 6) dX12_in_5 rfl rfl ?_
    refine J_iload_n (nx := 7) dX12_in_6 rfl rfl ?_
    refine J_icmp_gt (nx := 10) (tgt := 14) dX12_in_7 rfl (by decide) (fun c_7 => ?_) (fun c_7 => ?_)
    · refine J_iconst (nx := 15) (i := 0) (v := 0) (by decide) dX12_in_14 rfl ?_
      exact Jrz dX12_in_15 rfl (by decide) (Nat.zero_le _) (Nat.zero_le _) (RR.i (show _ = bI (fIn v lo hi) from by unfold fIn; first | (rw [if_pos c_2]; rfl) | (rw [if_neg c_2, if_pos c_7]; rfl) | (rw [if_neg c_2, if_neg c_7]; rfl)) rfl)
    · refine J_iconst (nx := 11) (i := 1) (v := 1) (by decide) dX12_in_10 rfl ?_
      refine J_goto (nx := 15) dX12_in_11 (by decide) ?_
      exact Jrz dX12_in_15 rfl (by decide) (Nat.zero_le _) (Nat.zero_le _) (RR.i (show _ = bI (fIn v lo hi) from by unfold fIn; first | (rw [if_pos c_2]; rfl) | (rw [if_neg c_2, if_pos c_7]; rfl) | (rw [if_neg c_2, if_neg c_7]; rfl)) rfl)

set_option maxRecDepth 100000 in
set_option maxHeartbeats 4000000 in
theorem ct_m_noState (g : GS) (s : Int32) : Ct mX12_noState (rm 1 0 0) [.int s] (Wd g) (RR (.inl (some (.int (bI (!(fIn s 0 31)))))) g) := by
  refine Ct.of (by decide +kernel) (Nat.le_of_ble_eq_true rfl) ?_
  show J _ _ _ _ 0 [some (.int s)] [] _ 0 0
  refine J_iload_n (nx := 1) dX12_noState_0 rfl rfl ?_
  refine J_iconst (nx := 2) (i := 0) (v := 0) (by decide) dX12_noState_1 rfl ?_
  refine J_bipush (nx := 4) (i := 31) (v := 31) (by decide) dX12_noState_2 rfl ?_
  refine JcS3 (R' := rm (0) 0 0) (nx := 7) dX12_noState_4 rfl ml_X12_in lk_X12_77 st_X12_in ⟨(Nat.le_of_ble_eq_true rfl), (Nat.le_of_ble_eq_true rfl)⟩ (Nat.le_of_ble_eq_true rfl) ⟨rfl, rfl⟩ (ct_m_in _ _ _ _) ?_
  refine J_if_ne (nx := 10) (tgt := 14) dX12_noState_7 rfl (by decide) (fun c_7 => ?_) (fun c_7 => ?_)
  · refine J_iconst (nx := 15) (i := 0) (v := 0) (by decide) dX12_noState_14 rfl ?_
    exact Jrz dX12_noState_15 rfl (by decide) (Nat.zero_le _) (Nat.zero_le _) (RR.i (show _ = bI (!(fIn s 0 31)) from by first | (rw [bI_0.mp c_7]; rfl) | (rw [bI_n0.mp c_7]; rfl)) rfl)
  · refine J_iconst (nx := 11) (i := 1) (v := 1) (by decide) dX12_noState_10 rfl ?_
    refine J_goto (nx := 15) dX12_noState_11 (by decide) ?_
    exact Jrz dX12_noState_15 rfl (by decide) (Nat.zero_le _) (Nat.zero_le _) (RR.i (show _ = bI (!(fIn s 0 31)) from by first | (rw [bI_0.mp c_7]; rfl) | (rw [bI_n0.mp c_7]; rfl)) rfl)

set_option maxRecDepth 100000 in
set_option maxHeartbeats 4000000 in
theorem ct_m_noZone (g : GS) (s : Int32) : Ct mX12_noZone (rm 1 0 0) [.int s] (Wd g) (RR (.inl (some (.int (bI (!(fIn s 0 7)))))) g) := by
  refine Ct.of (by decide +kernel) (Nat.le_of_ble_eq_true rfl) ?_
  show J _ _ _ _ 0 [some (.int s)] [] _ 0 0
  refine J_iload_n (nx := 1) dX12_noZone_0 rfl rfl ?_
  refine J_iconst (nx := 2) (i := 0) (v := 0) (by decide) dX12_noZone_1 rfl ?_
  refine J_bipush (nx := 4) (i := 7) (v := 7) (by decide) dX12_noZone_2 rfl ?_
  refine JcS3 (R' := rm (0) 0 0) (nx := 7) dX12_noZone_4 rfl ml_X12_in lk_X12_77 st_X12_in ⟨(Nat.le_of_ble_eq_true rfl), (Nat.le_of_ble_eq_true rfl)⟩ (Nat.le_of_ble_eq_true rfl) ⟨rfl, rfl⟩ (ct_m_in _ _ _ _) ?_
  refine J_if_ne (nx := 10) (tgt := 14) dX12_noZone_7 rfl (by decide) (fun c_7 => ?_) (fun c_7 => ?_)
  · refine J_iconst (nx := 15) (i := 0) (v := 0) (by decide) dX12_noZone_14 rfl ?_
    exact Jrz dX12_noZone_15 rfl (by decide) (Nat.zero_le _) (Nat.zero_le _) (RR.i (show _ = bI (!(fIn s 0 7)) from by first | (rw [bI_0.mp c_7]; rfl) | (rw [bI_n0.mp c_7]; rfl)) rfl)
  · refine J_iconst (nx := 11) (i := 1) (v := 1) (by decide) dX12_noZone_10 rfl ?_
    refine J_goto (nx := 15) dX12_noZone_11 (by decide) ?_
    exact Jrz dX12_noZone_15 rfl (by decide) (Nat.zero_le _) (Nat.zero_le _) (RR.i (show _ = bI (!(fIn s 0 7)) from by first | (rw [bI_0.mp c_7]; rfl) | (rw [bI_n0.mp c_7]; rfl)) rfl)

def fMs (g : GS) (s : Int32) : Bool := fIn s 0 (gA g 64 2 - 1)
def fMj (g : GS) (j : Int32) : Bool := fIn j 0 (5 + gA g 64 1 - 1)
def fMb (j b : Int32) : Bool := if ¬ j = 2 then true else fIn b 0 31
def mCh (g : GS) (s k : Nat) : Int32 := gA g 64 (18 + 34 * s + k)
def mSo (g : GS) (s k : Nat) : Int32 := gA g 64 (1106 + 34 * s + k)
set_option maxRecDepth 100000 in
set_option maxHeartbeats 4000000 in
theorem ct_m_noSort (g : GS) (s : Int32) : Ct mX12_noSort (rm 1 0 0) [.ref 63, .int s] (Wd g) (RR (.inl (some (.int (bI (!(fMs g s)))))) g) := by
  refine Ct.of (by decide +kernel) (Nat.le_of_ble_eq_true rfl) ?_
  show J _ _ _ _ 0 [some (.ref 63), some (.int s)] [] _ 0 0
  refine J_iload_n (nx := 1) dX12_noSort_0 rfl rfl ?_
  refine J_iconst (nx := 2) (i := 0) (v := 0) (by decide) dX12_noSort_1 rfl ?_
  refine J_aload_n (nx := 3) dX12_noSort_2 rfl rfl ?_
  refine Jg_63_1 (nx := 6) dX12_noSort_3 rfl fl_X12_13 ?_
  refine J_iconst (nx := 7) (i := 2) (v := 2) (by decide) dX12_noSort_6 rfl ?_
  refine Ja_64 (nx := 8) dX12_noSort_7 rfl (vpE (n := 2) (nIc 2) (by omega) (by decide)) ?_
  rw [clE (n := 2) (nIc 2) (by omega)]
  refine J_iconst (nx := 9) (i := 1) (v := 1) (by decide) dX12_noSort_8 rfl ?_
  refine J_isub (nx := 10) dX12_noSort_9 rfl ?_
  refine JcS3 (R' := rm (0) 0 0) (nx := 13) dX12_noSort_10 rfl ml_X12_in lk_X12_77 st_X12_in ⟨(Nat.le_of_ble_eq_true rfl), (Nat.le_of_ble_eq_true rfl)⟩ (Nat.le_of_ble_eq_true rfl) ⟨rfl, rfl⟩ (ct_m_in _ _ _ _) ?_
  refine J_if_ne (nx := 16) (tgt := 20) dX12_noSort_13 rfl (by decide) (fun c_13 => ?_) (fun c_13 => ?_)
  · refine J_iconst (nx := 21) (i := 0) (v := 0) (by decide) dX12_noSort_20 rfl ?_
    exact Jrz dX12_noSort_21 rfl (by decide) (Nat.zero_le _) (Nat.zero_le _) (RR.i (show _ = bI (!(fIn s 0 (gA g 64 2 - 1))) from by first | (rw [bI_0.mp c_13]; rfl) | (rw [bI_n0.mp c_13]; rfl)) rfl)
  · refine J_iconst (nx := 17) (i := 1) (v := 1) (by decide) dX12_noSort_16 rfl ?_
    refine J_goto (nx := 21) dX12_noSort_17 (by decide) ?_
    exact Jrz dX12_noSort_21 rfl (by decide) (Nat.zero_le _) (Nat.zero_le _) (RR.i (show _ = bI (!(fIn s 0 (gA g 64 2 - 1))) from by first | (rw [bI_0.mp c_13]; rfl) | (rw [bI_n0.mp c_13]; rfl)) rfl)

set_option maxRecDepth 100000 in
set_option maxHeartbeats 4000000 in
theorem ct_m_noJudge (g : GS) (s : Int32) : Ct mX12_noJudge (rm 1 0 0) [.ref 63, .int s] (Wd g) (RR (.inl (some (.int (bI (!(fMj g s)))))) g) := by
  refine Ct.of (by decide +kernel) (Nat.le_of_ble_eq_true rfl) ?_
  show J _ _ _ _ 0 [some (.ref 63), some (.int s)] [] _ 0 0
  refine J_iload_n (nx := 1) dX12_noJudge_0 rfl rfl ?_
  refine J_iconst (nx := 2) (i := 0) (v := 0) (by decide) dX12_noJudge_1 rfl ?_
  refine J_iconst (nx := 3) (i := 5) (v := 5) (by decide) dX12_noJudge_2 rfl ?_
  refine J_aload_n (nx := 4) dX12_noJudge_3 rfl rfl ?_
  refine Jg_63_1 (nx := 7) dX12_noJudge_4 rfl fl_X12_13 ?_
  refine J_iconst (nx := 8) (i := 1) (v := 1) (by decide) dX12_noJudge_7 rfl ?_
  refine Ja_64 (nx := 9) dX12_noJudge_8 rfl (vpE (n := 1) (nIc 1) (by omega) (by decide)) ?_
  rw [clE (n := 1) (nIc 1) (by omega)]
  refine J_iadd (nx := 10) dX12_noJudge_9 rfl ?_
  refine J_iconst (nx := 11) (i := 1) (v := 1) (by decide) dX12_noJudge_10 rfl ?_
  refine J_isub (nx := 12) dX12_noJudge_11 rfl ?_
  refine JcS3 (R' := rm (0) 0 0) (nx := 15) dX12_noJudge_12 rfl ml_X12_in lk_X12_77 st_X12_in ⟨(Nat.le_of_ble_eq_true rfl), (Nat.le_of_ble_eq_true rfl)⟩ (Nat.le_of_ble_eq_true rfl) ⟨rfl, rfl⟩ (ct_m_in _ _ _ _) ?_
  refine J_if_ne (nx := 18) (tgt := 22) dX12_noJudge_15 rfl (by decide) (fun c_15 => ?_) (fun c_15 => ?_)
  · refine J_iconst (nx := 23) (i := 0) (v := 0) (by decide) dX12_noJudge_22 rfl ?_
    exact Jrz dX12_noJudge_23 rfl (by decide) (Nat.zero_le _) (Nat.zero_le _) (RR.i (show _ = bI (!(fIn s 0 (5 + gA g 64 1 - 1))) from by first | (rw [bI_0.mp c_15]; rfl) | (rw [bI_n0.mp c_15]; rfl)) rfl)
  · refine J_iconst (nx := 19) (i := 1) (v := 1) (by decide) dX12_noJudge_18 rfl ?_
    refine J_goto (nx := 23) dX12_noJudge_19 (by decide) ?_
    exact Jrz dX12_noJudge_23 rfl (by decide) (Nat.zero_le _) (Nat.zero_le _) (RR.i (show _ = bI (!(fIn s 0 (5 + gA g 64 1 - 1))) from by first | (rw [bI_0.mp c_15]; rfl) | (rw [bI_n0.mp c_15]; rfl)) rfl)

set_option maxRecDepth 100000 in
set_option maxHeartbeats 4000000 in
theorem ct_m_chanceAt (g : GS) (s k : Nat) : Ct mX12_chanceAt (rm 0 0 0) [.int (nI (s)), .int (nI (k))] (Wd g) (RR (.inl (some (.int (nI (18 + 34 * s + k))))) g) := by
  refine Ct.of (by decide +kernel) (Nat.le_of_ble_eq_true rfl) ?_
  show J _ _ _ _ 0 [some (.int (nI (s))), some (.int (nI (k)))] [] _ 0 0
  refine J_bipush (nx := 2) (i := 18) (v := 18) (by decide) dX12_chanceAt_0 rfl ?_
  refine J_bipush (nx := 4) (i := 34) (v := 34) (by decide) dX12_chanceAt_2 rfl ?_
  refine J_iload_n (nx := 5) dX12_chanceAt_4 rfl rfl ?_
  refine J_imul (nx := 6) dX12_chanceAt_5 rfl ?_
  refine J_iadd (nx := 7) dX12_chanceAt_6 rfl ?_
  refine J_iload_n (nx := 8) dX12_chanceAt_7 rfl rfl ?_
  refine J_iadd (nx := 9) dX12_chanceAt_8 rfl ?_
  exact Jri dX12_chanceAt_9 rfl (Nat.zero_le _) (Nat.zero_le _) (RR.i (nIa (nIa (nIc 18) (nIm (nIc 34) (Eq.refl (nI (s))))) (Eq.refl (nI (k)))) rfl)

set_option maxRecDepth 100000 in
set_option maxHeartbeats 4000000 in
theorem ct_m_sortAt (g : GS) (s k : Nat) : Ct mX12_sortAt (rm 0 0 0) [.int (nI (s)), .int (nI (k))] (Wd g) (RR (.inl (some (.int (nI (1106 + 34 * s + k))))) g) := by
  refine Ct.of (by decide +kernel) (Nat.le_of_ble_eq_true rfl) ?_
  show J _ _ _ _ 0 [some (.int (nI (s))), some (.int (nI (k)))] [] _ 0 0
  refine J_sipush (nx := 3) (i := 1106) (v := 1106) (by decide) dX12_sortAt_0 rfl ?_
  refine J_bipush (nx := 5) (i := 34) (v := 34) (by decide) dX12_sortAt_3 rfl ?_
  refine J_iload_n (nx := 6) dX12_sortAt_5 rfl rfl ?_
  refine J_imul (nx := 7) dX12_sortAt_6 rfl ?_
  refine J_iadd (nx := 8) dX12_sortAt_7 rfl ?_
  refine J_iload_n (nx := 9) dX12_sortAt_8 rfl rfl ?_
  refine J_iadd (nx := 10) dX12_sortAt_9 rfl ?_
  exact Jri dX12_sortAt_10 rfl (Nat.zero_le _) (Nat.zero_le _) (RR.i (nIa (nIa (nIc 1106) (nIm (nIc 34) (Eq.refl (nI (s))))) (Eq.refl (nI (k)))) rfl)

set_option maxRecDepth 100000 in
set_option maxHeartbeats 4000000 in
theorem ct_m_textAt (g : GS) (t : Nat) : Ct mX12_textAt (rm 0 0 0) [.int (nI (t))] (Wd g) (RR (.inl (some (.int (nI (1310 + 861 * t))))) g) := by
  refine Ct.of (by decide +kernel) (Nat.le_of_ble_eq_true rfl) ?_
  show J _ _ _ _ 0 [some (.int (nI (t)))] [] _ 0 0
  refine J_sipush (nx := 3) (i := 1310) (v := 1310) (by decide) dX12_textAt_0 rfl ?_
  refine J_sipush (nx := 6) (i := 861) (v := 861) (by decide) dX12_textAt_3 rfl ?_
  refine J_iload_n (nx := 7) dX12_textAt_6 rfl rfl ?_
  refine J_imul (nx := 8) dX12_textAt_7 rfl ?_
  refine J_iadd (nx := 9) dX12_textAt_8 rfl ?_
  exact Jri dX12_textAt_9 rfl (Nat.zero_le _) (Nat.zero_le _) (RR.i (nIa (nIc 1310) (nIm (nIc 861) (Eq.refl (nI (t))))) rfl)

set_option maxRecDepth 100000 in
set_option maxHeartbeats 4000000 in
theorem ct_m_lineAt (g : GS) (t n : Nat) : Ct mX12_lineAt (rm 1 0 0) [.int (nI (t)), .int (nI (n))] (Wd g) (RR (.inl (some (.int (nI (1310 + 861 * t + 1 + 5 * n))))) g) := by
  refine Ct.of (by decide +kernel) (Nat.le_of_ble_eq_true rfl) ?_
  show J _ _ _ _ 0 [some (.int (nI (t))), some (.int (nI (n)))] [] _ 0 0
  refine J_iload_n (nx := 1) dX12_lineAt_0 rfl rfl ?_
  refine JcS1 (R' := rm (0) 0 0) (nx := 4) dX12_lineAt_1 rfl ml_X12_textAt lk_X12_117 st_X12_textAt ⟨(Nat.le_of_ble_eq_true rfl), (Nat.le_of_ble_eq_true rfl)⟩ (Nat.le_of_ble_eq_true rfl) ⟨rfl, rfl⟩ (ct_m_textAt _ (t)) ?_
  refine J_iconst (nx := 5) (i := 1) (v := 1) (by decide) dX12_lineAt_4 rfl ?_
  refine J_iadd (nx := 6) dX12_lineAt_5 rfl ?_
  refine J_iconst (nx := 7) (i := 5) (v := 5) (by decide) dX12_lineAt_6 rfl ?_
  refine J_iload_n (nx := 8) dX12_lineAt_7 rfl rfl ?_
  refine J_imul (nx := 9) dX12_lineAt_8 rfl ?_
  refine J_iadd (nx := 10) dX12_lineAt_9 rfl ?_
  exact Jri dX12_lineAt_10 rfl (Nat.zero_le _) (Nat.zero_le _) (RR.i (nIa (nIa (Eq.refl (nI (1310 + 861 * t))) (nIc 1)) (nIm (nIc 5) (Eq.refl (nI (n))))) rfl)

set_option maxRecDepth 100000 in
set_option maxHeartbeats 4000000 in
theorem ct_m_lines (g : GS) (t : Nat) (ht : t ≤ 5) : Ct mX12_lines (rm 1 0 0) [.ref 63, .int (nI (t))] (Wd g) (RR (.inl (some (.int (gA g 64 (1310 + 861 * t))))) g) := by
  refine Ct.of (by decide +kernel) (Nat.le_of_ble_eq_true rfl) ?_
  show J _ _ _ _ 0 [some (.ref 63), some (.int (nI (t)))] [] _ 0 0
  refine J_aload_n (nx := 1) dX12_lines_0 rfl rfl ?_
  refine Jg_63_1 (nx := 4) dX12_lines_1 rfl fl_X12_13 ?_
  refine J_iload_n (nx := 5) dX12_lines_4 rfl rfl ?_
  refine JcS1 (R' := rm (0) 0 0) (nx := 8) dX12_lines_5 rfl ml_X12_textAt lk_X12_117 st_X12_textAt ⟨(Nat.le_of_ble_eq_true rfl), (Nat.le_of_ble_eq_true rfl)⟩ (Nat.le_of_ble_eq_true rfl) ⟨rfl, rfl⟩ (ct_m_textAt _ (t)) ?_
  refine Ja_64 (nx := 9) dX12_lines_8 rfl (vpE (n := 1310 + 861 * t) (Eq.refl (nI (1310 + 861 * t))) (by omega) (by decide)) ?_
  rw [clE (n := 1310 + 861 * t) (Eq.refl (nI (1310 + 861 * t))) (by omega)]
  exact Jri dX12_lines_9 rfl (Nat.zero_le _) (Nat.zero_le _) ⟨rfl, rfl⟩


def miI (n : Nat) (g : GS) : GS := sA g 65 (upd (gA g 65) n (gA g 64 n))
def mbI (n : Nat) (g : GS) : GS := sA g 64 (upd (gA g 64) n (gA g 65 n))
def mi0 (g : GS) : GS := sF g 63 0 0
def itU {α : Type} (f : Nat → α → α) : Nat → Nat → α → α
  | 0, _, a => a
  | k + 1, i, a => itU f k (i + 1) (f i a)
set_option maxRecDepth 100000 in
set_option maxHeartbeats 4000000 in
theorem lp_m_image  (n0 : Nat) : ∀ (k : Nat) (i : Nat) (g r : GS), i + k = 5615 → r = sF (itU miI k i g) 63 3 1 → J mX12_image (rm 1 0 0) (RR (.inl none) r) n0 7 [some (.ref 63), some (.int (nI (i)))] [] (Wd g) 0 0 := by
  intro k
  induction k with
  | zero =>
    intro i g r hk hr
    refine J_iload_n (nx := 8) dX12_image_7 rfl rfl ?_
    refine J_sipush (nx := 11) (i := 5615) (v := 5615) (by decide) dX12_image_8 rfl ?_
    refine J_icmp_ge (nx := 14) (tgt := 32) dX12_image_11 rfl (by decide) (fun c_11 => ?_) (fun c_11 => ?_)
    · refine J_aload_n (nx := 33) dX12_image_32 rfl rfl ?_
      refine J_iconst (nx := 34) (i := 1) (v := 1) (by decide) dX12_image_33 rfl ?_
      refine Jp_63_3 (nx := 37) dX12_image_34 rfl fl_X12_73 (by decide) (by decide) ?_
      refine J.gen (fun g_34 hg_34 => ?_)
      exact Jrv dX12_image_37 rfl (Nat.zero_le _) (Nat.zero_le _) ⟨rfl, by rw [hr, hg_34]; rfl⟩
    · exact absurd (show nI 5615 ≤ nI i from by rw [show i = 5615 by omega]; exact le_self_nI) c_11
  | succ k ih =>
    intro i g r hk hr
    refine J_iload_n (nx := 8) dX12_image_7 rfl rfl ?_
    refine J_sipush (nx := 11) (i := 5615) (v := 5615) (by decide) dX12_image_8 rfl ?_
    refine J_icmp_ge (nx := 14) (tgt := 32) dX12_image_11 rfl (by decide) (fun c_11 => ?_) (fun c_11 => ?_)
    · exact absurd c_11 (nlt_nI (n := 5615) (by omega) (by omega))
    · refine J_aload_n (nx := 15) dX12_image_14 rfl rfl ?_
      refine Jg_63_2 (nx := 18) dX12_image_15 rfl fl_X12_17 ?_
      refine J_iload_n (nx := 19) dX12_image_18 rfl rfl ?_
      refine J_aload_n (nx := 20) dX12_image_19 rfl rfl ?_
      refine Jg_63_1 (nx := 23) dX12_image_20 rfl fl_X12_13 ?_
      refine J_iload_n (nx := 24) dX12_image_23 rfl rfl ?_
      refine Ja_64 (nx := 25) dX12_image_24 rfl (vpE (n := i) (Eq.refl (nI (i))) (by omega) (by decide)) ?_
      rw [clE (n := i) (Eq.refl (nI (i))) (by omega)]
      refine Jt_65 (nx := 26) dX12_image_25 rfl (vpE (n := i) (Eq.refl (nI (i))) (by omega) (by decide)) ?_
      rw [clE (n := i) (Eq.refl (nI (i))) (by omega)]
      refine J.gen (fun g_25 hg_25 => ?_)
      refine J_iinc (nx := 29) dX12_image_26 rfl rfl rfl (Nat.le_of_ble_eq_true rfl) ?_
      refine J_goto (nx := 7) dX12_image_29 (by decide) ?_
      show J _ _ _ _ 7 [some (.ref 63), some (.int (nI (i) + Int32.ofInt 1))] [] _ _ _
      rw [nI_s]
      exact ih (i + 1) g_25 r (by omega) (hr.trans (by rw [hg_25]; rfl))

set_option maxRecDepth 100000 in
set_option maxHeartbeats 4000000 in
theorem ct_m_image (g : GS) : Ct mX12_image (rm 1 0 0) [.ref 63] (Wd g) (RR (.inl none) (sF (itU miI 5615 0 (mi0 g)) 63 3 1)) := by
  refine Ct.of (by decide +kernel) (Nat.le_of_ble_eq_true rfl) ?_
  show J _ _ _ _ 0 [some (.ref 63), none] [] _ 0 0
  refine J_aload_n (nx := 1) dX12_image_0 rfl rfl ?_
  refine J_iconst (nx := 2) (i := 0) (v := 0) (by decide) dX12_image_1 rfl ?_
  refine Jp_63_0 (nx := 5) dX12_image_2 rfl fl_X12_3 ?_
  refine J.gen (fun g_2 hg_2 => ?_)
  refine J_iconst (nx := 6) (i := 0) (v := 0) (by decide) dX12_image_5 rfl ?_
  refine J_istore_n (nx := 7) dX12_image_6 rfl rfl (Nat.le_of_ble_eq_true rfl) ?_
  obtain ⟨r, hr⟩ : ∃ r, r = sF (itU miI 5615 0 (mi0 g)) 63 3 1 := ⟨_, rfl⟩
  rw [← hr]
  exact lp_m_image _ 5615 0 g_2 r rfl (hr.trans (by rw [hg_2]; rfl))

set_option maxRecDepth 100000 in
set_option maxHeartbeats 4000000 in
theorem lp_m_back  (n0 : Nat) : ∀ (k : Nat) (i : Nat) (g r : GS), i + k = 5615 → r = itU mbI k i g → J mX12_back (rm 1 0 0) (RR (.inl (some (.int 1))) r) n0 16 [some (.ref 63), some (.int (nI (i)))] [] (Wd g) 0 0 := by
  intro k
  induction k with
  | zero =>
    intro i g r hk hr
    refine J_iload_n (nx := 17) dX12_back_16 rfl rfl ?_
    refine J_sipush (nx := 20) (i := 5615) (v := 5615) (by decide) dX12_back_17 rfl ?_
    refine J_icmp_ge (nx := 23) (tgt := 41) dX12_back_20 rfl (by decide) (fun c_20 => ?_) (fun c_20 => ?_)
    · refine J_iconst (nx := 42) (i := 1) (v := 1) (by decide) dX12_back_41 rfl ?_
      exact Jrz dX12_back_42 rfl (by decide) (Nat.zero_le _) (Nat.zero_le _) ⟨rfl, by rw [hr]; rfl⟩
    · exact absurd (show nI 5615 ≤ nI i from by rw [show i = 5615 by omega]; exact le_self_nI) c_20
  | succ k ih =>
    intro i g r hk hr
    refine J_iload_n (nx := 17) dX12_back_16 rfl rfl ?_
    refine J_sipush (nx := 20) (i := 5615) (v := 5615) (by decide) dX12_back_17 rfl ?_
    refine J_icmp_ge (nx := 23) (tgt := 41) dX12_back_20 rfl (by decide) (fun c_20 => ?_) (fun c_20 => ?_)
    · exact absurd c_20 (nlt_nI (n := 5615) (by omega) (by omega))
    · refine J_aload_n (nx := 24) dX12_back_23 rfl rfl ?_
      refine Jg_63_1 (nx := 27) dX12_back_24 rfl fl_X12_13 ?_
      refine J_iload_n (nx := 28) dX12_back_27 rfl rfl ?_
      refine J_aload_n (nx := 29) dX12_back_28 rfl rfl ?_
      refine Jg_63_2 (nx := 32) dX12_back_29 rfl fl_X12_17 ?_
      refine J_iload_n (nx := 33) dX12_back_32 rfl rfl ?_
      refine Ja_65 (nx := 34) dX12_back_33 rfl (vpE (n := i) (Eq.refl (nI (i))) (by omega) (by decide)) ?_
      rw [clE (n := i) (Eq.refl (nI (i))) (by omega)]
      refine Jt_64 (nx := 35) dX12_back_34 rfl (vpE (n := i) (Eq.refl (nI (i))) (by omega) (by decide)) ?_
      rw [clE (n := i) (Eq.refl (nI (i))) (by omega)]
      refine J.gen (fun g_34 hg_34 => ?_)
      refine J_iinc (nx := 38) dX12_back_35 rfl rfl rfl (Nat.le_of_ble_eq_true rfl) ?_
      refine J_goto (nx := 16) dX12_back_38 (by decide) ?_
      show J _ _ _ _ 16 [some (.ref 63), some (.int (nI (i) + Int32.ofInt 1))] [] _ _ _
      rw [nI_s]
      exact ih (i + 1) g_34 r (by omega) (hr.trans (by rw [hg_34]; rfl))

set_option maxRecDepth 100000 in
set_option maxHeartbeats 4000000 in
theorem ct_m_back (g : GS) : Ct mX12_back (rm 1 0 0) [.ref 63] (Wd g) (RR (.inl (some (.int (if gF g 63 3 = 0 then 0 else 1)))) (if gF g 63 3 = 0 then mi0 g else itU mbI 5615 0 (mi0 g))) := by
  refine Ct.of (by decide +kernel) (Nat.le_of_ble_eq_true rfl) ?_
  show J _ _ _ _ 0 [some (.ref 63), none] [] _ 0 0
  refine J_aload_n (nx := 1) dX12_back_0 rfl rfl ?_
  refine J_iconst (nx := 2) (i := 0) (v := 0) (by decide) dX12_back_1 rfl ?_
  refine Jp_63_0 (nx := 5) dX12_back_2 rfl fl_X12_3 ?_
  refine J.gen (fun g_2 hg_2 => ?_)
  refine J_aload_n (nx := 6) dX12_back_5 rfl rfl ?_
  refine Jg_63_3 (nx := 9) dX12_back_6 rfl fl_X12_73 ?_
  refine J_if_ne (nx := 12) (tgt := 14) dX12_back_9 rfl (by decide) (fun c_9 => ?_) (fun c_9 => ?_)
  · refine J_iconst (nx := 15) (i := 0) (v := 0) (by decide) dX12_back_14 rfl ?_
    refine J_istore_n (nx := 16) dX12_back_15 rfl rfl (Nat.le_of_ble_eq_true rfl) ?_
    have c9 : ¬ gF g 63 3 = 0 := by rw [hg_2] at c_9; exact c_9
    rw [if_neg c9, if_neg c9]
    obtain ⟨r, hr⟩ : ∃ r, r = itU mbI 5615 0 (mi0 g) := ⟨_, rfl⟩
    rw [← hr]
    exact lp_m_back _ 5615 0 g_2 r rfl (hr.trans (by rw [hg_2]; rfl))
  · refine J_iconst (nx := 13) (i := 0) (v := 0) (by decide) dX12_back_12 rfl ?_
    exact Jrz dX12_back_13 rfl (by decide) (Nat.zero_le _) (Nat.zero_le _) ⟨by rw [if_pos (show gF g 63 3 = 0 from by rw [hg_2] at c_9; exact c_9)], by rw [if_pos (show gF g 63 3 = 0 from by rw [hg_2] at c_9; exact c_9), hg_2]; rfl⟩

set_option maxRecDepth 100000 in
set_option maxHeartbeats 4000000 in
theorem ct_m_fault (g : GS) : Ct mX12_fault (rm 0 0 0) [.ref 63] (Wd g) (RR (.inl (some (.int (gF g 63 10)))) (mi0 g)) := by
  refine Ct.of (by decide +kernel) (Nat.le_of_ble_eq_true rfl) ?_
  show J _ _ _ _ 0 [some (.ref 63)] [] _ 0 0
  refine J_aload_n (nx := 1) dX12_fault_0 rfl rfl ?_
  refine J_iconst (nx := 2) (i := 0) (v := 0) (by decide) dX12_fault_1 rfl ?_
  refine Jp_63_0 (nx := 5) dX12_fault_2 rfl fl_X12_3 ?_
  refine J_aload_n (nx := 6) dX12_fault_5 rfl rfl ?_
  refine Jg_63_10 (nx := 9) dX12_fault_6 rfl fl_X12_24 ?_
  exact Jri dX12_fault_9 rfl (Nat.zero_le _) (Nat.zero_le _) ⟨rfl, rfl⟩

def meB (g : GS) (n : Int32) : Bool := if n < 0 then false else if n ≤ gF g 63 5 then true else false
set_option maxRecDepth 100000 in
set_option maxHeartbeats 4000000 in
theorem ct_m_end (g : GS) (n : Int32) : Ct mX12_end (rm 0 0 0) [.ref 63, .int n] (Wd g) (RR (.inl (some (.int (bI (meB g n))))) (bif meB g n then sF (mi0 g) 63 5 n else mi0 g)) := by
  refine Ct.of (by decide +kernel) (Nat.le_of_ble_eq_true rfl) ?_
  show J _ _ _ _ 0 [some (.ref 63), some (.int n)] [] _ 0 0
  refine J_aload_n (nx := 1) dX12_end_0 rfl rfl ?_
  refine J_iconst (nx := 2) (i := 0) (v := 0) (by decide) dX12_end_1 rfl ?_
  refine Jp_63_0 (nx := 5) dX12_end_2 rfl fl_X12_3 ?_
  refine J_iload_n (nx := 6) dX12_end_5 rfl rfl ?_
  refine J_if_lt (nx := 9) (tgt := 17) dX12_end_6 rfl (by decide) (fun c_6 => ?_) (fun c_6 => ?_)
  · refine J_iconst (nx := 18) (i := 0) (v := 0) (by decide) dX12_end_17 rfl ?_
    exact Jrz dX12_end_18 rfl (by decide) (Nat.zero_le _) (Nat.zero_le _) ⟨by unfold meB; first | (rw [if_pos c_6]; rfl) | (rw [if_neg c_6, if_neg (show ¬ n ≤ gF g 63 5 from c_14)]; rfl), by unfold meB; first | (rw [if_pos c_6]; rfl) | (rw [if_neg c_6, if_neg (show ¬ n ≤ gF g 63 5 from c_14)]; rfl)⟩
  · refine J_iload_n (nx := 10) dX12_end_9 rfl rfl ?_
    refine J_aload_n (nx := 11) dX12_end_10 rfl rfl ?_
    refine Jg_63_5 (nx := 14) dX12_end_11 rfl fl_X12_81 ?_
    refine J_icmp_le (nx := 17) (tgt := 19) dX12_end_14 rfl (by decide) (fun c_14 => ?_) (fun c_14 => ?_)
    · refine J_aload_n (nx := 20) dX12_end_19 rfl rfl ?_
      refine J_iload_n (nx := 21) dX12_end_20 rfl rfl ?_
      refine Jp_63_5 (nx := 24) dX12_end_21 rfl fl_X12_81 ?_
      refine J_iconst (nx := 25) (i := 1) (v := 1) (by decide) dX12_end_24 rfl ?_
      exact Jrz dX12_end_25 rfl (by decide) (Nat.zero_le _) (Nat.zero_le _) ⟨by unfold meB; rw [if_neg c_6, if_pos (show n ≤ gF g 63 5 from c_14)]; rfl, by unfold meB; rw [if_neg c_6, if_pos (show n ≤ gF g 63 5 from c_14)]; rfl⟩
    · refine J_iconst (nx := 18) (i := 0) (v := 0) (by decide) dX12_end_17 rfl ?_
      exact Jrz dX12_end_18 rfl (by decide) (Nat.zero_le _) (Nat.zero_le _) ⟨by unfold meB; first | (rw [if_pos c_6]; rfl) | (rw [if_neg c_6, if_neg (show ¬ n ≤ gF g 63 5 from c_14)]; rfl), by unfold meB; first | (rw [if_pos c_6]; rfl) | (rw [if_neg c_6, if_neg (show ¬ n ≤ gF g 63 5 from c_14)]; rfl)⟩


def dI (a : Int32) (f : Nat → Int32) : Nat → Int32
  | 0 => a
  | n + 1 => dI a f n - f n
def mSt (g : GS) (s : Nat) : Int32 := dI 100 (mCh g s) 34
def mRs (g : GS) (s : Nat) : Int32 := sI (fun k => mSo g s (2 + k)) 32
set_option maxRecDepth 100000 in
set_option maxHeartbeats 4000000 in
theorem lp_m_staying (g : GS) (s : Nat) (hs : s < 32) (n0 : Nat) : ∀ (k : Nat) (i : Nat) (r : Int32), i + k = 34 → r = mSt g s → J mX12_staying (rm 1 0 0) (RR (.inl (some (.int r))) g) n0 5 [some (.ref 63), some (.int (nI (s))), some (.int (dI 100 (mCh g s) i)), some (.int (nI (i)))] [] (Wd g) 0 0 := by
  intro k
  induction k with
  | zero =>
    intro i r hk hr
    refine J_iload_n (nx := 6) dX12_staying_5 rfl rfl ?_
    refine J_bipush (nx := 8) (i := 34) (v := 34) (by decide) dX12_staying_6 rfl ?_
    refine J_icmp_ge (nx := 11) (tgt := 30) dX12_staying_8 rfl (by decide) (fun c_8 => ?_) (fun c_8 => ?_)
    · refine J_iload_n (nx := 31) dX12_staying_30 rfl rfl ?_
      exact Jri dX12_staying_31 rfl (Nat.zero_le _) (Nat.zero_le _) ⟨by rw [hr, show i = 34 by omega]; rfl, rfl⟩
    · exact absurd (show nI 34 ≤ nI i from by rw [show i = 34 by omega]; exact le_self_nI) c_8
  | succ k ih =>
    intro i r hk hr
    refine J_iload_n (nx := 6) dX12_staying_5 rfl rfl ?_
    refine J_bipush (nx := 8) (i := 34) (v := 34) (by decide) dX12_staying_6 rfl ?_
    refine J_icmp_ge (nx := 11) (tgt := 30) dX12_staying_8 rfl (by decide) (fun c_8 => ?_) (fun c_8 => ?_)
    · exact absurd c_8 (nlt_nI (n := 34) (by omega) (by omega))
    · refine J_iload_n (nx := 12) dX12_staying_11 rfl rfl ?_
      refine J_aload_n (nx := 13) dX12_staying_12 rfl rfl ?_
      refine Jg_63_1 (nx := 16) dX12_staying_13 rfl fl_X12_13 ?_
      refine J_iload_n (nx := 17) dX12_staying_16 rfl rfl ?_
      refine J_iload_n (nx := 18) dX12_staying_17 rfl rfl ?_
      refine JcS2 (R' := rm (0) 0 0) (nx := 21) dX12_staying_18 rfl ml_X12_chanceAt lk_X12_248 st_X12_chanceAt ⟨(Nat.le_of_ble_eq_true rfl), (Nat.le_of_ble_eq_true rfl)⟩ (Nat.le_of_ble_eq_true rfl) ⟨rfl, rfl⟩ (ct_m_chanceAt _ (s) (i)) ?_
      refine Ja_64 (nx := 22) dX12_staying_21 rfl (vpE (n := 18 + 34 * s + i) (Eq.refl (nI (18 + 34 * s + i))) (by omega) (by decide)) ?_
      rw [clE (n := 18 + 34 * s + i) (Eq.refl (nI (18 + 34 * s + i))) (by omega)]
      refine J_isub (nx := 23) dX12_staying_22 rfl ?_
      refine J_istore_n (nx := 24) dX12_staying_23 rfl rfl (Nat.le_of_ble_eq_true rfl) ?_
      refine J_iinc (nx := 27) dX12_staying_24 rfl rfl rfl (Nat.le_of_ble_eq_true rfl) ?_
      refine J_goto (nx := 5) dX12_staying_27 (by decide) ?_
      show J _ _ _ _ 5 [some (.ref 63), some (.int (nI (s))), some (.int (dI 100 (mCh g s) i - mCh g s i)), some (.int (nI (i) + Int32.ofInt 1))] [] _ _ _
      rw [nI_s]
      exact ih (i + 1) r (by omega) hr

set_option maxRecDepth 100000 in
set_option maxHeartbeats 4000000 in
theorem ct_m_staying (g : GS) (s : Nat) (hs : s < 32) : Ct mX12_staying (rm 1 0 0) [.ref 63, .int (nI (s))] (Wd g) (RR (.inl (some (.int (mSt g s)))) g) := by
  refine Ct.of (by decide +kernel) (Nat.le_of_ble_eq_true rfl) ?_
  show J _ _ _ _ 0 [some (.ref 63), some (.int (nI (s))), none, none] [] _ 0 0
  refine J_bipush (nx := 2) (i := 100) (v := 100) (by decide) dX12_staying_0 rfl ?_
  refine J_istore_n (nx := 3) dX12_staying_2 rfl rfl (Nat.le_of_ble_eq_true rfl) ?_
  refine J_iconst (nx := 4) (i := 0) (v := 0) (by decide) dX12_staying_3 rfl ?_
  refine J_istore_n (nx := 5) dX12_staying_4 rfl rfl (Nat.le_of_ble_eq_true rfl) ?_
  exact lp_m_staying g s hs _ 34 0 _ rfl rfl

set_option maxRecDepth 100000 in
set_option maxHeartbeats 4000000 in
theorem lp_m_rates (g : GS) (s : Nat) (hs : s < 6) (n0 : Nat) : ∀ (k : Nat) (i : Nat) (r : Int32), i + k = 32 → r = mRs g s → J mX12_rates (rm 1 0 0) (RR (.inl (some (.int r))) g) n0 4 [some (.ref 63), some (.int (nI (s))), some (.int (sI (fun k => mSo g s (2 + k)) i)), some (.int (nI (i)))] [] (Wd g) 0 0 := by
  intro k
  induction k with
  | zero =>
    intro i r hk hr
    refine J_iload_n (nx := 5) dX12_rates_4 rfl rfl ?_
    refine J_bipush (nx := 7) (i := 32) (v := 32) (by decide) dX12_rates_5 rfl ?_
    refine J_icmp_ge (nx := 10) (tgt := 31) dX12_rates_7 rfl (by decide) (fun c_7 => ?_) (fun c_7 => ?_)
    · refine J_iload_n (nx := 32) dX12_rates_31 rfl rfl ?_
      exact Jri dX12_rates_32 rfl (Nat.zero_le _) (Nat.zero_le _) ⟨by rw [hr, show i = 32 by omega]; rfl, rfl⟩
    · exact absurd (show nI 32 ≤ nI i from by rw [show i = 32 by omega]; exact le_self_nI) c_7
  | succ k ih =>
    intro i r hk hr
    refine J_iload_n (nx := 5) dX12_rates_4 rfl rfl ?_
    refine J_bipush (nx := 7) (i := 32) (v := 32) (by decide) dX12_rates_5 rfl ?_
    refine J_icmp_ge (nx := 10) (tgt := 31) dX12_rates_7 rfl (by decide) (fun c_7 => ?_) (fun c_7 => ?_)
    · exact absurd c_7 (nlt_nI (n := 32) (by omega) (by omega))
    · refine J_iload_n (nx := 11) dX12_rates_10 rfl rfl ?_
      refine J_aload_n (nx := 12) dX12_rates_11 rfl rfl ?_
      refine Jg_63_1 (nx := 15) dX12_rates_12 rfl fl_X12_13 ?_
      refine J_iload_n (nx := 16) dX12_rates_15 rfl rfl ?_
      refine J_iconst (nx := 17) (i := 2) (v := 2) (by decide) dX12_rates_16 rfl ?_
      refine J_iload_n (nx := 18) dX12_rates_17 rfl rfl ?_
      refine J_iadd (nx := 19) dX12_rates_18 rfl ?_
      rw [show ((2 : Int32) + nI (i)) = nI ((2 + i)) from (nIa (nIc 2) (Eq.refl (nI (i))))]
      refine JcS2 (R' := rm (0) 0 0) (nx := 22) dX12_rates_19 rfl ml_X12_sortAt lk_X12_282 st_X12_sortAt ⟨(Nat.le_of_ble_eq_true rfl), (Nat.le_of_ble_eq_true rfl)⟩ (Nat.le_of_ble_eq_true rfl) ⟨rfl, rfl⟩ (ct_m_sortAt _ (s) ((2 + i))) ?_
      refine Ja_64 (nx := 23) dX12_rates_22 rfl (vpE (n := 1106 + 34 * s + (2 + i)) (Eq.refl (nI (1106 + 34 * s + (2 + i)))) (by omega) (by decide)) ?_
      rw [clE (n := 1106 + 34 * s + (2 + i)) (Eq.refl (nI (1106 + 34 * s + (2 + i)))) (by omega)]
      refine J_iadd (nx := 24) dX12_rates_23 rfl ?_
      refine J_istore_n (nx := 25) dX12_rates_24 rfl rfl (Nat.le_of_ble_eq_true rfl) ?_
      refine J_iinc (nx := 28) dX12_rates_25 rfl rfl rfl (Nat.le_of_ble_eq_true rfl) ?_
      refine J_goto (nx := 4) dX12_rates_28 (by decide) ?_
      show J _ _ _ _ 4 [some (.ref 63), some (.int (nI (s))), some (.int (sI (fun k => mSo g s (2 + k)) i + mSo g s (2 + i))), some (.int (nI (i) + Int32.ofInt 1))] [] _ _ _
      rw [nI_s]
      exact ih (i + 1) r (by omega) hr

set_option maxRecDepth 100000 in
set_option maxHeartbeats 4000000 in
theorem ct_m_rates (g : GS) (s : Nat) (hs : s < 6) : Ct mX12_rates (rm 1 0 0) [.ref 63, .int (nI (s))] (Wd g) (RR (.inl (some (.int (mRs g s)))) g) := by
  refine Ct.of (by decide +kernel) (Nat.le_of_ble_eq_true rfl) ?_
  show J _ _ _ _ 0 [some (.ref 63), some (.int (nI (s))), none, none] [] _ 0 0
  refine J_iconst (nx := 1) (i := 0) (v := 0) (by decide) dX12_rates_0 rfl ?_
  refine J_istore_n (nx := 2) dX12_rates_1 rfl rfl (Nat.le_of_ble_eq_true rfl) ?_
  refine J_iconst (nx := 3) (i := 0) (v := 0) (by decide) dX12_rates_2 rfl ?_
  refine J_istore_n (nx := 4) dX12_rates_3 rfl rfl (Nat.le_of_ble_eq_true rfl) ?_
  exact lp_m_rates g s hs _ 32 0 _ rfl rfl


def mCd (g : GS) (s : Nat) (told : Int32) : Int32 := told + (if gA g 64 9 ≤ 0 then 0 else mRs g s / gA g 64 9)
def mF1 (g : GS) (z : Nat) : GS := sF g 63 24 (nI z)
def mF2 (g : GS) (z : Nat) (c : Int32) : GS := sF g 63 22 (gA g 64 (10 + z) + c)
def mF3 (g : GS) (s : Nat) (c : Int32) : GS := sF g 63 23 (c * (100 - mSo g s 1) / 100)
def mF4 (g : GS) (s : Nat) : GS := sF g 63 25 (if ¬ mSo g s 1 = 100 then 0 else 1)
def mFo (g : GS) (s z : Nat) (told : Int32) : GS := mF4 (mF3 (mF2 (mF1 g z) z (mCd g s told)) s (mCd g s told)) s
set_option maxRecDepth 100000 in
set_option maxHeartbeats 4000000 in
theorem ct_m_cardOf (g : GS) (s : Nat) (hs : s < 6) (c : Int32) : Ct mX12_cardOf (rm 2 0 0) [.ref 63, .int (nI (s)), .int c] (Wd g) (RR (.inl (some (.int (mCd g s c)))) g) := by
  refine Ct.of (by decide +kernel) (Nat.le_of_ble_eq_true rfl) ?_
  show J _ _ _ _ 0 [some (.ref 63), some (.int (nI (s))), some (.int c)] [] _ 0 0
  refine J_iload_n (nx := 1) dX12_cardOf_0 rfl rfl ?_
  refine J_aload_n (nx := 2) dX12_cardOf_1 rfl rfl ?_
  refine Jg_63_1 (nx := 5) dX12_cardOf_2 rfl fl_X12_13 ?_
  refine J_bipush (nx := 7) (i := 9) (v := 9) (by decide) dX12_cardOf_5 rfl ?_
  refine Ja_64 (nx := 8) dX12_cardOf_7 rfl (vpE (n := 9) (nIc 9) (by omega) (by decide)) ?_
  rw [clE (n := 9) (nIc 9) (by omega)]
  refine J_if_le (nx := 11) (tgt := 27) dX12_cardOf_8 rfl (by decide) (fun c_8 => ?_) (fun c_8 => ?_)
  · refine J_iconst (nx := 28) (i := 0) (v := 0) (by decide) dX12_cardOf_27 rfl ?_
    refine J_iadd (nx := 29) dX12_cardOf_28 rfl ?_
    exact Jri dX12_cardOf_29 rfl (Nat.zero_le _) (Nat.zero_le _) (RR.i (by unfold mCd; first | rw [if_pos c_8] | rw [if_neg c_8]) rfl)
  · refine J_aload_n (nx := 12) dX12_cardOf_11 rfl rfl ?_
    refine J_iload_n (nx := 13) dX12_cardOf_12 rfl rfl ?_
    refine JcV1 (R' := rm (1) 0 0) (nx := 16) dX12_cardOf_13 rfl ml_X12_rates lk_X12_299 iv_X12_rates rfl rfl ⟨(Nat.le_of_ble_eq_true rfl), (Nat.le_of_ble_eq_true rfl)⟩ (Nat.le_of_ble_eq_true rfl) ⟨rfl, rfl⟩ (ct_m_rates _ (s) (by omega)) ?_
    refine J_aload_n (nx := 17) dX12_cardOf_16 rfl rfl ?_
    refine Jg_63_1 (nx := 20) dX12_cardOf_17 rfl fl_X12_13 ?_
    refine J_bipush (nx := 22) (i := 9) (v := 9) (by decide) dX12_cardOf_20 rfl ?_
    refine Ja_64 (nx := 23) dX12_cardOf_22 rfl (vpE (n := 9) (nIc 9) (by omega) (by decide)) ?_
    rw [clE (n := 9) (nIc 9) (by omega)]
    refine J_idiv (nx := 24) (fun z => c_8 (by rw [z]; decide)) dX12_cardOf_23 rfl ?_
    refine J_goto (nx := 28) dX12_cardOf_24 (by decide) ?_
    refine J_iadd (nx := 29) dX12_cardOf_28 rfl ?_
    exact Jri dX12_cardOf_29 rfl (Nat.zero_le _) (Nat.zero_le _) (RR.i (by unfold mCd; first | rw [if_pos c_8] | rw [if_neg c_8]) rfl)

set_option maxRecDepth 100000 in
set_option maxHeartbeats 4000000 in
theorem ct_m_toldCard (g : GS) (s : Nat) (hs : s < 6) : Ct mX12_toldCard (rm 1 0 0) [.ref 63, .int (nI (s))] (Wd g) (RR (.inl (some (.int (mSo g s 0)))) g) := by
  refine Ct.of (by decide +kernel) (Nat.le_of_ble_eq_true rfl) ?_
  show J _ _ _ _ 0 [some (.ref 63), some (.int (nI (s)))] [] _ 0 0
  refine J_aload_n (nx := 1) dX12_toldCard_0 rfl rfl ?_
  refine Jg_63_1 (nx := 4) dX12_toldCard_1 rfl fl_X12_13 ?_
  refine J_iload_n (nx := 5) dX12_toldCard_4 rfl rfl ?_
  refine J_iconst (nx := 6) (i := 0) (v := 0) (by decide) dX12_toldCard_5 rfl ?_
  refine JcS2 (R' := rm (0) 0 0) (nx := 9) dX12_toldCard_6 rfl ml_X12_sortAt lk_X12_282 st_X12_sortAt ⟨(Nat.le_of_ble_eq_true rfl), (Nat.le_of_ble_eq_true rfl)⟩ (Nat.le_of_ble_eq_true rfl) ⟨rfl, rfl⟩ (ct_m_sortAt _ (s) (0)) ?_
  refine Ja_64 (nx := 10) dX12_toldCard_9 rfl (vpE (n := 1106 + 34 * s + 0) (Eq.refl (nI (1106 + 34 * s + 0))) (by omega) (by decide)) ?_
  rw [clE (n := 1106 + 34 * s + 0) (Eq.refl (nI (1106 + 34 * s + 0))) (by omega)]
  exact Jri dX12_toldCard_10 rfl (Nat.zero_le _) (Nat.zero_le _) ⟨rfl, rfl⟩

set_option maxRecDepth 100000 in
set_option maxHeartbeats 4000000 in
theorem ct_m_fouls (g : GS) (s z : Nat) (hs : s < 6) (hz : z < 8) (c : Int32) : Ct mX12_fouls (rm 3 0 0) [.ref 63, .int (nI (s)), .int (nI (z)), .int c] (Wd g) (RR (.inl none) (mFo g s z c)) := by
  refine Ct.of (by decide +kernel) (Nat.le_of_ble_eq_true rfl) ?_
  show J _ _ _ _ 0 [some (.ref 63), some (.int (nI (s))), some (.int (nI (z))), some (.int c), none] [] _ 0 0
  refine J_aload_n (nx := 1) dX12_fouls_0 rfl rfl ?_
  refine J_iload_n (nx := 2) dX12_fouls_1 rfl rfl ?_
  refine J_iload_n (nx := 3) dX12_fouls_2 rfl rfl ?_
  refine JcV2 (R' := rm (2) 0 0) (nx := 6) dX12_fouls_3 rfl ml_X12_cardOf lk_X12_302 iv_X12_cardOf rfl rfl ⟨(Nat.le_of_ble_eq_true rfl), (Nat.le_of_ble_eq_true rfl)⟩ (Nat.le_of_ble_eq_true rfl) ⟨rfl, rfl⟩ (ct_m_cardOf _ (s) (by omega) _) ?_
  refine J_istore (nx := 8) dX12_fouls_6 rfl rfl (Nat.le_of_ble_eq_true rfl) ?_
  refine J_aload_n (nx := 9) dX12_fouls_8 rfl rfl ?_
  refine J_iload_n (nx := 10) dX12_fouls_9 rfl rfl ?_
  refine Jp_63_24 (nx := 13) dX12_fouls_10 rfl fl_X12_305 ?_
  refine J.gen (fun g_10 hg_10 => ?_)
  refine J_aload_n (nx := 14) dX12_fouls_13 rfl rfl ?_
  refine J_aload_n (nx := 15) dX12_fouls_14 rfl rfl ?_
  refine Jg_63_1 (nx := 18) dX12_fouls_15 rfl fl_X12_13 ?_
  refine J_bipush (nx := 20) (i := 10) (v := 10) (by decide) dX12_fouls_18 rfl ?_
  refine J_iload_n (nx := 21) dX12_fouls_20 rfl rfl ?_
  refine J_iadd (nx := 22) dX12_fouls_21 rfl ?_
  refine Ja_64 (nx := 23) dX12_fouls_22 rfl (vpE (n := (10 + z)) (nIa (nIc 10) (Eq.refl (nI (z)))) (by omega) (by decide)) ?_
  rw [clE (n := (10 + z)) (nIa (nIc 10) (Eq.refl (nI (z)))) (by omega)]
  refine J_iload (nx := 25) dX12_fouls_23 rfl rfl ?_
  refine J_iadd (nx := 26) dX12_fouls_25 rfl ?_
  refine Jp_63_22 (nx := 29) dX12_fouls_26 rfl fl_X12_308 ?_
  refine J.gen (fun g_26 hg_26 => ?_)
  refine J_aload_n (nx := 30) dX12_fouls_29 rfl rfl ?_
  refine J_iload (nx := 32) dX12_fouls_30 rfl rfl ?_
  refine J_bipush (nx := 34) (i := 100) (v := 100) (by decide) dX12_fouls_32 rfl ?_
  refine J_aload_n (nx := 35) dX12_fouls_34 rfl rfl ?_
  refine Jg_63_1 (nx := 38) dX12_fouls_35 rfl fl_X12_13 ?_
  refine J_iload_n (nx := 39) dX12_fouls_38 rfl rfl ?_
  refine J_iconst (nx := 40) (i := 1) (v := 1) (by decide) dX12_fouls_39 rfl ?_
  refine JcS2 (R' := rm (0) 0 0) (nx := 43) dX12_fouls_40 rfl ml_X12_sortAt lk_X12_282 st_X12_sortAt ⟨(Nat.le_of_ble_eq_true rfl), (Nat.le_of_ble_eq_true rfl)⟩ (Nat.le_of_ble_eq_true rfl) ⟨rfl, rfl⟩ (ct_m_sortAt _ (s) (1)) ?_
  refine Ja_64 (nx := 44) dX12_fouls_43 rfl (vpE (n := 1106 + 34 * s + 1) (Eq.refl (nI (1106 + 34 * s + 1))) (by omega) (by decide)) ?_
  rw [clE (n := 1106 + 34 * s + 1) (Eq.refl (nI (1106 + 34 * s + 1))) (by omega)]
  refine J_isub (nx := 45) dX12_fouls_44 rfl ?_
  refine J_imul (nx := 46) dX12_fouls_45 rfl ?_
  refine J_bipush (nx := 48) (i := 100) (v := 100) (by decide) dX12_fouls_46 rfl ?_
  refine J_idiv (nx := 49) (by decide) dX12_fouls_48 rfl ?_
  refine Jp_63_23 (nx := 52) dX12_fouls_49 rfl fl_X12_311 ?_
  refine J.gen (fun g_49 hg_49 => ?_)
  refine J_aload_n (nx := 53) dX12_fouls_52 rfl rfl ?_
  refine J_aload_n (nx := 54) dX12_fouls_53 rfl rfl ?_
  refine Jg_63_1 (nx := 57) dX12_fouls_54 rfl fl_X12_13 ?_
  refine J_iload_n (nx := 58) dX12_fouls_57 rfl rfl ?_
  refine J_iconst (nx := 59) (i := 1) (v := 1) (by decide) dX12_fouls_58 rfl ?_
  refine JcS2 (R' := rm (0) 0 0) (nx := 62) dX12_fouls_59 rfl ml_X12_sortAt lk_X12_282 st_X12_sortAt ⟨(Nat.le_of_ble_eq_true rfl), (Nat.le_of_ble_eq_true rfl)⟩ (Nat.le_of_ble_eq_true rfl) ⟨rfl, rfl⟩ (ct_m_sortAt _ (s) (1)) ?_
  refine Ja_64 (nx := 63) dX12_fouls_62 rfl (vpE (n := 1106 + 34 * s + 1) (Eq.refl (nI (1106 + 34 * s + 1))) (by omega) (by decide)) ?_
  rw [clE (n := 1106 + 34 * s + 1) (Eq.refl (nI (1106 + 34 * s + 1))) (by omega)]
  refine J_bipush (nx := 65) (i := 100) (v := 100) (by decide) dX12_fouls_63 rfl ?_
  refine J_icmp_ne (nx := 68) (tgt := 72) dX12_fouls_65 rfl (by decide) (fun c_65 => ?_) (fun c_65 => ?_)
  · refine J_iconst (nx := 73) (i := 0) (v := 0) (by decide) dX12_fouls_72 rfl ?_
    refine Jp_63_25 (nx := 76) dX12_fouls_73 rfl fl_X12_314 (by decide) (by decide) ?_
    refine J.gen (fun g_73 hg_73 => ?_)
    unfold mFo
    rw [show mF1 g z = g_10 from hg_10.symm, show mF2 g_10 z (mCd g s c) = g_26 from hg_26.symm, show mF3 g_26 s (mCd g s c) = g_49 from hg_49.symm]
    exact Jrv dX12_fouls_76 rfl (Nat.zero_le _) (Nat.zero_le _) ⟨rfl, by unfold mF4; first | (rw [if_pos (show ¬ mSo g_49 s 1 = 100 from c_65), hg_73]) | (rw [if_neg (show ¬ ¬ mSo g_49 s 1 = 100 from fun z => z c_65), hg_73])⟩
  · refine J_iconst (nx := 69) (i := 1) (v := 1) (by decide) dX12_fouls_68 rfl ?_
    refine J_goto (nx := 73) dX12_fouls_69 (by decide) ?_
    refine Jp_63_25 (nx := 76) dX12_fouls_73 rfl fl_X12_314 (by decide) (by decide) ?_
    refine J.gen (fun g_73 hg_73 => ?_)
    unfold mFo
    rw [show mF1 g z = g_10 from hg_10.symm, show mF2 g_10 z (mCd g s c) = g_26 from hg_26.symm, show mF3 g_26 s (mCd g s c) = g_49 from hg_49.symm]
    exact Jrv dX12_fouls_76 rfl (Nat.zero_le _) (Nat.zero_le _) ⟨rfl, by unfold mF4; first | (rw [if_pos (show ¬ mSo g_49 s 1 = 100 from c_65), hg_73]) | (rw [if_neg (show ¬ ¬ mSo g_49 s 1 = 100 from fun z => z c_65), hg_73])⟩

