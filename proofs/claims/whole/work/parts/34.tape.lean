
/-! Word and Tape -/
def isL (b : Int32) : Bool := if b < 97 then false else if 122 < b then false else true
def isD (b : Int32) : Bool := if b < 48 then false else if 57 < b then false else true
def bt (g : GS) (i : Int32) : Int32 := rAt 400 (gA g 2) i
def stR (g : GS) (j : Nat) (a : Int32) : Nat → Nat → Bool
  | 0, _ => true
  | k + 1, i => if bt g (a + nI i) = wCh j i then stR g j a k (i + 1) else false
def stB (g : GS) (j : Nat) (a b : Int32) : Bool := if b - a = nI (wLen.getD j 0) then stR g j a (wLen.getD j 0) 0 else false
def ofR (g : GS) (a b : Int32) : Nat → Nat → Nat
  | 0, _ => 0
  | k + 1, i => if bI (stB g i a b) = 0 then ofR g a b k (i + 1) else i
def ofW (g : GS) (a b : Int32) : Nat := ofR g a b 23 0
theorem ofR_lt (g : GS) (a b : Int32) : ∀ k i, i + k ≤ 23 → ofR g a b k i < 23
  | 0, i, h => by show (0 : Nat) < 23; omega
  | k + 1, i, h => by
    unfold ofR
    split
    · exact ofR_lt g a b k (i + 1) (by omega)
    · omega
theorem ofW_lt (g : GS) (a b : Int32) : ofW g a b < 23 := ofR_lt g a b 23 0 (by omega)
/-- the end of a run -/
def rnE (g : GS) (P : Int32 → Bool) : Nat → Nat → Nat
  | 0, e => e
  | k + 1, e => if gF g 1 1 ≤ nI e then e else if bI (P (bt g (nI e))) = 0 then e else rnE g P k (e + 1)
def eot (g : GS) (i : Nat) : Nat := if bI (isL (bt g (nI i))) = 0 then (if bI (isD (bt g (nI i))) = 0 then i + 1 else rnE g isD 400 (i + 1)) else rnE g isL 400 (i + 1)
theorem rnE_le (g : GS) (P : Int32 → Bool) {n : Nat} (hn : gF g 1 1 = nI n) (hn4 : n ≤ 400) : ∀ k e, e ≤ n → n ≤ e + k → e ≤ rnE g P k e ∧ rnE g P k e ≤ n
  | 0, e, h, h2 => ⟨Nat.le_refl _, h⟩
  | k + 1, e, h, h2 => by
    unfold rnE
    split
    · exact ⟨Nat.le_refl _, h⟩
    · rename_i h1
      have : e < n := by
        rcases Nat.lt_or_ge e n with h3 | h3
        · exact h3
        · exact absurd (by rw [hn]; exact nI_le h3 (by omega)) h1
      split
      · exact ⟨Nat.le_refl _, h⟩
      · have := rnE_le g P hn hn4 k (e + 1) (by omega) (by omega)
        omega
theorem eot_le (g : GS) {n : Nat} (hn : gF g 1 1 = nI n) (hn4 : n ≤ 400) (i : Nat) (hi : i < n) : i < eot g i ∧ eot g i ≤ n := by
  unfold eot
  split
  · split
    · omega
    · have := rnE_le g isD hn hn4 400 (i + 1) (by omega) (by omega); omega
  · have := rnE_le g isL hn hn4 400 (i + 1) (by omega) (by omega); omega
def noR (g : GS) : Nat → Nat → Int32 → Int32
  | 0, _, v => v
  | k + 1, i, v => noR g k (i + 1) (10 * v + bt g (nI i) - 48)
def ad1 (sh four : Int32) (g : GS) : GS := sF (sA g 2 (rPut 400 (gA g 2) (gF g 1 1) (usr four sh &&& 255))) 1 1 (gF g 1 1 + 1)
def adG (four : Int32) (g : GS) : GS := ad1 0 four (ad1 8 four (ad1 16 four (ad1 24 four g)))

set_option maxRecDepth 100000 in
set_option maxHeartbeats 4000000 in
theorem ct_isLetter (g : GS) (b : Int32) : Ct mX7_isLetter (rm 0 0 0) [.int b] (Wd g) (RR (.inl (some (.int (bI (isL b))))) g) := by
  refine Ct.of (by decide +kernel) (Nat.le_of_ble_eq_true rfl) ?_
  show J _ _ _ _ 0 [some (.int b)] [] _ 0 0
  refine J_iload_n (nx := 1) dX7_isLetter_0 rfl rfl ?_
  refine J_bipush (nx := 3) (i := 97) (v := 97) (by decide) dX7_isLetter_1 rfl ?_
  refine J_icmp_lt (nx := 6) (tgt := 16) dX7_isLetter_3 rfl (by decide) (fun c_3 => ?_) (fun c_3 => ?_)
  · refine J_iconst (nx := 17) (i := 0) (v := 0) (by decide) dX7_isLetter_16 rfl ?_
    exact Jrz dX7_isLetter_17 rfl (by decide) (Nat.zero_le _) (Nat.zero_le _) ⟨(show Sum.inl (some (Value.int _)) = Sum.inl (some (Value.int (bI (isL b)))) from by unfold isL; first | (rw [if_pos c_3]; rfl) | (rw [if_neg c_3]; first | (rw [if_pos c_9]; rfl) | (rw [if_neg c_9]; rfl))), rfl⟩
  · refine J_iload_n (nx := 7) dX7_isLetter_6 rfl rfl ?_
    refine J_bipush (nx := 9) (i := 122) (v := 122) (by decide) dX7_isLetter_7 rfl ?_
    refine J_icmp_gt (nx := 12) (tgt := 16) dX7_isLetter_9 rfl (by decide) (fun c_9 => ?_) (fun c_9 => ?_)
    · refine J_iconst (nx := 17) (i := 0) (v := 0) (by decide) dX7_isLetter_16 rfl ?_
      exact Jrz dX7_isLetter_17 rfl (by decide) (Nat.zero_le _) (Nat.zero_le _) ⟨(show Sum.inl (some (Value.int _)) = Sum.inl (some (Value.int (bI (isL b)))) from by unfold isL; first | (rw [if_pos c_3]; rfl) | (rw [if_neg c_3]; first | (rw [if_pos c_9]; rfl) | (rw [if_neg c_9]; rfl))), rfl⟩
    · refine J_iconst (nx := 13) (i := 1) (v := 1) (by decide) dX7_isLetter_12 rfl ?_
      refine J_goto (nx := 17) dX7_isLetter_13 (by decide) ?_
      exact Jrz dX7_isLetter_17 rfl (by decide) (Nat.zero_le _) (Nat.zero_le _) ⟨(show Sum.inl (some (Value.int _)) = Sum.inl (some (Value.int (bI (isL b)))) from by unfold isL; first | (rw [if_pos c_3]; rfl) | (rw [if_neg c_3]; first | (rw [if_pos c_9]; rfl) | (rw [if_neg c_9]; rfl))), rfl⟩

set_option maxRecDepth 100000 in
set_option maxHeartbeats 4000000 in
theorem ct_isDigit (g : GS) (b : Int32) : Ct mX7_isDigit (rm 0 0 0) [.int b] (Wd g) (RR (.inl (some (.int (bI (isD b))))) g) := by
  refine Ct.of (by decide +kernel) (Nat.le_of_ble_eq_true rfl) ?_
  show J _ _ _ _ 0 [some (.int b)] [] _ 0 0
  refine J_iload_n (nx := 1) dX7_isDigit_0 rfl rfl ?_
  refine J_bipush (nx := 3) (i := 48) (v := 48) (by decide) dX7_isDigit_1 rfl ?_
  refine J_icmp_lt (nx := 6) (tgt := 16) dX7_isDigit_3 rfl (by decide) (fun c_3 => ?_) (fun c_3 => ?_)
  · refine J_iconst (nx := 17) (i := 0) (v := 0) (by decide) dX7_isDigit_16 rfl ?_
    exact Jrz dX7_isDigit_17 rfl (by decide) (Nat.zero_le _) (Nat.zero_le _) ⟨(show Sum.inl (some (Value.int _)) = Sum.inl (some (Value.int (bI (isD b)))) from by unfold isD; first | (rw [if_pos c_3]; rfl) | (rw [if_neg c_3]; first | (rw [if_pos c_9]; rfl) | (rw [if_neg c_9]; rfl))), rfl⟩
  · refine J_iload_n (nx := 7) dX7_isDigit_6 rfl rfl ?_
    refine J_bipush (nx := 9) (i := 57) (v := 57) (by decide) dX7_isDigit_7 rfl ?_
    refine J_icmp_gt (nx := 12) (tgt := 16) dX7_isDigit_9 rfl (by decide) (fun c_9 => ?_) (fun c_9 => ?_)
    · refine J_iconst (nx := 17) (i := 0) (v := 0) (by decide) dX7_isDigit_16 rfl ?_
      exact Jrz dX7_isDigit_17 rfl (by decide) (Nat.zero_le _) (Nat.zero_le _) ⟨(show Sum.inl (some (Value.int _)) = Sum.inl (some (Value.int (bI (isD b)))) from by unfold isD; first | (rw [if_pos c_3]; rfl) | (rw [if_neg c_3]; first | (rw [if_pos c_9]; rfl) | (rw [if_neg c_9]; rfl))), rfl⟩
    · refine J_iconst (nx := 13) (i := 1) (v := 1) (by decide) dX7_isDigit_12 rfl ?_
      refine J_goto (nx := 17) dX7_isDigit_13 (by decide) ?_
      exact Jrz dX7_isDigit_17 rfl (by decide) (Nat.zero_le _) (Nat.zero_le _) ⟨(show Sum.inl (some (Value.int _)) = Sum.inl (some (Value.int (bI (isD b)))) from by unfold isD; first | (rw [if_pos c_3]; rfl) | (rw [if_neg c_3]; first | (rw [if_pos c_9]; rfl) | (rw [if_neg c_9]; rfl))), rfl⟩

def aeB (g : GS) : Bool := if gF g 1 8 < gF g 1 1 then false else true
set_option maxRecDepth 100000 in
set_option maxHeartbeats 4000000 in
theorem ct_atEnd (g : GS) : Ct mX7_atEnd (rm 0 0 0) [.ref 1] (Wd g) (RR (.inl (some (.int (bI (aeB g))))) g) := by
  refine Ct.of (by decide +kernel) (Nat.le_of_ble_eq_true rfl) ?_
  show J _ _ _ _ 0 [some (.ref 1)] [] _ 0 0
  refine J_aload_n (nx := 1) dX7_atEnd_0 rfl rfl ?_
  refine Jg_1_8 (nx := 4) dX7_atEnd_1 rfl fl_X7_82 ?_
  refine J_aload_n (nx := 5) dX7_atEnd_4 rfl rfl ?_
  refine Jg_1_1 (nx := 8) dX7_atEnd_5 rfl fl_X7_37 ?_
  refine J_icmp_lt (nx := 11) (tgt := 15) dX7_atEnd_8 rfl (by decide) (fun c_8 => ?_) (fun c_8 => ?_)
  · refine J_iconst (nx := 16) (i := 0) (v := 0) (by decide) dX7_atEnd_15 rfl ?_
    exact Jrz dX7_atEnd_16 rfl (by decide) (Nat.zero_le _) (Nat.zero_le _) ⟨(show Sum.inl (some (Value.int _)) = Sum.inl (some (Value.int (bI (aeB g)))) from by unfold aeB; first | (rw [if_pos c_8]; rfl) | (rw [if_neg c_8]; rfl)), rfl⟩
  · refine J_iconst (nx := 12) (i := 1) (v := 1) (by decide) dX7_atEnd_11 rfl ?_
    refine J_goto (nx := 16) dX7_atEnd_12 (by decide) ?_
    exact Jrz dX7_atEnd_16 rfl (by decide) (Nat.zero_le _) (Nat.zero_le _) ⟨(show Sum.inl (some (Value.int _)) = Sum.inl (some (Value.int (bI (aeB g)))) from by unfold aeB; first | (rw [if_pos c_8]; rfl) | (rw [if_neg c_8]; rfl)), rfl⟩

set_option maxRecDepth 100000 in
set_option maxHeartbeats 4000000 in
theorem lp_stands (g : GS) (j : Nat) (hj : j < 23) (a b : Int32) (n0 : Nat) : ∀ (k : Nat) (i : Nat) (r : Bool), i + k = wLen.getD j 0 → r = stR g j a k i → J mX10_stands (rm 4 0 0) (RR (.inl (some (.int (bI r)))) g) n0 18 [some (.ref (CST + j)), some (.ref 2), some (.int a), some (.int b), some (.int (nI i))] [] (Wd g) 0 0 := by
  intro k
  induction k with
  | zero =>
    intro i r hp hr
    refine J_iload (nx := 20) dX10_stands_18 rfl rfl ?_
    refine J_aload_n (nx := 21) dX10_stands_20 rfl rfl ?_
    refine J_wletters (nx := 24) (j := j) dX10_stands_21 rfl hj gf_X10_94 ?_
    refine JkVb0 (R' := rm 1 0 0) (nx := 27) dX10_stands_24 rfl ml_J0_length_8abf5 lk_X10_109 iv_J0_length_8abf5 (kw_S (j := j) hj) ⟨(Nat.le_of_ble_eq_true rfl), (Nat.le_of_ble_eq_true rfl)⟩ (Nat.le_of_ble_eq_true rfl) ⟨rfl, rfl⟩ (ct_strlen _ j hj) ?_
    refine J_icmp_ge (nx := 30) (tgt := 58) dX10_stands_27 rfl (by decide) (fun c_27 => ?_) (fun c_27 => ?_)
    · refine J_iconst (nx := 59) (i := 1) (v := 1) (by decide) dX10_stands_58 rfl ?_
      exact Jrz dX10_stands_59 rfl (by decide) (Nat.zero_le _) (Nat.zero_le _) ⟨by rw [hr]; rfl, rfl⟩
    · exact absurd (show nI (wLen.getD j 0) ≤ nI i from by rw [show i = wLen.getD j 0 by omega]; exact le_self_nI) c_27
  | succ k ih =>
    intro i r hp hr
    have hi : i < wLen.getD j 0 := by omega
    refine J_iload (nx := 20) dX10_stands_18 rfl rfl ?_
    refine J_aload_n (nx := 21) dX10_stands_20 rfl rfl ?_
    refine J_wletters (nx := 24) (j := j) dX10_stands_21 rfl hj gf_X10_94 ?_
    refine JkVb0 (R' := rm 1 0 0) (nx := 27) dX10_stands_24 rfl ml_J0_length_8abf5 lk_X10_109 iv_J0_length_8abf5 (kw_S (j := j) hj) ⟨(Nat.le_of_ble_eq_true rfl), (Nat.le_of_ble_eq_true rfl)⟩ (Nat.le_of_ble_eq_true rfl) ⟨rfl, rfl⟩ (ct_strlen _ j hj) ?_
    refine J_icmp_ge (nx := 30) (tgt := 58) dX10_stands_27 rfl (by decide) (fun c_27 => ?_) (fun c_27 => ?_)
    · exact absurd c_27 (nlt_nI (by omega) (by have := wLen_lt j hj; omega))
    · refine J_aload_n (nx := 31) dX10_stands_30 rfl rfl ?_
      refine J_iload_n (nx := 32) dX10_stands_31 rfl rfl ?_
      refine J_iload (nx := 34) dX10_stands_32 rfl rfl ?_
      refine J_iadd (nx := 35) dX10_stands_34 rfl ?_
      refine JcS2 (R' := rm 0 0 0) (nx := 38) dX10_stands_35 rfl ml_X6_at lk_X10_115 st_X6_at ⟨(Nat.le_of_ble_eq_true rfl), (Nat.le_of_ble_eq_true rfl)⟩ (Nat.le_of_ble_eq_true rfl) ⟨rfl, rfl⟩ (ct_at _ 2 400 _ _ rfl (by decide)) ?_
      refine J_aload_n (nx := 39) dX10_stands_38 rfl rfl ?_
      refine J_wletters (nx := 42) (j := j) dX10_stands_39 rfl hj gf_X10_94 ?_
      refine J_iload (nx := 44) dX10_stands_42 rfl rfl ?_
      refine JkVb1 (R' := rm 3 0 0) (nx := 47) dX10_stands_44 rfl ml_J0_charAt_5068e lk_X10_121 iv_J0_charAt_5068e (kw_S (j := j) hj) ⟨(Nat.le_of_ble_eq_true rfl), (Nat.le_of_ble_eq_true rfl)⟩ (Nat.le_of_ble_eq_true rfl) ⟨rfl, rfl⟩ (ct_charAt _ _ j hj hi) ?_
      refine J_icmp_eq (nx := 50) (tgt := 52) dX10_stands_47 rfl (by decide) (fun c_47 => ?_) (fun c_47 => ?_)
      · refine J_iinc (nx := 55) dX10_stands_52 rfl rfl rfl (Nat.le_of_ble_eq_true rfl) ?_
        refine J_goto (nx := 18) dX10_stands_55 (by decide) ?_
        show J _ _ _ _ 18 [some (.ref (CST + j)), some (.ref 2), some (.int a), some (.int b), some (.int (nI i + Int32.ofInt 1))] [] _ 0 0
        rw [nI_s]
        exact ih (i + 1) r (by omega) (hr.trans (if_pos c_47))
      · refine J_iconst (nx := 51) (i := 0) (v := 0) (by decide) dX10_stands_50 rfl ?_
        exact Jrz dX10_stands_51 rfl (by decide) (Nat.zero_le _) (Nat.zero_le _) ⟨by rw [hr.trans (if_neg c_47)]; rfl, rfl⟩

set_option maxRecDepth 100000 in
set_option maxHeartbeats 4000000 in
theorem ct_stands (g : GS) (j : Nat) (hj : j < 23) (a b : Int32) : Ct mX10_stands (rm 4 0 0) [.ref (CST + j), .ref 2, .int a, .int b] (Wd g) (RR (.inl (some (.int (bI (stB g j a b))))) g) := by
  refine Ct.of (by decide +kernel) (Nat.le_of_ble_eq_true rfl) ?_
  show J _ _ _ _ 0 [some (.ref (CST + j)), some (.ref 2), some (.int a), some (.int b), none] [] _ 0 0
  refine J_iload_n (nx := 1) dX10_stands_0 rfl rfl ?_
  refine J_iload_n (nx := 2) dX10_stands_1 rfl rfl ?_
  refine J_isub (nx := 3) dX10_stands_2 rfl ?_
  refine J_aload_n (nx := 4) dX10_stands_3 rfl rfl ?_
  refine J_wletters (nx := 7) (j := j) dX10_stands_4 rfl hj gf_X10_94 ?_
  refine JkVb0 (R' := rm 1 0 0) (nx := 10) dX10_stands_7 rfl ml_J0_length_8abf5 lk_X10_109 iv_J0_length_8abf5 (kw_S (j := j) hj) ⟨(Nat.le_of_ble_eq_true rfl), (Nat.le_of_ble_eq_true rfl)⟩ (Nat.le_of_ble_eq_true rfl) ⟨rfl, rfl⟩ (ct_strlen _ j hj) ?_
  refine J_icmp_eq (nx := 13) (tgt := 15) dX10_stands_10 rfl (by decide) (fun c_10 => ?_) (fun c_10 => ?_)
  · refine J_iconst (nx := 16) (i := 0) (v := 0) (by decide) dX10_stands_15 rfl ?_
    refine J_istore (nx := 18) dX10_stands_16 rfl rfl (Nat.le_of_ble_eq_true rfl) ?_
    exact lp_stands g j hj a b _ (wLen.getD j 0) 0 _ (by omega) (if_pos c_10)
  · refine J_iconst (nx := 14) (i := 0) (v := 0) (by decide) dX10_stands_13 rfl ?_
    exact Jrz dX10_stands_14 rfl (by decide) (Nat.zero_le _) (Nat.zero_le _) ⟨by rw [show stB g j a b = false from if_neg c_10]; rfl, rfl⟩

set_option maxRecDepth 100000 in
set_option maxHeartbeats 4000000 in
theorem lp_of (g : GS) (a b : Int32) (n0 : Nat) : ∀ (k : Nat) (i r : Nat), i + k = 23 → r = ofR g a b k i → J mX10_of (rm 5 0 0) (RR (.inl (some (.ref (CST + r)))) g) n0 2 [some (.ref 2), some (.int a), some (.int b), some (.int (nI i))] [] (Wd g) 0 0 := by
  intro k
  induction k with
  | zero =>
    intro i r hp hr
    refine J_iload_n (nx := 3) dX10_of_2 rfl rfl ?_
    refine J_getsALL (nx := 6) dX10_of_3 rfl gs_X10_102 ?_
    refine J_alenALL (nx := 7) dX10_of_6 rfl ?_
    refine J_icmp_ge (nx := 10) (tgt := 36) dX10_of_7 rfl (by decide) (fun c_7 => ?_) (fun c_7 => ?_)
    · refine J_getsW (nx := 39) (j := 0) dX10_of_36 rfl (by decide) gs_X10_5 ?_
      exact Jra dX10_of_39 rfl (Or.inl ⟨_, rfl⟩) (Or.inr ⟨_, rfl⟩) (Nat.zero_le _) (Nat.zero_le _) (show RR _ _ _ _ from ⟨by rw [hr]; rfl, rfl⟩)
    · exact absurd (show (23 : Int32) ≤ nI i from by rw [show i = 23 by omega]; exact le_self_nI) c_7
  | succ k ih =>
    intro i r hp hr
    have hi : i < 23 := by omega
    refine J_iload_n (nx := 3) dX10_of_2 rfl rfl ?_
    refine J_getsALL (nx := 6) dX10_of_3 rfl gs_X10_102 ?_
    refine J_alenALL (nx := 7) dX10_of_6 rfl ?_
    refine J_icmp_ge (nx := 10) (tgt := 36) dX10_of_7 rfl (by decide) (fun c_7 => ?_) (fun c_7 => ?_)
    · exact absurd c_7 (nlt_nI (n := 23) (by omega) (by omega))
    · refine J_getsALL (nx := 13) dX10_of_10 rfl gs_X10_102 ?_
      refine J_iload_n (nx := 14) dX10_of_13 rfl rfl ?_
      refine J_aaldALL (nx := 15) dX10_of_14 rfl (vp_in_nI hi (by decide)) ?_
      rw [nI_clamp (by omega)]
      refine J_aload_n (nx := 16) dX10_of_15 rfl rfl ?_
      refine J_iload_n (nx := 17) dX10_of_16 rfl rfl ?_
      refine J_iload_n (nx := 18) dX10_of_17 rfl rfl ?_
      refine JkVb3 (R' := rm 4 0 0) (nx := 21) dX10_of_18 rfl ml_X10_stands lk_X10_105 iv_X10_stands (kw_W (j := i) hi) ⟨(Nat.le_of_ble_eq_true rfl), (Nat.le_of_ble_eq_true rfl)⟩ (Nat.le_of_ble_eq_true rfl) ⟨rfl, rfl⟩ (ct_stands _ i hi _ _) ?_
      refine J_if_eq (nx := 24) (tgt := 30) dX10_of_21 rfl (by decide) (fun c_21 => ?_) (fun c_21 => ?_)
      · refine J_iinc (nx := 33) dX10_of_30 rfl rfl rfl (Nat.le_of_ble_eq_true rfl) ?_
        refine J_goto (nx := 2) dX10_of_33 (by decide) ?_
        show J _ _ _ _ 2 [some (.ref 2), some (.int a), some (.int b), some (.int (nI i + Int32.ofInt 1))] [] _ 0 0
        rw [nI_s]
        exact ih (i + 1) r (by omega) (hr.trans (if_pos c_21))
      · refine J_getsALL (nx := 27) dX10_of_24 rfl gs_X10_102 ?_
        refine J_iload_n (nx := 28) dX10_of_27 rfl rfl ?_
        refine J_aaldALL (nx := 29) dX10_of_28 rfl (vp_in_nI hi (by decide)) ?_
        rw [nI_clamp (by omega)]
        exact Jra dX10_of_29 rfl (Or.inl ⟨_, rfl⟩) (Or.inr ⟨_, rfl⟩) (Nat.zero_le _) (Nat.zero_le _) ⟨by rw [hr.trans (if_neg c_21)], rfl⟩

set_option maxRecDepth 100000 in
set_option maxHeartbeats 4000000 in
theorem ct_of (g : GS) (a b : Int32) : Ct mX10_of (rm 5 0 0) [.ref 2, .int a, .int b] (Wd g) (RR (.inl (some (.ref (CST + ofW g a b)))) g) := by
  refine Ct.of (by decide +kernel) (Nat.le_of_ble_eq_true rfl) ?_
  show J _ _ _ _ 0 [some (.ref 2), some (.int a), some (.int b), none] [] _ 0 0
  refine J_iconst (nx := 1) (i := 0) (v := 0) (by decide) dX10_of_0 rfl ?_
  refine J_istore_n (nx := 2) dX10_of_1 rfl rfl (Nat.le_of_ble_eq_true rfl) ?_
  exact lp_of g a b _ 23 0 _ rfl rfl

set_option maxRecDepth 100000 in
set_option maxHeartbeats 4000000 in
theorem lp_numberOf (g : GS) (a b : Nat) (hb : b < 2 ^ 30) (n0 : Nat) : ∀ (k : Nat) (i : Nat) (v r : Int32), i + k = b → r = noR g k i v → J mX7_numberOf (rm 1 0 0) (RR (.inl (some (.int r))) g) n0 5 [some (.ref 1), some (.int (nI a)), some (.int (nI b)), some (.int v), some (.int (nI i))] [] (Wd g) 0 0 := by
  intro k
  induction k with
  | zero =>
    intro i v r hp hr
    refine J_iload (nx := 7) dX7_numberOf_5 rfl rfl ?_
    refine J_iload_n (nx := 8) dX7_numberOf_7 rfl rfl ?_
    refine J_icmp_ge (nx := 11) (tgt := 35) dX7_numberOf_8 rfl (by decide) (fun c_8 => ?_) (fun c_8 => ?_)
    · refine J_iload_n (nx := 36) dX7_numberOf_35 rfl rfl ?_
      exact Jri dX7_numberOf_36 rfl (Nat.zero_le _) (Nat.zero_le _) (RR.i hr.symm rfl)
    · exact absurd (nI_le (show b ≤ i by omega) (by omega)) c_8
  | succ k ih =>
    intro i v r hp hr
    refine J_iload (nx := 7) dX7_numberOf_5 rfl rfl ?_
    refine J_iload_n (nx := 8) dX7_numberOf_7 rfl rfl ?_
    refine J_icmp_ge (nx := 11) (tgt := 35) dX7_numberOf_8 rfl (by decide) (fun c_8 => ?_) (fun c_8 => ?_)
    · exact absurd c_8 (nlt_nI (by omega) (by omega))
    · refine J_bipush (nx := 13) (i := 10) (v := 10) (by decide) dX7_numberOf_11 rfl ?_
      refine J_iload_n (nx := 14) dX7_numberOf_13 rfl rfl ?_
      refine J_imul (nx := 15) dX7_numberOf_14 rfl ?_
      refine J_aload_n (nx := 16) dX7_numberOf_15 rfl rfl ?_
      refine Jg_1_0 (nx := 19) dX7_numberOf_16 rfl fl_X7_9 ?_
      refine J_iload (nx := 21) dX7_numberOf_19 rfl rfl ?_
      refine JcS2 (R' := rm 0 0 0) (nx := 24) dX7_numberOf_21 rfl ml_X6_at lk_X7_50 st_X6_at ⟨(Nat.le_of_ble_eq_true rfl), (Nat.le_of_ble_eq_true rfl)⟩ (Nat.le_of_ble_eq_true rfl) ⟨rfl, rfl⟩ (ct_at _ 2 400 _ _ rfl (by decide)) ?_
      refine J_iadd (nx := 25) dX7_numberOf_24 rfl ?_
      refine J_bipush (nx := 27) (i := 48) (v := 48) (by decide) dX7_numberOf_25 rfl ?_
      refine J_isub (nx := 28) dX7_numberOf_27 rfl ?_
      refine J_istore_n (nx := 29) dX7_numberOf_28 rfl rfl (Nat.le_of_ble_eq_true rfl) ?_
      refine J_iinc (nx := 32) dX7_numberOf_29 rfl rfl rfl (Nat.le_of_ble_eq_true rfl) ?_
      refine J_goto (nx := 5) dX7_numberOf_32 (by decide) ?_
      show J _ _ _ _ 5 [some (.ref 1), some (.int (nI a)), some (.int (nI b)), some (.int _), some (.int (nI i + Int32.ofInt 1))] [] _ 0 0
      rw [nI_s]
      exact ih (i + 1) _ r (by omega) hr

set_option maxRecDepth 100000 in
set_option maxHeartbeats 4000000 in
theorem ct_numberOf (g : GS) (a b : Nat) (hb : b < 2 ^ 30) (hab : a ≤ b) : Ct mX7_numberOf (rm 1 0 0) [.ref 1, .int (nI a), .int (nI b)] (Wd g) (RR (.inl (some (.int (noR g (b - a) a 0)))) g) := by
  refine Ct.of (by decide +kernel) (Nat.le_of_ble_eq_true rfl) ?_
  show J _ _ _ _ 0 [some (.ref 1), some (.int (nI a)), some (.int (nI b)), none, none] [] _ 0 0
  refine J_iconst (nx := 1) (i := 0) (v := 0) (by decide) dX7_numberOf_0 rfl ?_
  refine J_istore_n (nx := 2) dX7_numberOf_1 rfl rfl (Nat.le_of_ble_eq_true rfl) ?_
  refine J_iload_n (nx := 3) dX7_numberOf_2 rfl rfl ?_
  refine J_istore (nx := 5) dX7_numberOf_3 rfl rfl (Nat.le_of_ble_eq_true rfl) ?_
  exact lp_numberOf g a b hb _ (b - a) a 0 _ (by omega) rfl

set_option maxRecDepth 100000 in
set_option maxHeartbeats 4000000 in
theorem lp_eotL (g : GS) (n : Nat) (hn : gF g 1 1 = nI n) (hn4 : n ≤ 400) (i0 : Int32) (n0 : Nat) : ∀ (k : Nat) (e r : Nat), e ≤ n → n ≤ e + k → r = rnE g isL k e → J mX7_endOfThing (rm 1 0 0) (RR (.inl (some (.int (nI r)))) g) n0 18 [some (.ref 1), some (.int i0), some (.int (nI e))] [] (Wd g) 0 0 := by
  intro k
  induction k with
  | zero =>
    intro e r he hp hr
    refine J_iload_n (nx := 19) dX7_endOfThing_18 rfl rfl ?_
    refine J_aload_n (nx := 20) dX7_endOfThing_19 rfl rfl ?_
    refine Jg_1_1 (nx := 23) dX7_endOfThing_20 rfl fl_X7_37 ?_
    refine J_icmp_ge (nx := 26) (tgt := 88) dX7_endOfThing_23 rfl (by decide) (fun c_23 => ?_) (fun c_23 => ?_)
    · refine J_iload_n (nx := 89) dX7_endOfThing_88 rfl rfl ?_
      exact Jri dX7_endOfThing_89 rfl (Nat.zero_le _) (Nat.zero_le _) (RR.i (by rw [hr]; rfl) rfl)
    · exact absurd (by rw [hn]; exact nI_le (by omega) (by omega)) c_23
  | succ k ih =>
    intro e r he hp hr
    refine J_iload_n (nx := 19) dX7_endOfThing_18 rfl rfl ?_
    refine J_aload_n (nx := 20) dX7_endOfThing_19 rfl rfl ?_
    refine Jg_1_1 (nx := 23) dX7_endOfThing_20 rfl fl_X7_37 ?_
    refine J_icmp_ge (nx := 26) (tgt := 88) dX7_endOfThing_23 rfl (by decide) (fun c_23 => ?_) (fun c_23 => ?_)
    · refine J_iload_n (nx := 89) dX7_endOfThing_88 rfl rfl ?_
      exact Jri dX7_endOfThing_89 rfl (Nat.zero_le _) (Nat.zero_le _) (RR.i (by rw [hr]; first | rw [show rnE g isL (k + 1) e = e from if_pos c_23] | rw [show rnE g isL (k + 1) e = e from (if_neg c_23).trans (if_pos c_37)]) rfl)
    · refine J_aload_n (nx := 27) dX7_endOfThing_26 rfl rfl ?_
      refine Jg_1_0 (nx := 30) dX7_endOfThing_27 rfl fl_X7_9 ?_
      refine J_iload_n (nx := 31) dX7_endOfThing_30 rfl rfl ?_
      refine JcS2 (R' := rm 0 0 0) (nx := 34) dX7_endOfThing_31 rfl ml_X6_at lk_X7_50 st_X6_at ⟨(Nat.le_of_ble_eq_true rfl), (Nat.le_of_ble_eq_true rfl)⟩ (Nat.le_of_ble_eq_true rfl) ⟨rfl, rfl⟩ (ct_at _ 2 400 _ _ rfl (by decide)) ?_
      refine JcS1 (R' := rm 0 0 0) (nx := 37) dX7_endOfThing_34 rfl ml_X7_isLetter lk_X7_67 st_X7_isLetter ⟨(Nat.le_of_ble_eq_true rfl), (Nat.le_of_ble_eq_true rfl)⟩ (Nat.le_of_ble_eq_true rfl) ⟨rfl, rfl⟩ (ct_isLetter _ _) ?_
      refine J_if_eq (nx := 40) (tgt := 88) dX7_endOfThing_37 rfl (by decide) (fun c_37 => ?_) (fun c_37 => ?_)
      · refine J_iload_n (nx := 89) dX7_endOfThing_88 rfl rfl ?_
        exact Jri dX7_endOfThing_89 rfl (Nat.zero_le _) (Nat.zero_le _) (RR.i (by rw [hr]; first | rw [show rnE g isL (k + 1) e = e from if_pos c_23] | rw [show rnE g isL (k + 1) e = e from (if_neg c_23).trans (if_pos c_37)]) rfl)
      · refine J_iinc (nx := 43) dX7_endOfThing_40 rfl rfl rfl (Nat.le_of_ble_eq_true rfl) ?_
        refine J_goto (nx := 18) dX7_endOfThing_43 (by decide) ?_
        show J _ _ _ _ 18 [some (.ref 1), some (.int i0), some (.int (nI e + Int32.ofInt 1))] [] _ 0 0
        rw [nI_s]
        have he2 : e < n := by
          rcases Nat.lt_or_ge e n with h3 | h3
          · exact h3
          · exact absurd (by rw [hn]; exact nI_le h3 (by omega)) c_23
        exact ih (e + 1) r (by omega) (by omega) (hr.trans ((if_neg c_23).trans (if_neg c_37)))

set_option maxRecDepth 100000 in
set_option maxHeartbeats 4000000 in
theorem lp_eotD (g : GS) (n : Nat) (hn : gF g 1 1 = nI n) (hn4 : n ≤ 400) (i0 : Int32) (n0 : Nat) : ∀ (k : Nat) (e r : Nat), e ≤ n → n ≤ e + k → r = rnE g isD k e → J mX7_endOfThing (rm 1 0 0) (RR (.inl (some (.int (nI r)))) g) n0 60 [some (.ref 1), some (.int i0), some (.int (nI e))] [] (Wd g) 0 0 := by
  intro k
  induction k with
  | zero =>
    intro e r he hp hr
    refine J_iload_n (nx := 61) dX7_endOfThing_60 rfl rfl ?_
    refine J_aload_n (nx := 62) dX7_endOfThing_61 rfl rfl ?_
    refine Jg_1_1 (nx := 65) dX7_endOfThing_62 rfl fl_X7_37 ?_
    refine J_icmp_ge (nx := 68) (tgt := 88) dX7_endOfThing_65 rfl (by decide) (fun c_65 => ?_) (fun c_65 => ?_)
    · refine J_iload_n (nx := 89) dX7_endOfThing_88 rfl rfl ?_
      exact Jri dX7_endOfThing_89 rfl (Nat.zero_le _) (Nat.zero_le _) (RR.i (by rw [hr]; rfl) rfl)
    · exact absurd (by rw [hn]; exact nI_le (by omega) (by omega)) c_65
  | succ k ih =>
    intro e r he hp hr
    refine J_iload_n (nx := 61) dX7_endOfThing_60 rfl rfl ?_
    refine J_aload_n (nx := 62) dX7_endOfThing_61 rfl rfl ?_
    refine Jg_1_1 (nx := 65) dX7_endOfThing_62 rfl fl_X7_37 ?_
    refine J_icmp_ge (nx := 68) (tgt := 88) dX7_endOfThing_65 rfl (by decide) (fun c_65 => ?_) (fun c_65 => ?_)
    · refine J_iload_n (nx := 89) dX7_endOfThing_88 rfl rfl ?_
      exact Jri dX7_endOfThing_89 rfl (Nat.zero_le _) (Nat.zero_le _) (RR.i (by rw [hr]; first | rw [show rnE g isD (k + 1) e = e from if_pos c_65] | rw [show rnE g isD (k + 1) e = e from (if_neg c_65).trans (if_pos c_79)]) rfl)
    · refine J_aload_n (nx := 69) dX7_endOfThing_68 rfl rfl ?_
      refine Jg_1_0 (nx := 72) dX7_endOfThing_69 rfl fl_X7_9 ?_
      refine J_iload_n (nx := 73) dX7_endOfThing_72 rfl rfl ?_
      refine JcS2 (R' := rm 0 0 0) (nx := 76) dX7_endOfThing_73 rfl ml_X6_at lk_X7_50 st_X6_at ⟨(Nat.le_of_ble_eq_true rfl), (Nat.le_of_ble_eq_true rfl)⟩ (Nat.le_of_ble_eq_true rfl) ⟨rfl, rfl⟩ (ct_at _ 2 400 _ _ rfl (by decide)) ?_
      refine JcS1 (R' := rm 0 0 0) (nx := 79) dX7_endOfThing_76 rfl ml_X7_isDigit lk_X7_71 st_X7_isDigit ⟨(Nat.le_of_ble_eq_true rfl), (Nat.le_of_ble_eq_true rfl)⟩ (Nat.le_of_ble_eq_true rfl) ⟨rfl, rfl⟩ (ct_isDigit _ _) ?_
      refine J_if_eq (nx := 82) (tgt := 88) dX7_endOfThing_79 rfl (by decide) (fun c_79 => ?_) (fun c_79 => ?_)
      · refine J_iload_n (nx := 89) dX7_endOfThing_88 rfl rfl ?_
        exact Jri dX7_endOfThing_89 rfl (Nat.zero_le _) (Nat.zero_le _) (RR.i (by rw [hr]; first | rw [show rnE g isD (k + 1) e = e from if_pos c_65] | rw [show rnE g isD (k + 1) e = e from (if_neg c_65).trans (if_pos c_79)]) rfl)
      · refine J_iinc (nx := 85) dX7_endOfThing_82 rfl rfl rfl (Nat.le_of_ble_eq_true rfl) ?_
        refine J_goto (nx := 60) dX7_endOfThing_85 (by decide) ?_
        show J _ _ _ _ 60 [some (.ref 1), some (.int i0), some (.int (nI e + Int32.ofInt 1))] [] _ 0 0
        rw [nI_s]
        have he2 : e < n := by
          rcases Nat.lt_or_ge e n with h3 | h3
          · exact h3
          · exact absurd (by rw [hn]; exact nI_le h3 (by omega)) c_65
        exact ih (e + 1) r (by omega) (by omega) (hr.trans ((if_neg c_65).trans (if_neg c_79)))

set_option maxRecDepth 100000 in
set_option maxHeartbeats 4000000 in
theorem ct_endOfThing (g : GS) (n i : Nat) (hn : gF g 1 1 = nI n) (hn4 : n ≤ 400) (hi : i < n) : Ct mX7_endOfThing (rm 1 0 0) [.ref 1, .int (nI i)] (Wd g) (RR (.inl (some (.int (nI (eot g i))))) g) := by
  refine Ct.of (by decide +kernel) (Nat.le_of_ble_eq_true rfl) ?_
  show J _ _ _ _ 0 [some (.ref 1), some (.int (nI i)), none] [] _ 0 0
  refine J_iload_n (nx := 1) dX7_endOfThing_0 rfl rfl ?_
  refine J_iconst (nx := 2) (i := 1) (v := 1) (by decide) dX7_endOfThing_1 rfl ?_
  refine J_iadd (nx := 3) dX7_endOfThing_2 rfl ?_
  rw [nI_1]
  refine J_istore_n (nx := 4) dX7_endOfThing_3 rfl rfl (Nat.le_of_ble_eq_true rfl) ?_
  refine J_aload_n (nx := 5) dX7_endOfThing_4 rfl rfl ?_
  refine Jg_1_0 (nx := 8) dX7_endOfThing_5 rfl fl_X7_9 ?_
  refine J_iload_n (nx := 9) dX7_endOfThing_8 rfl rfl ?_
  refine JcS2 (R' := rm 0 0 0) (nx := 12) dX7_endOfThing_9 rfl ml_X6_at lk_X7_50 st_X6_at ⟨(Nat.le_of_ble_eq_true rfl), (Nat.le_of_ble_eq_true rfl)⟩ (Nat.le_of_ble_eq_true rfl) ⟨rfl, rfl⟩ (ct_at _ 2 400 _ _ rfl (by decide)) ?_
  refine JcS1 (R' := rm 0 0 0) (nx := 15) dX7_endOfThing_12 rfl ml_X7_isLetter lk_X7_67 st_X7_isLetter ⟨(Nat.le_of_ble_eq_true rfl), (Nat.le_of_ble_eq_true rfl)⟩ (Nat.le_of_ble_eq_true rfl) ⟨rfl, rfl⟩ (ct_isLetter _ _) ?_
  refine J_if_eq (nx := 18) (tgt := 46) dX7_endOfThing_15 rfl (by decide) (fun c_15 => ?_) (fun c_15 => ?_)
  · refine J_aload_n (nx := 47) dX7_endOfThing_46 rfl rfl ?_
    refine Jg_1_0 (nx := 50) dX7_endOfThing_47 rfl fl_X7_9 ?_
    refine J_iload_n (nx := 51) dX7_endOfThing_50 rfl rfl ?_
    refine JcS2 (R' := rm 0 0 0) (nx := 54) dX7_endOfThing_51 rfl ml_X6_at lk_X7_50 st_X6_at ⟨(Nat.le_of_ble_eq_true rfl), (Nat.le_of_ble_eq_true rfl)⟩ (Nat.le_of_ble_eq_true rfl) ⟨rfl, rfl⟩ (ct_at _ 2 400 _ _ rfl (by decide)) ?_
    refine JcS1 (R' := rm 0 0 0) (nx := 57) dX7_endOfThing_54 rfl ml_X7_isDigit lk_X7_71 st_X7_isDigit ⟨(Nat.le_of_ble_eq_true rfl), (Nat.le_of_ble_eq_true rfl)⟩ (Nat.le_of_ble_eq_true rfl) ⟨rfl, rfl⟩ (ct_isDigit _ _) ?_
    refine J_if_eq (nx := 60) (tgt := 88) dX7_endOfThing_57 rfl (by decide) (fun c_57 => ?_) (fun c_57 => ?_)
    · refine J_iload_n (nx := 89) dX7_endOfThing_88 rfl rfl ?_
      exact Jri dX7_endOfThing_89 rfl (Nat.zero_le _) (Nat.zero_le _) (RR.i (by rw [show eot g i = i + 1 from (if_pos c_15).trans (if_pos c_57)]) rfl)
    · exact lp_eotD g n hn hn4 _ _ 400 (i + 1) _ (by omega) (by omega) ((if_pos c_15).trans (if_neg c_57))
  · exact lp_eotL g n hn hn4 _ _ 400 (i + 1) _ (by omega) (by omega) (if_neg c_15)

set_option maxRecDepth 100000 in
set_option maxHeartbeats 4000000 in
theorem ct_add (g : GS) (four : Int32) : Ct mX7_add (rm 1 0 0) [.ref 1, .int four] (Wd g) (RR (.inl none) (adG four g)) := by
  refine Ct.of (by decide +kernel) (Nat.le_of_ble_eq_true rfl) ?_
  show J _ _ _ _ 0 [some (.ref 1), some (.int four), none] [] _ 0 0
  refine J_bipush (nx := 2) (i := 24) (v := 24) (by decide) dX7_add_0 rfl ?_
  refine J_istore_n (nx := 3) dX7_add_2 rfl rfl (Nat.le_of_ble_eq_true rfl) ?_
  skip
  refine J_iload_n (nx := 4) dX7_add_3 rfl rfl ?_
  refine J_if_lt (nx := 7) (tgt := 41) dX7_add_4 rfl (by decide) (fun c_4 => ?_) (fun c_4 => ?_)
  · exact absurd c_4 (by decide)
  · refine J_aload_n (nx := 8) dX7_add_7 rfl rfl ?_
    refine Jg_1_0 (nx := 11) dX7_add_8 rfl fl_X7_9 ?_
    refine J_aload_n (nx := 12) dX7_add_11 rfl rfl ?_
    refine Jg_1_1 (nx := 15) dX7_add_12 rfl fl_X7_37 ?_
    refine J_iload_n (nx := 16) dX7_add_15 rfl rfl ?_
    refine J_iload_n (nx := 17) dX7_add_16 rfl rfl ?_
    refine J_iushr (nx := 18) dX7_add_17 rfl ?_
    refine J_sipush (nx := 21) (i := 255) (v := 255) (by decide) dX7_add_18 rfl ?_
    refine J_iand (nx := 22) dX7_add_21 rfl ?_
    refine JcS3 (R' := rm 0 0 0) (nx := 25) dX7_add_22 rfl ml_X6_put lk_X7_41 st_X6_put ⟨(Nat.le_of_ble_eq_true rfl), (Nat.le_of_ble_eq_true rfl)⟩ (Nat.le_of_ble_eq_true rfl) ⟨rfl, rfl⟩ (ct_put _ 2 400 _ _ rfl (fun _ => rfl) (by decide)) ?_
    refine J.gen (fun g_22 hg_22 => ?_)
    refine J_aload_n (nx := 26) dX7_add_25 rfl rfl ?_
    refine J_dup (nx := 27) rfl dX7_add_26 rfl ?_
    refine Jg_1_1 (nx := 30) dX7_add_27 rfl fl_X7_37 ?_
    refine J_iconst (nx := 31) (i := 1) (v := 1) (by decide) dX7_add_30 rfl ?_
    refine J_iadd (nx := 32) dX7_add_31 rfl ?_
    refine Jp_1_1 (nx := 35) dX7_add_32 rfl fl_X7_37 ?_
    refine J.gen (fun g_32 hg_32 => ?_)
    have a1 : ad1 24 four g = g_32 := by rw [hg_32, hg_22]; rfl
    refine J_iinc (nx := 38) dX7_add_35 rfl rfl rfl (Nat.le_of_ble_eq_true rfl) ?_
    refine J_goto (nx := 3) dX7_add_38 (by decide) ?_
    rw [show (24 : Int32) + Int32.ofInt (-8) = 16 from by decide]
    refine J_iload_n (nx := 4) dX7_add_3 rfl rfl ?_
    refine J_if_lt (nx := 7) (tgt := 41) dX7_add_4 rfl (by decide) (fun c_4 => ?_) (fun c_4 => ?_)
    · exact absurd c_4 (by decide)
    · refine J_aload_n (nx := 8) dX7_add_7 rfl rfl ?_
      refine Jg_1_0 (nx := 11) dX7_add_8 rfl fl_X7_9 ?_
      refine J_aload_n (nx := 12) dX7_add_11 rfl rfl ?_
      refine Jg_1_1 (nx := 15) dX7_add_12 rfl fl_X7_37 ?_
      refine J_iload_n (nx := 16) dX7_add_15 rfl rfl ?_
      refine J_iload_n (nx := 17) dX7_add_16 rfl rfl ?_
      refine J_iushr (nx := 18) dX7_add_17 rfl ?_
      refine J_sipush (nx := 21) (i := 255) (v := 255) (by decide) dX7_add_18 rfl ?_
      refine J_iand (nx := 22) dX7_add_21 rfl ?_
      refine JcS3 (R' := rm 0 0 0) (nx := 25) dX7_add_22 rfl ml_X6_put lk_X7_41 st_X6_put ⟨(Nat.le_of_ble_eq_true rfl), (Nat.le_of_ble_eq_true rfl)⟩ (Nat.le_of_ble_eq_true rfl) ⟨rfl, rfl⟩ (ct_put _ 2 400 _ _ rfl (fun _ => rfl) (by decide)) ?_
      refine J.gen (fun g_22_2 hg_22_2 => ?_)
      refine J_aload_n (nx := 26) dX7_add_25 rfl rfl ?_
      refine J_dup (nx := 27) rfl dX7_add_26 rfl ?_
      refine Jg_1_1 (nx := 30) dX7_add_27 rfl fl_X7_37 ?_
      refine J_iconst (nx := 31) (i := 1) (v := 1) (by decide) dX7_add_30 rfl ?_
      refine J_iadd (nx := 32) dX7_add_31 rfl ?_
      refine Jp_1_1 (nx := 35) dX7_add_32 rfl fl_X7_37 ?_
      refine J.gen (fun g_32_2 hg_32_2 => ?_)
      have a2 : ad1 16 four g_32 = g_32_2 := by rw [hg_32_2, hg_22_2]; rfl
      refine J_iinc (nx := 38) dX7_add_35 rfl rfl rfl (Nat.le_of_ble_eq_true rfl) ?_
      refine J_goto (nx := 3) dX7_add_38 (by decide) ?_
      rw [show (16 : Int32) + Int32.ofInt (-8) = 8 from by decide]
      refine J_iload_n (nx := 4) dX7_add_3 rfl rfl ?_
      refine J_if_lt (nx := 7) (tgt := 41) dX7_add_4 rfl (by decide) (fun c_4 => ?_) (fun c_4 => ?_)
      · exact absurd c_4 (by decide)
      · refine J_aload_n (nx := 8) dX7_add_7 rfl rfl ?_
        refine Jg_1_0 (nx := 11) dX7_add_8 rfl fl_X7_9 ?_
        refine J_aload_n (nx := 12) dX7_add_11 rfl rfl ?_
        refine Jg_1_1 (nx := 15) dX7_add_12 rfl fl_X7_37 ?_
        refine J_iload_n (nx := 16) dX7_add_15 rfl rfl ?_
        refine J_iload_n (nx := 17) dX7_add_16 rfl rfl ?_
        refine J_iushr (nx := 18) dX7_add_17 rfl ?_
        refine J_sipush (nx := 21) (i := 255) (v := 255) (by decide) dX7_add_18 rfl ?_
        refine J_iand (nx := 22) dX7_add_21 rfl ?_
        refine JcS3 (R' := rm 0 0 0) (nx := 25) dX7_add_22 rfl ml_X6_put lk_X7_41 st_X6_put ⟨(Nat.le_of_ble_eq_true rfl), (Nat.le_of_ble_eq_true rfl)⟩ (Nat.le_of_ble_eq_true rfl) ⟨rfl, rfl⟩ (ct_put _ 2 400 _ _ rfl (fun _ => rfl) (by decide)) ?_
        refine J.gen (fun g_22_3 hg_22_3 => ?_)
        refine J_aload_n (nx := 26) dX7_add_25 rfl rfl ?_
        refine J_dup (nx := 27) rfl dX7_add_26 rfl ?_
        refine Jg_1_1 (nx := 30) dX7_add_27 rfl fl_X7_37 ?_
        refine J_iconst (nx := 31) (i := 1) (v := 1) (by decide) dX7_add_30 rfl ?_
        refine J_iadd (nx := 32) dX7_add_31 rfl ?_
        refine Jp_1_1 (nx := 35) dX7_add_32 rfl fl_X7_37 ?_
        refine J.gen (fun g_32_3 hg_32_3 => ?_)
        have a3 : ad1 8 four g_32_2 = g_32_3 := by rw [hg_32_3, hg_22_3]; rfl
        refine J_iinc (nx := 38) dX7_add_35 rfl rfl rfl (Nat.le_of_ble_eq_true rfl) ?_
        refine J_goto (nx := 3) dX7_add_38 (by decide) ?_
        rw [show (8 : Int32) + Int32.ofInt (-8) = 0 from by decide]
        refine J_iload_n (nx := 4) dX7_add_3 rfl rfl ?_
        refine J_if_lt (nx := 7) (tgt := 41) dX7_add_4 rfl (by decide) (fun c_4 => ?_) (fun c_4 => ?_)
        · exact absurd c_4 (by decide)
        · refine J_aload_n (nx := 8) dX7_add_7 rfl rfl ?_
          refine Jg_1_0 (nx := 11) dX7_add_8 rfl fl_X7_9 ?_
          refine J_aload_n (nx := 12) dX7_add_11 rfl rfl ?_
          refine Jg_1_1 (nx := 15) dX7_add_12 rfl fl_X7_37 ?_
          refine J_iload_n (nx := 16) dX7_add_15 rfl rfl ?_
          refine J_iload_n (nx := 17) dX7_add_16 rfl rfl ?_
          refine J_iushr (nx := 18) dX7_add_17 rfl ?_
          refine J_sipush (nx := 21) (i := 255) (v := 255) (by decide) dX7_add_18 rfl ?_
          refine J_iand (nx := 22) dX7_add_21 rfl ?_
          refine JcS3 (R' := rm 0 0 0) (nx := 25) dX7_add_22 rfl ml_X6_put lk_X7_41 st_X6_put ⟨(Nat.le_of_ble_eq_true rfl), (Nat.le_of_ble_eq_true rfl)⟩ (Nat.le_of_ble_eq_true rfl) ⟨rfl, rfl⟩ (ct_put _ 2 400 _ _ rfl (fun _ => rfl) (by decide)) ?_
          refine J.gen (fun g_22_4 hg_22_4 => ?_)
          refine J_aload_n (nx := 26) dX7_add_25 rfl rfl ?_
          refine J_dup (nx := 27) rfl dX7_add_26 rfl ?_
          refine Jg_1_1 (nx := 30) dX7_add_27 rfl fl_X7_37 ?_
          refine J_iconst (nx := 31) (i := 1) (v := 1) (by decide) dX7_add_30 rfl ?_
          refine J_iadd (nx := 32) dX7_add_31 rfl ?_
          refine Jp_1_1 (nx := 35) dX7_add_32 rfl fl_X7_37 ?_
          refine J.gen (fun g_32_4 hg_32_4 => ?_)
          have a4 : ad1 0 four g_32_3 = g_32_4 := by rw [hg_32_4, hg_22_4]; rfl
          refine J_iinc (nx := 38) dX7_add_35 rfl rfl rfl (Nat.le_of_ble_eq_true rfl) ?_
          refine J_goto (nx := 3) dX7_add_38 (by decide) ?_
          rw [show (0 : Int32) + Int32.ofInt (-8) = -8 from by decide]
          refine J_iload_n (nx := 4) dX7_add_3 rfl rfl ?_
          refine J_if_lt (nx := 7) (tgt := 41) dX7_add_4 rfl (by decide) (fun c_4 => ?_) (fun c_4 => ?_)
          · exact Jrv dX7_add_41 rfl (Nat.zero_le _) (Nat.zero_le _) ⟨rfl, by unfold adG; rw [a1, a2, a3, a4]⟩
          · exact absurd (by decide) c_4

