
def sI (f : Nat → Int32) : Nat → Int32
  | 0 => 0
  | n + 1 => sI f n + f n
theorem nI_s (w : Nat) : nI w + Int32.ofInt 1 = nI (w + 1) := nI_1 w
theorem cge {w N : Nat} (h1 : w ≤ N) (hN : N < 2 ^ 31) (c : Int32.ofNat N ≤ nI w) : w = N := by
  have := (nI_leI hN (by omega)).mp (show nI N ≤ nI w from c)
  omega
theorem clt {w N : Nat} (h1 : w ≤ N) (hN : N < 2 ^ 31) (c : ¬ Int32.ofNat N ≤ nI w) : w < N := by
  rcases Nat.lt_or_ge w N with h | h
  · exact h
  · exact absurd (show Int32.ofNat N ≤ nI w from nI_le h (by omega)) c
/-! what Book's methods answer (b: the place of the Book) -/
def bk_ch (g : GS) (b : Nat) (st w : Int32) : Int32 := rAt 1088 (gA g (b + 1)) (34 * st + w)
def bk_ct (g : GS) (b : Nat) (st : Int32) : Int32 := sI (fun w => bk_ch g b st (nI w)) 34
def bk_lv (g : GS) (b : Nat) : Nat → Int32
  | 0 => 0
  | n + 1 => if bk_ct g b (nI n) ≤ bk_ch g b (nI n) (nI n) then bk_lv g b n else bk_lv g b n + 1
def bk_rt (g : GS) (b : Nat) (so st : Int32) : Int32 := rAt 192 (gA g (b + 5)) (32 * so + st)
def bk_rs (g : GS) (b : Nat) (so : Int32) : Int32 := sI (fun s => bk_rt g b so (nI s)) 32
def bk_cn (g : GS) (b : Nat) (so : Int32) : Int32 := if gF g b 17 ≤ 0 then rAt 6 (gA g (b + 3)) so else rAt 6 (gA g (b + 3)) so + bk_rs g b so / gF g b 17
def bk_sw (g : GS) (b : Nat) (z card : Int32) : Int32 := rAt 8 (gA g (b + 2)) z + card
def bk_aw (g : GS) (b : Nat) (so card : Int32) : Int32 := card * (100 - rAt 6 (gA g (b + 4)) so) / 100
def bk_rr (g : GS) (b : Nat) (n : Nat) : Int32 := sI (fun s => bk_rs g b (nI s)) n
def bk_sr (g : GS) (b : Nat) (so st n : Int32) : GS := sA g (b + 5) (rPut 192 (gA g (b + 5)) (32 * so + st) n)
def bk_as (g : GS) (b : Nat) (card forg : Int32) : GS :=
  sF (sA (sA g (b + 3) (rPut 6 (gA g (b + 3)) (gF g b 11) card)) (b + 4) (rPut 6 (gA g (b + 4)) (gF g b 11) forg)) b 11 (gF g b 11 + 1)

set_option maxRecDepth 100000 in
set_option maxHeartbeats 4000000 in
theorem ct_X1_chance_20 (g : GS) (st w : Int32) : Ct mX1_chance (rm 1 0 0) [.ref 20, .int st, .int w] (Wd g) (RR (.inl (some (.int (bk_ch g 20 st w)))) g) := by
  refine Ct.of (by decide +kernel) (Nat.le_of_ble_eq_true rfl) ?_
  show J _ _ _ _ 0 [some (.ref 20), some (.int st), some (.int w)] [] _ 0 0
  refine J_aload_n (nx := 1) dX1_chance_0 rfl rfl ?_
  refine Jg_20_0 (nx := 4) dX1_chance_1 rfl fl_X1_11 ?_
  refine J_bipush (nx := 6) (i := 34) (v := 34) (by decide) dX1_chance_4 rfl ?_
  refine J_iload_n (nx := 7) dX1_chance_6 rfl rfl ?_
  refine J_imul (nx := 8) dX1_chance_7 rfl ?_
  refine J_iload_n (nx := 9) dX1_chance_8 rfl rfl ?_
  refine J_iadd (nx := 10) dX1_chance_9 rfl ?_
  refine JcS2 (R' := rm 0 0 0) (nx := 13) dX1_chance_10 rfl ml_X6_at lk_X1_79 st_X6_at ⟨(Nat.le_of_ble_eq_true rfl), (Nat.le_of_ble_eq_true rfl)⟩ (Nat.le_of_ble_eq_true rfl) ⟨rfl, rfl⟩ (ct_at _ 21 1088 _ _ rfl (by decide)) ?_
  exact Jri dX1_chance_13 rfl (Nat.zero_le _) (Nat.zero_le _) ⟨rfl, rfl⟩

set_option maxRecDepth 100000 in
set_option maxHeartbeats 4000000 in
theorem lp_X1_chancesTogether_20 (g : GS) (st : Int32) (n0 : Nat) : ∀ (k w : Nat), w ≤ 34 → 34 + 1 ≤ w + k → J mX1_chancesTogether (rm 2 0 0) (RR (.inl (some (.int (bk_ct g 20 st)))) g) n0 4 [some (.ref 20), some (.int st), some (.int (sI (fun w => bk_ch g 20 st (nI w)) w)), some (.int (nI w))] [] (Wd g) 0 0 := by
  intro k
  induction k with
  | zero => intro w h1 h2; exact absurd h2 (by omega)
  | succ k ih =>
    intro w h1 h2
    refine J_iload_n (nx := 5) dX1_chancesTogether_4 rfl rfl ?_
    refine J_bipush (nx := 7) (i := 34) (v := 34) (by decide) dX1_chancesTogether_5 rfl ?_
    refine J_icmp_ge (nx := 10) (tgt := 25) dX1_chancesTogether_7 rfl (by decide) (fun c_7 => ?_) (fun c_7 => ?_)
    · obtain rfl : w = 34 := cge h1 (by omega) c_7
      refine J_iload_n (nx := 26) dX1_chancesTogether_25 rfl rfl ?_
      exact Jri dX1_chancesTogether_26 rfl (Nat.zero_le _) (Nat.zero_le _) ⟨rfl, rfl⟩
    · have hw : w < 34 := clt h1 (by omega) c_7
      refine J_iload_n (nx := 11) dX1_chancesTogether_10 rfl rfl ?_
      refine J_aload_n (nx := 12) dX1_chancesTogether_11 rfl rfl ?_
      refine J_iload_n (nx := 13) dX1_chancesTogether_12 rfl rfl ?_
      refine J_iload_n (nx := 14) dX1_chancesTogether_13 rfl rfl ?_
      refine JcV2 (R' := rm 1 0 0) (nx := 17) dX1_chancesTogether_14 rfl ml_X1_chance lk_X1_87 iv_X1_chance rfl rfl ⟨(Nat.le_of_ble_eq_true rfl), (Nat.le_of_ble_eq_true rfl)⟩ (Nat.le_of_ble_eq_true rfl) ⟨rfl, rfl⟩ (ct_X1_chance_20 _ _ _) ?_
      refine J_iadd (nx := 18) dX1_chancesTogether_17 rfl ?_
      refine J_istore_n (nx := 19) dX1_chancesTogether_18 rfl rfl (Nat.le_of_ble_eq_true rfl) ?_
      refine J_iinc (nx := 22) dX1_chancesTogether_19 rfl rfl rfl (Nat.le_of_ble_eq_true rfl) ?_
      refine J_goto (nx := 4) dX1_chancesTogether_22 (by decide) ?_
      show J _ _ _ _ 4 [some (.ref 20), some (.int st), some (.int (sI (fun w => bk_ch g 20 st (nI w)) (w + 1))), some (.int (nI w + Int32.ofInt 1))] [] _ 0 0
      rw [nI_s w]
      exact ih (w + 1) (by omega) (by omega)

set_option maxRecDepth 100000 in
set_option maxHeartbeats 4000000 in
theorem ct_X1_chancesTogether_20 (g : GS) (st : Int32) : Ct mX1_chancesTogether (rm 2 0 0) [.ref 20, .int st] (Wd g) (RR (.inl (some (.int (bk_ct g 20 st)))) g) := by
  refine Ct.of (by decide +kernel) (Nat.le_of_ble_eq_true rfl) ?_
  show J _ _ _ _ 0 [some (.ref 20), some (.int st), none, none] [] _ 0 0
  refine J_iconst (nx := 1) (i := 0) (v := 0) (by decide) dX1_chancesTogether_0 rfl ?_
  refine J_istore_n (nx := 2) dX1_chancesTogether_1 rfl rfl (Nat.le_of_ble_eq_true rfl) ?_
  refine J_iconst (nx := 3) (i := 0) (v := 0) (by decide) dX1_chancesTogether_2 rfl ?_
  refine J_istore_n (nx := 4) dX1_chancesTogether_3 rfl rfl (Nat.le_of_ble_eq_true rfl) ?_
  exact lp_X1_chancesTogether_20 g st _ 35 0 (by omega) (by omega)

set_option maxRecDepth 100000 in
set_option maxHeartbeats 4000000 in
theorem ct_X1_chance_8 (g : GS) (st w : Int32) : Ct mX1_chance (rm 1 0 0) [.ref 8, .int st, .int w] (Wd g) (RR (.inl (some (.int (bk_ch g 8 st w)))) g) := by
  refine Ct.of (by decide +kernel) (Nat.le_of_ble_eq_true rfl) ?_
  show J _ _ _ _ 0 [some (.ref 8), some (.int st), some (.int w)] [] _ 0 0
  refine J_aload_n (nx := 1) dX1_chance_0 rfl rfl ?_
  refine Jg_8_0 (nx := 4) dX1_chance_1 rfl fl_X1_11 ?_
  refine J_bipush (nx := 6) (i := 34) (v := 34) (by decide) dX1_chance_4 rfl ?_
  refine J_iload_n (nx := 7) dX1_chance_6 rfl rfl ?_
  refine J_imul (nx := 8) dX1_chance_7 rfl ?_
  refine J_iload_n (nx := 9) dX1_chance_8 rfl rfl ?_
  refine J_iadd (nx := 10) dX1_chance_9 rfl ?_
  refine JcS2 (R' := rm 0 0 0) (nx := 13) dX1_chance_10 rfl ml_X6_at lk_X1_79 st_X6_at ⟨(Nat.le_of_ble_eq_true rfl), (Nat.le_of_ble_eq_true rfl)⟩ (Nat.le_of_ble_eq_true rfl) ⟨rfl, rfl⟩ (ct_at _ 9 1088 _ _ rfl (by decide)) ?_
  exact Jri dX1_chance_13 rfl (Nat.zero_le _) (Nat.zero_le _) ⟨rfl, rfl⟩

set_option maxRecDepth 100000 in
set_option maxHeartbeats 4000000 in
theorem lp_X1_chancesTogether_8 (g : GS) (st : Int32) (n0 : Nat) : ∀ (k w : Nat), w ≤ 34 → 34 + 1 ≤ w + k → J mX1_chancesTogether (rm 2 0 0) (RR (.inl (some (.int (bk_ct g 8 st)))) g) n0 4 [some (.ref 8), some (.int st), some (.int (sI (fun w => bk_ch g 8 st (nI w)) w)), some (.int (nI w))] [] (Wd g) 0 0 := by
  intro k
  induction k with
  | zero => intro w h1 h2; exact absurd h2 (by omega)
  | succ k ih =>
    intro w h1 h2
    refine J_iload_n (nx := 5) dX1_chancesTogether_4 rfl rfl ?_
    refine J_bipush (nx := 7) (i := 34) (v := 34) (by decide) dX1_chancesTogether_5 rfl ?_
    refine J_icmp_ge (nx := 10) (tgt := 25) dX1_chancesTogether_7 rfl (by decide) (fun c_7 => ?_) (fun c_7 => ?_)
    · obtain rfl : w = 34 := cge h1 (by omega) c_7
      refine J_iload_n (nx := 26) dX1_chancesTogether_25 rfl rfl ?_
      exact Jri dX1_chancesTogether_26 rfl (Nat.zero_le _) (Nat.zero_le _) ⟨rfl, rfl⟩
    · have hw : w < 34 := clt h1 (by omega) c_7
      refine J_iload_n (nx := 11) dX1_chancesTogether_10 rfl rfl ?_
      refine J_aload_n (nx := 12) dX1_chancesTogether_11 rfl rfl ?_
      refine J_iload_n (nx := 13) dX1_chancesTogether_12 rfl rfl ?_
      refine J_iload_n (nx := 14) dX1_chancesTogether_13 rfl rfl ?_
      refine JcV2 (R' := rm 1 0 0) (nx := 17) dX1_chancesTogether_14 rfl ml_X1_chance lk_X1_87 iv_X1_chance rfl rfl ⟨(Nat.le_of_ble_eq_true rfl), (Nat.le_of_ble_eq_true rfl)⟩ (Nat.le_of_ble_eq_true rfl) ⟨rfl, rfl⟩ (ct_X1_chance_8 _ _ _) ?_
      refine J_iadd (nx := 18) dX1_chancesTogether_17 rfl ?_
      refine J_istore_n (nx := 19) dX1_chancesTogether_18 rfl rfl (Nat.le_of_ble_eq_true rfl) ?_
      refine J_iinc (nx := 22) dX1_chancesTogether_19 rfl rfl rfl (Nat.le_of_ble_eq_true rfl) ?_
      refine J_goto (nx := 4) dX1_chancesTogether_22 (by decide) ?_
      show J _ _ _ _ 4 [some (.ref 8), some (.int st), some (.int (sI (fun w => bk_ch g 8 st (nI w)) (w + 1))), some (.int (nI w + Int32.ofInt 1))] [] _ 0 0
      rw [nI_s w]
      exact ih (w + 1) (by omega) (by omega)

set_option maxRecDepth 100000 in
set_option maxHeartbeats 4000000 in
theorem ct_X1_chancesTogether_8 (g : GS) (st : Int32) : Ct mX1_chancesTogether (rm 2 0 0) [.ref 8, .int st] (Wd g) (RR (.inl (some (.int (bk_ct g 8 st)))) g) := by
  refine Ct.of (by decide +kernel) (Nat.le_of_ble_eq_true rfl) ?_
  show J _ _ _ _ 0 [some (.ref 8), some (.int st), none, none] [] _ 0 0
  refine J_iconst (nx := 1) (i := 0) (v := 0) (by decide) dX1_chancesTogether_0 rfl ?_
  refine J_istore_n (nx := 2) dX1_chancesTogether_1 rfl rfl (Nat.le_of_ble_eq_true rfl) ?_
  refine J_iconst (nx := 3) (i := 0) (v := 0) (by decide) dX1_chancesTogether_2 rfl ?_
  refine J_istore_n (nx := 4) dX1_chancesTogether_3 rfl rfl (Nat.le_of_ble_eq_true rfl) ?_
  exact lp_X1_chancesTogether_8 g st _ 35 0 (by omega) (by omega)

set_option maxRecDepth 100000 in
set_option maxHeartbeats 4000000 in
theorem lp_X1_livelyStates (g : GS) (n0 : Nat) : ∀ (k w : Nat), w ≤ 32 → 32 + 1 ≤ w + k → J mX1_livelyStates (rm 3 0 0) (RR (.inl (some (.int (bk_lv g 20 32)))) g) n0 4 [some (.ref 20), some (.int (bk_lv g 20 w)), some (.int (nI w))] [] (Wd g) 0 0 := by
  intro k
  induction k with
  | zero => intro w h1 h2; exact absurd h2 (by omega)
  | succ k ih =>
    intro w h1 h2
    refine J_iload_n (nx := 5) dX1_livelyStates_4 rfl rfl ?_
    refine J_bipush (nx := 7) (i := 32) (v := 32) (by decide) dX1_livelyStates_5 rfl ?_
    refine J_icmp_ge (nx := 10) (tgt := 33) dX1_livelyStates_7 rfl (by decide) (fun c_7 => ?_) (fun c_7 => ?_)
    · obtain rfl : w = 32 := cge h1 (by omega) c_7
      refine J_iload_n (nx := 34) dX1_livelyStates_33 rfl rfl ?_
      exact Jri dX1_livelyStates_34 rfl (Nat.zero_le _) (Nat.zero_le _) ⟨rfl, rfl⟩
    · have hw : w < 32 := clt h1 (by omega) c_7
      refine J_aload_n (nx := 11) dX1_livelyStates_10 rfl rfl ?_
      refine J_iload_n (nx := 12) dX1_livelyStates_11 rfl rfl ?_
      refine JcV1 (R' := rm 2 0 0) (nx := 15) dX1_livelyStates_12 rfl ml_X1_chancesTogether lk_X1_91 iv_X1_chancesTogether rfl rfl ⟨(Nat.le_of_ble_eq_true rfl), (Nat.le_of_ble_eq_true rfl)⟩ (Nat.le_of_ble_eq_true rfl) ⟨rfl, rfl⟩ (ct_X1_chancesTogether_20 _ _) ?_
      refine J_aload_n (nx := 16) dX1_livelyStates_15 rfl rfl ?_
      refine J_iload_n (nx := 17) dX1_livelyStates_16 rfl rfl ?_
      refine J_iload_n (nx := 18) dX1_livelyStates_17 rfl rfl ?_
      refine JcV2 (R' := rm 1 0 0) (nx := 21) dX1_livelyStates_18 rfl ml_X1_chance lk_X1_87 iv_X1_chance rfl rfl ⟨(Nat.le_of_ble_eq_true rfl), (Nat.le_of_ble_eq_true rfl)⟩ (Nat.le_of_ble_eq_true rfl) ⟨rfl, rfl⟩ (ct_X1_chance_20 _ _ _) ?_
      refine J_icmp_le (nx := 24) (tgt := 27) dX1_livelyStates_21 rfl (by decide) (fun c_21 => ?_) (fun c_21 => ?_)
      · refine J_iinc (nx := 30) dX1_livelyStates_27 rfl rfl rfl (Nat.le_of_ble_eq_true rfl) ?_
        refine J_goto (nx := 4) dX1_livelyStates_30 (by decide) ?_
        first
          | (show J _ _ _ _ 4 [some (.ref 20), some (.int (bk_lv g 20 w + Int32.ofInt 1)), some (.int (nI w + Int32.ofInt 1))] [] _ 0 0; rw [nI_s w, show bk_lv g 20 w + Int32.ofInt 1 = bk_lv g 20 (w + 1) from (if_neg c_21).symm])
          | (show J _ _ _ _ 4 [some (.ref 20), some (.int (bk_lv g 20 w)), some (.int (nI w + Int32.ofInt 1))] [] _ 0 0; rw [nI_s w, show bk_lv g 20 w = bk_lv g 20 (w + 1) from (if_pos c_21).symm])
        exact ih (w + 1) (by omega) (by omega)
      · refine J_iinc (nx := 27) dX1_livelyStates_24 rfl rfl rfl (Nat.le_of_ble_eq_true rfl) ?_
        refine J_iinc (nx := 30) dX1_livelyStates_27 rfl rfl rfl (Nat.le_of_ble_eq_true rfl) ?_
        refine J_goto (nx := 4) dX1_livelyStates_30 (by decide) ?_
        first
          | (show J _ _ _ _ 4 [some (.ref 20), some (.int (bk_lv g 20 w + Int32.ofInt 1)), some (.int (nI w + Int32.ofInt 1))] [] _ 0 0; rw [nI_s w, show bk_lv g 20 w + Int32.ofInt 1 = bk_lv g 20 (w + 1) from (if_neg c_21).symm])
          | (show J _ _ _ _ 4 [some (.ref 20), some (.int (bk_lv g 20 w)), some (.int (nI w + Int32.ofInt 1))] [] _ 0 0; rw [nI_s w, show bk_lv g 20 w = bk_lv g 20 (w + 1) from (if_pos c_21).symm])
        exact ih (w + 1) (by omega) (by omega)

set_option maxRecDepth 100000 in
set_option maxHeartbeats 4000000 in
theorem ct_X1_livelyStates (g : GS) : Ct mX1_livelyStates (rm 3 0 0) [.ref 20] (Wd g) (RR (.inl (some (.int (bk_lv g 20 32)))) g) := by
  refine Ct.of (by decide +kernel) (Nat.le_of_ble_eq_true rfl) ?_
  show J _ _ _ _ 0 [some (.ref 20), none, none] [] _ 0 0
  refine J_iconst (nx := 1) (i := 0) (v := 0) (by decide) dX1_livelyStates_0 rfl ?_
  refine J_istore_n (nx := 2) dX1_livelyStates_1 rfl rfl (Nat.le_of_ble_eq_true rfl) ?_
  refine J_iconst (nx := 3) (i := 0) (v := 0) (by decide) dX1_livelyStates_2 rfl ?_
  refine J_istore_n (nx := 4) dX1_livelyStates_3 rfl rfl (Nat.le_of_ble_eq_true rfl) ?_
  exact lp_X1_livelyStates g _ 33 0 (by omega) (by omega)

set_option maxRecDepth 100000 in
set_option maxHeartbeats 4000000 in
theorem ct_X1_addSort (g : GS) (card forg : Int32) : Ct mX1_addSort (rm 1 0 0) [.ref 20, .int card, .int forg] (Wd g) (RR (.inl (some (.int (gF g 20 11)))) (bk_as g 20 card forg)) := by
  refine Ct.of (by decide +kernel) (Nat.le_of_ble_eq_true rfl) ?_
  show J _ _ _ _ 0 [some (.ref 20), some (.int card), some (.int forg), none] [] _ 0 0
  refine J_aload_n (nx := 1) dX1_addSort_0 rfl rfl ?_
  refine Jg_20_11 (nx := 4) dX1_addSort_1 rfl fl_X1_64 ?_
  refine J_istore_n (nx := 5) dX1_addSort_4 rfl rfl (Nat.le_of_ble_eq_true rfl) ?_
  refine J_aload_n (nx := 6) dX1_addSort_5 rfl rfl ?_
  refine Jg_20_2 (nx := 9) dX1_addSort_6 rfl fl_X1_18 ?_
  refine J_iload_n (nx := 10) dX1_addSort_9 rfl rfl ?_
  refine J_iload_n (nx := 11) dX1_addSort_10 rfl rfl ?_
  refine JcS3 (R' := rm 0 0 0) (nx := 14) dX1_addSort_11 rfl ml_X6_put lk_X1_83 st_X6_put ⟨(Nat.le_of_ble_eq_true rfl), (Nat.le_of_ble_eq_true rfl)⟩ (Nat.le_of_ble_eq_true rfl) ⟨rfl, rfl⟩ (ct_put _ 23 6 _ _ rfl (fun _ => rfl) (by decide)) ?_
  refine J_aload_n (nx := 15) dX1_addSort_14 rfl rfl ?_
  refine Jg_20_3 (nx := 18) dX1_addSort_15 rfl fl_X1_21 ?_
  refine J_iload_n (nx := 19) dX1_addSort_18 rfl rfl ?_
  refine J_iload_n (nx := 20) dX1_addSort_19 rfl rfl ?_
  refine JcS3 (R' := rm 0 0 0) (nx := 23) dX1_addSort_20 rfl ml_X6_put lk_X1_83 st_X6_put ⟨(Nat.le_of_ble_eq_true rfl), (Nat.le_of_ble_eq_true rfl)⟩ (Nat.le_of_ble_eq_true rfl) ⟨rfl, rfl⟩ (ct_put _ 24 6 _ _ rfl (fun _ => rfl) (by decide)) ?_
  refine J_aload_n (nx := 24) dX1_addSort_23 rfl rfl ?_
  refine J_dup (nx := 25) rfl dX1_addSort_24 rfl ?_
  refine Jg_20_11 (nx := 28) dX1_addSort_25 rfl fl_X1_64 ?_
  refine J_iconst (nx := 29) (i := 1) (v := 1) (by decide) dX1_addSort_28 rfl ?_
  refine J_iadd (nx := 30) dX1_addSort_29 rfl ?_
  refine Jp_20_11 (nx := 33) dX1_addSort_30 rfl fl_X1_64 ?_
  refine J_iload_n (nx := 34) dX1_addSort_33 rfl rfl ?_
  exact Jri dX1_addSort_34 rfl (Nat.zero_le _) (Nat.zero_le _) ⟨rfl, rfl⟩

set_option maxRecDepth 100000 in
set_option maxHeartbeats 4000000 in
theorem ct_X1_stopWorth (g : GS) (z card : Int32) : Ct mX1_stopWorth (rm 1 0 0) [.ref 20, .int z, .int card] (Wd g) (RR (.inl (some (.int (bk_sw g 20 z card)))) g) := by
  refine Ct.of (by decide +kernel) (Nat.le_of_ble_eq_true rfl) ?_
  show J _ _ _ _ 0 [some (.ref 20), some (.int z), some (.int card)] [] _ 0 0
  refine J_aload_n (nx := 1) dX1_stopWorth_0 rfl rfl ?_
  refine Jg_20_1 (nx := 4) dX1_stopWorth_1 rfl fl_X1_15 ?_
  refine J_iload_n (nx := 5) dX1_stopWorth_4 rfl rfl ?_
  refine JcS2 (R' := rm 0 0 0) (nx := 8) dX1_stopWorth_5 rfl ml_X6_at lk_X1_79 st_X6_at ⟨(Nat.le_of_ble_eq_true rfl), (Nat.le_of_ble_eq_true rfl)⟩ (Nat.le_of_ble_eq_true rfl) ⟨rfl, rfl⟩ (ct_at _ 22 8 _ _ rfl (by decide)) ?_
  refine J_iload_n (nx := 9) dX1_stopWorth_8 rfl rfl ?_
  refine J_iadd (nx := 10) dX1_stopWorth_9 rfl ?_
  exact Jri dX1_stopWorth_10 rfl (Nat.zero_le _) (Nat.zero_le _) ⟨rfl, rfl⟩

set_option maxRecDepth 100000 in
set_option maxHeartbeats 4000000 in
theorem ct_X1_afterwards (g : GS) (so card : Int32) : Ct mX1_afterwards (rm 1 0 0) [.ref 20, .int so, .int card] (Wd g) (RR (.inl (some (.int (bk_aw g 20 so card)))) g) := by
  refine Ct.of (by decide +kernel) (Nat.le_of_ble_eq_true rfl) ?_
  show J _ _ _ _ 0 [some (.ref 20), some (.int so), some (.int card)] [] _ 0 0
  refine J_iload_n (nx := 1) dX1_afterwards_0 rfl rfl ?_
  refine J_bipush (nx := 3) (i := 100) (v := 100) (by decide) dX1_afterwards_1 rfl ?_
  refine J_aload_n (nx := 4) dX1_afterwards_3 rfl rfl ?_
  refine Jg_20_3 (nx := 7) dX1_afterwards_4 rfl fl_X1_21 ?_
  refine J_iload_n (nx := 8) dX1_afterwards_7 rfl rfl ?_
  refine JcS2 (R' := rm 0 0 0) (nx := 11) dX1_afterwards_8 rfl ml_X6_at lk_X1_79 st_X6_at ⟨(Nat.le_of_ble_eq_true rfl), (Nat.le_of_ble_eq_true rfl)⟩ (Nat.le_of_ble_eq_true rfl) ⟨rfl, rfl⟩ (ct_at _ 24 6 _ _ rfl (by decide)) ?_
  refine J_isub (nx := 12) dX1_afterwards_11 rfl ?_
  refine J_imul (nx := 13) dX1_afterwards_12 rfl ?_
  refine J_bipush (nx := 15) (i := 100) (v := 100) (by decide) dX1_afterwards_13 rfl ?_
  refine J_idiv (nx := 16) (by decide) dX1_afterwards_15 rfl ?_
  exact Jri dX1_afterwards_16 rfl (Nat.zero_le _) (Nat.zero_le _) ⟨rfl, rfl⟩

set_option maxRecDepth 100000 in
set_option maxHeartbeats 4000000 in
theorem ct_X1_rateOf (g : GS) (so st : Int32) : Ct mX1_rateOf (rm 1 0 0) [.ref 20, .int so, .int st] (Wd g) (RR (.inl (some (.int (bk_rt g 20 so st)))) g) := by
  refine Ct.of (by decide +kernel) (Nat.le_of_ble_eq_true rfl) ?_
  show J _ _ _ _ 0 [some (.ref 20), some (.int so), some (.int st)] [] _ 0 0
  refine J_aload_n (nx := 1) dX1_rateOf_0 rfl rfl ?_
  refine Jg_20_4 (nx := 4) dX1_rateOf_1 rfl fl_X1_24 ?_
  refine J_bipush (nx := 6) (i := 32) (v := 32) (by decide) dX1_rateOf_4 rfl ?_
  refine J_iload_n (nx := 7) dX1_rateOf_6 rfl rfl ?_
  refine J_imul (nx := 8) dX1_rateOf_7 rfl ?_
  refine J_iload_n (nx := 9) dX1_rateOf_8 rfl rfl ?_
  refine J_iadd (nx := 10) dX1_rateOf_9 rfl ?_
  refine JcS2 (R' := rm 0 0 0) (nx := 13) dX1_rateOf_10 rfl ml_X6_at lk_X1_79 st_X6_at ⟨(Nat.le_of_ble_eq_true rfl), (Nat.le_of_ble_eq_true rfl)⟩ (Nat.le_of_ble_eq_true rfl) ⟨rfl, rfl⟩ (ct_at _ 25 192 _ _ rfl (by decide)) ?_
  exact Jri dX1_rateOf_13 rfl (Nat.zero_le _) (Nat.zero_le _) ⟨rfl, rfl⟩

set_option maxRecDepth 100000 in
set_option maxHeartbeats 4000000 in
theorem ct_X1_setRate (g : GS) (so st n : Int32) : Ct mX1_setRate (rm 1 0 0) [.ref 20, .int so, .int st, .int n] (Wd g) (RR (.inl none) (bk_sr g 20 so st n)) := by
  refine Ct.of (by decide +kernel) (Nat.le_of_ble_eq_true rfl) ?_
  show J _ _ _ _ 0 [some (.ref 20), some (.int so), some (.int st), some (.int n)] [] _ 0 0
  refine J_aload_n (nx := 1) dX1_setRate_0 rfl rfl ?_
  refine Jg_20_4 (nx := 4) dX1_setRate_1 rfl fl_X1_24 ?_
  refine J_bipush (nx := 6) (i := 32) (v := 32) (by decide) dX1_setRate_4 rfl ?_
  refine J_iload_n (nx := 7) dX1_setRate_6 rfl rfl ?_
  refine J_imul (nx := 8) dX1_setRate_7 rfl ?_
  refine J_iload_n (nx := 9) dX1_setRate_8 rfl rfl ?_
  refine J_iadd (nx := 10) dX1_setRate_9 rfl ?_
  refine J_iload_n (nx := 11) dX1_setRate_10 rfl rfl ?_
  refine JcS3 (R' := rm 0 0 0) (nx := 14) dX1_setRate_11 rfl ml_X6_put lk_X1_83 st_X6_put ⟨(Nat.le_of_ble_eq_true rfl), (Nat.le_of_ble_eq_true rfl)⟩ (Nat.le_of_ble_eq_true rfl) ⟨rfl, rfl⟩ (ct_put _ 25 192 _ _ rfl (fun _ => rfl) (by decide)) ?_
  exact Jrv dX1_setRate_14 rfl (Nat.zero_le _) (Nat.zero_le _) ⟨rfl, rfl⟩

set_option maxRecDepth 100000 in
set_option maxHeartbeats 4000000 in
theorem lp_X1_ratesOf (g : GS) (so : Int32) (n0 : Nat) : ∀ (k w : Nat), w ≤ 32 → 32 + 1 ≤ w + k → J mX1_ratesOf (rm 2 0 0) (RR (.inl (some (.int (bk_rs g 20 so)))) g) n0 4 [some (.ref 20), some (.int so), some (.int (sI (fun s => bk_rt g 20 so (nI s)) w)), some (.int (nI w))] [] (Wd g) 0 0 := by
  intro k
  induction k with
  | zero => intro w h1 h2; exact absurd h2 (by omega)
  | succ k ih =>
    intro w h1 h2
    refine J_iload_n (nx := 5) dX1_ratesOf_4 rfl rfl ?_
    refine J_bipush (nx := 7) (i := 32) (v := 32) (by decide) dX1_ratesOf_5 rfl ?_
    refine J_icmp_ge (nx := 10) (tgt := 25) dX1_ratesOf_7 rfl (by decide) (fun c_7 => ?_) (fun c_7 => ?_)
    · obtain rfl : w = 32 := cge h1 (by omega) c_7
      refine J_iload_n (nx := 26) dX1_ratesOf_25 rfl rfl ?_
      exact Jri dX1_ratesOf_26 rfl (Nat.zero_le _) (Nat.zero_le _) ⟨rfl, rfl⟩
    · have hw : w < 32 := clt h1 (by omega) c_7
      refine J_iload_n (nx := 11) dX1_ratesOf_10 rfl rfl ?_
      refine J_aload_n (nx := 12) dX1_ratesOf_11 rfl rfl ?_
      refine J_iload_n (nx := 13) dX1_ratesOf_12 rfl rfl ?_
      refine J_iload_n (nx := 14) dX1_ratesOf_13 rfl rfl ?_
      refine JcV2 (R' := rm 1 0 0) (nx := 17) dX1_ratesOf_14 rfl ml_X1_rateOf lk_X1_98 iv_X1_rateOf rfl rfl ⟨(Nat.le_of_ble_eq_true rfl), (Nat.le_of_ble_eq_true rfl)⟩ (Nat.le_of_ble_eq_true rfl) ⟨rfl, rfl⟩ (ct_X1_rateOf _ _ _) ?_
      refine J_iadd (nx := 18) dX1_ratesOf_17 rfl ?_
      refine J_istore_n (nx := 19) dX1_ratesOf_18 rfl rfl (Nat.le_of_ble_eq_true rfl) ?_
      refine J_iinc (nx := 22) dX1_ratesOf_19 rfl rfl rfl (Nat.le_of_ble_eq_true rfl) ?_
      refine J_goto (nx := 4) dX1_ratesOf_22 (by decide) ?_
      show J _ _ _ _ 4 [some (.ref 20), some (.int so), some (.int (sI (fun s => bk_rt g 20 so (nI s)) (w + 1))), some (.int (nI w + Int32.ofInt 1))] [] _ 0 0
      rw [nI_s w]
      exact ih (w + 1) (by omega) (by omega)

set_option maxRecDepth 100000 in
set_option maxHeartbeats 4000000 in
theorem ct_X1_ratesOf (g : GS) (so : Int32) : Ct mX1_ratesOf (rm 2 0 0) [.ref 20, .int so] (Wd g) (RR (.inl (some (.int (bk_rs g 20 so)))) g) := by
  refine Ct.of (by decide +kernel) (Nat.le_of_ble_eq_true rfl) ?_
  show J _ _ _ _ 0 [some (.ref 20), some (.int so), none, none] [] _ 0 0
  refine J_iconst (nx := 1) (i := 0) (v := 0) (by decide) dX1_ratesOf_0 rfl ?_
  refine J_istore_n (nx := 2) dX1_ratesOf_1 rfl rfl (Nat.le_of_ble_eq_true rfl) ?_
  refine J_iconst (nx := 3) (i := 0) (v := 0) (by decide) dX1_ratesOf_2 rfl ?_
  refine J_istore_n (nx := 4) dX1_ratesOf_3 rfl rfl (Nat.le_of_ble_eq_true rfl) ?_
  exact lp_X1_ratesOf g so _ 33 0 (by omega) (by omega)

set_option maxRecDepth 100000 in
set_option maxHeartbeats 4000000 in
theorem lp_X1_ratesTogether (g : GS) (n : Nat) (hN : gF g 20 11 = nI n) (hn : n ≤ 6) (n0 : Nat) : ∀ (k w : Nat), w ≤ n → n + 1 ≤ w + k → J mX1_ratesTogether (rm 3 0 0) (RR (.inl (some (.int (bk_rr g 20 n)))) g) n0 4 [some (.ref 20), some (.int (bk_rr g 20 w)), some (.int (nI w))] [] (Wd g) 0 0 := by
  intro k
  induction k with
  | zero => intro w h1 h2; exact absurd h2 (by omega)
  | succ k ih =>
    intro w h1 h2
    refine J_iload_n (nx := 5) dX1_ratesTogether_4 rfl rfl ?_
    refine J_aload_n (nx := 6) dX1_ratesTogether_5 rfl rfl ?_
    refine Jg_20_11 (nx := 9) dX1_ratesTogether_6 rfl fl_X1_64 ?_
    refine J_icmp_ge (nx := 12) (tgt := 26) dX1_ratesTogether_9 rfl (by decide) (fun c_9 => ?_) (fun c_9 => ?_)
    · rw [hN] at c_9
      obtain rfl : w = n := cge h1 (by omega) c_9
      refine J_iload_n (nx := 27) dX1_ratesTogether_26 rfl rfl ?_
      exact Jri dX1_ratesTogether_27 rfl (Nat.zero_le _) (Nat.zero_le _) ⟨rfl, rfl⟩
    · rw [hN] at c_9
      have hw : w < n := clt h1 (by omega) c_9
      refine J_iload_n (nx := 13) dX1_ratesTogether_12 rfl rfl ?_
      refine J_aload_n (nx := 14) dX1_ratesTogether_13 rfl rfl ?_
      refine J_iload_n (nx := 15) dX1_ratesTogether_14 rfl rfl ?_
      refine JcV1 (R' := rm 2 0 0) (nx := 18) dX1_ratesTogether_15 rfl ml_X1_ratesOf lk_X1_95 iv_X1_ratesOf rfl rfl ⟨(Nat.le_of_ble_eq_true rfl), (Nat.le_of_ble_eq_true rfl)⟩ (Nat.le_of_ble_eq_true rfl) ⟨rfl, rfl⟩ (ct_X1_ratesOf _ _) ?_
      refine J_iadd (nx := 19) dX1_ratesTogether_18 rfl ?_
      refine J_istore_n (nx := 20) dX1_ratesTogether_19 rfl rfl (Nat.le_of_ble_eq_true rfl) ?_
      refine J_iinc (nx := 23) dX1_ratesTogether_20 rfl rfl rfl (Nat.le_of_ble_eq_true rfl) ?_
      refine J_goto (nx := 4) dX1_ratesTogether_23 (by decide) ?_
      show J _ _ _ _ 4 [some (.ref 20), some (.int (bk_rr g 20 (w + 1))), some (.int (nI w + Int32.ofInt 1))] [] _ 0 0
      rw [nI_s w]
      exact ih (w + 1) (by omega) (by omega)

set_option maxRecDepth 100000 in
set_option maxHeartbeats 4000000 in
theorem ct_X1_ratesTogether (g : GS) (n : Nat) (hN : gF g 20 11 = nI n) (hn : n ≤ 6) : Ct mX1_ratesTogether (rm 3 0 0) [.ref 20] (Wd g) (RR (.inl (some (.int (bk_rr g 20 n)))) g) := by
  refine Ct.of (by decide +kernel) (Nat.le_of_ble_eq_true rfl) ?_
  show J _ _ _ _ 0 [some (.ref 20), none, none] [] _ 0 0
  refine J_iconst (nx := 1) (i := 0) (v := 0) (by decide) dX1_ratesTogether_0 rfl ?_
  refine J_istore_n (nx := 2) dX1_ratesTogether_1 rfl rfl (Nat.le_of_ble_eq_true rfl) ?_
  refine J_iconst (nx := 3) (i := 0) (v := 0) (by decide) dX1_ratesTogether_2 rfl ?_
  refine J_istore_n (nx := 4) dX1_ratesTogether_3 rfl rfl (Nat.le_of_ble_eq_true rfl) ?_
  exact lp_X1_ratesTogether g n hN hn _ (n + 1) 0 (by omega) (by omega)

set_option maxRecDepth 100000 in
set_option maxHeartbeats 4000000 in
theorem ct_X1_cardNow (g : GS) (so : Int32) : Ct mX1_cardNow (rm 3 0 0) [.ref 20, .int so] (Wd g) (RR (.inl (some (.int (bk_cn g 20 so)))) g) := by
  refine Ct.of (by decide +kernel) (Nat.le_of_ble_eq_true rfl) ?_
  show J _ _ _ _ 0 [some (.ref 20), some (.int so), none] [] _ 0 0
  refine J_aload_n (nx := 1) dX1_cardNow_0 rfl rfl ?_
  refine Jg_20_2 (nx := 4) dX1_cardNow_1 rfl fl_X1_18 ?_
  refine J_iload_n (nx := 5) dX1_cardNow_4 rfl rfl ?_
  refine JcS2 (R' := rm 0 0 0) (nx := 8) dX1_cardNow_5 rfl ml_X6_at lk_X1_79 st_X6_at ⟨(Nat.le_of_ble_eq_true rfl), (Nat.le_of_ble_eq_true rfl)⟩ (Nat.le_of_ble_eq_true rfl) ⟨rfl, rfl⟩ (ct_at _ 23 6 _ _ rfl (by decide)) ?_
  refine J_istore_n (nx := 9) dX1_cardNow_8 rfl rfl (Nat.le_of_ble_eq_true rfl) ?_
  refine J_aload_n (nx := 10) dX1_cardNow_9 rfl rfl ?_
  refine Jg_20_17 (nx := 13) dX1_cardNow_10 rfl fl_X1_76 ?_
  refine J_if_le (nx := 16) (tgt := 31) dX1_cardNow_13 rfl (by decide) (fun c_13 => ?_) (fun c_13 => ?_)
  · refine J_iload_n (nx := 32) dX1_cardNow_31 rfl rfl ?_
    exact Jri dX1_cardNow_32 rfl (Nat.zero_le _) (Nat.zero_le _) (RR.i (by unfold bk_cn; first | rw [if_pos c_13] | rw [if_neg c_13]) rfl)
  · refine J_iload_n (nx := 17) dX1_cardNow_16 rfl rfl ?_
    refine J_aload_n (nx := 18) dX1_cardNow_17 rfl rfl ?_
    refine J_iload_n (nx := 19) dX1_cardNow_18 rfl rfl ?_
    refine JcV1 (R' := rm 2 0 0) (nx := 22) dX1_cardNow_19 rfl ml_X1_ratesOf lk_X1_95 iv_X1_ratesOf rfl rfl ⟨(Nat.le_of_ble_eq_true rfl), (Nat.le_of_ble_eq_true rfl)⟩ (Nat.le_of_ble_eq_true rfl) ⟨rfl, rfl⟩ (ct_X1_ratesOf _ _) ?_
    refine J_aload_n (nx := 23) dX1_cardNow_22 rfl rfl ?_
    refine Jg_20_17 (nx := 26) dX1_cardNow_23 rfl fl_X1_76 ?_
    refine J_idiv (nx := 27) (fun z => c_13 (by rw [z]; decide)) dX1_cardNow_26 rfl ?_
    refine J_iadd (nx := 28) dX1_cardNow_27 rfl ?_
    refine J_goto (nx := 32) dX1_cardNow_28 (by decide) ?_
    exact Jri dX1_cardNow_32 rfl (Nat.zero_le _) (Nat.zero_le _) (RR.i (by unfold bk_cn; first | rw [if_pos c_13] | rw [if_neg c_13]) rfl)

set_option maxRecDepth 100000 in
set_option maxHeartbeats 4000000 in
theorem ct_X1_setChance_8 (g : GS) (st what n : Int32) : Ct mX1_setChance (rm 1 0 0) [.ref 8, .int st, .int what, .int n] (Wd g) (RR (.inl none) (sA g 9 (rPut 1088 (gA g 9) (34 * st + what) n))) := by
  refine Ct.of (by decide +kernel) (Nat.le_of_ble_eq_true rfl) ?_
  show J _ _ _ _ 0 [some (.ref 8), some (.int st), some (.int what), some (.int n)] [] _ 0 0
  refine J_aload_n (nx := 1) dX1_setChance_0 rfl rfl ?_
  refine Jg_8_0 (nx := 4) dX1_setChance_1 rfl fl_X1_11 ?_
  refine J_bipush (nx := 6) (i := 34) (v := 34) (by decide) dX1_setChance_4 rfl ?_
  refine J_iload_n (nx := 7) dX1_setChance_6 rfl rfl ?_
  refine J_imul (nx := 8) dX1_setChance_7 rfl ?_
  refine J_iload_n (nx := 9) dX1_setChance_8 rfl rfl ?_
  refine J_iadd (nx := 10) dX1_setChance_9 rfl ?_
  refine J_iload_n (nx := 11) dX1_setChance_10 rfl rfl ?_
  refine JcS3 (R' := rm 0 0 0) (nx := 14) dX1_setChance_11 rfl ml_X6_put lk_X1_83 st_X6_put ⟨(Nat.le_of_ble_eq_true rfl), (Nat.le_of_ble_eq_true rfl)⟩ (Nat.le_of_ble_eq_true rfl) ⟨rfl, rfl⟩ (ct_put _ 9 1088 _ _ rfl (fun _ => rfl) (by decide)) ?_
  exact Jrv dX1_setChance_14 rfl (Nat.zero_le _) (Nat.zero_le _) ⟨rfl, rfl⟩
