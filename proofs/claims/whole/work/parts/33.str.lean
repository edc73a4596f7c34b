
/-! String.length and charAt of the constants -/
def wCh (j i : Nat) : Int32 := ((((wByt.getD j []).getD i 0) &&& 255).toUInt32 % 65536).toInt32
theorem shr_00 (x : Int32) : x >>> ((0 : Int32) &&& 31) = x := by
  rw [show (0 : Int32) &&& 31 = 0 from by decide]
  exact Int32.shiftRight_zero
theorem wCh_nar : ∀ j, j < 23 → ∀ i, i < 7 → narrow .char (.int (wCh j i)) = .int (wCh j i) := by decide +kernel
theorem wLen_lt : ∀ j, j < 23 → wLen.getD j 0 < 7 := by decide +kernel

set_option maxRecDepth 100000 in
set_option maxHeartbeats 4000000 in
theorem ct_coder (g : GS) (j : Nat) (hj : j < 23) : Ct mJ0_coder_7d493 (rm 0 0 0) [.ref (CST + 24 + j)] (Wd g) (RR (.inl (some (.int 0))) g) := by
  refine Ct.ofF (by decide +kernel) (Nat.le_of_ble_eq_true rfl) ?_
  show J _ _ _ _ 0 [some (.ref (CST + 24 + j))] [] _ 0 0
  refine J_getsCS (nx := 3) dJ0_coder_7d493_0 rfl gs_J0_38 ?_
  refine J_if_eq (nx := 6) (tgt := 13) dJ0_coder_7d493_3 rfl (by decide) (fun c_3 => ?_) (fun c_3 => ?_)
  · exact absurd c_3 (by decide)
  · refine J_aload_n (nx := 7) dJ0_coder_7d493_6 rfl rfl ?_
    refine J_wcoder (nx := 10) (j := j) dJ0_coder_7d493_7 rfl hj gf_J0_15 ?_
    refine J_goto (nx := 14) dJ0_coder_7d493_10 (by decide) ?_
    exact Jrz dJ0_coder_7d493_14 rfl (by decide) (Nat.zero_le _) (Nat.zero_le _) ⟨rfl, rfl⟩

set_option maxRecDepth 100000 in
set_option maxHeartbeats 4000000 in
theorem ct_isLatin1 (g : GS) (j : Nat) (hj : j < 23) : Ct mJ0_isLatin1_aae02 (rm 0 0 0) [.ref (CST + 24 + j)] (Wd g) (RR (.inl (some (.int 1))) g) := by
  refine Ct.ofF (by decide +kernel) (Nat.le_of_ble_eq_true rfl) ?_
  show J _ _ _ _ 0 [some (.ref (CST + 24 + j))] [] _ 0 0
  refine J_getsCS (nx := 3) dJ0_isLatin1_aae02_0 rfl gs_J0_38 ?_
  refine J_if_eq (nx := 6) (tgt := 17) dJ0_isLatin1_aae02_3 rfl (by decide) (fun c_3 => ?_) (fun c_3 => ?_)
  · first | exact absurd c_3 (by decide) | exact absurd rfl c_10
  · refine J_aload_n (nx := 7) dJ0_isLatin1_aae02_6 rfl rfl ?_
    refine J_wcoder (nx := 10) (j := j) dJ0_isLatin1_aae02_7 rfl hj gf_J0_15 ?_
    refine J_if_ne (nx := 13) (tgt := 17) dJ0_isLatin1_aae02_10 rfl (by decide) (fun c_10 => ?_) (fun c_10 => ?_)
    · first | exact absurd c_3 (by decide) | exact absurd rfl c_10
    · refine J_iconst (nx := 14) (i := 1) (v := 1) (by decide) dJ0_isLatin1_aae02_13 rfl ?_
      refine J_goto (nx := 18) dJ0_isLatin1_aae02_14 (by decide) ?_
      exact Jrz dJ0_isLatin1_aae02_18 rfl (by decide) (Nat.zero_le _) (Nat.zero_le _) ⟨rfl, rfl⟩

set_option maxRecDepth 100000 in
set_option maxHeartbeats 4000000 in
theorem ct_strlen (g : GS) (j : Nat) (hj : j < 23) : Ct mJ0_length_8abf5 (rm 1 0 0) [.ref (CST + 24 + j)] (Wd g) (RR (.inl (some (.int (nI (wLen.getD j 0))))) g) := by
  refine Ct.ofF (by decide +kernel) (Nat.le_of_ble_eq_true rfl) ?_
  show J _ _ _ _ 0 [some (.ref (CST + 24 + j))] [] _ 0 0
  refine J_aload_n (nx := 1) dJ0_length_8abf5_0 rfl rfl ?_
  refine J_wvalue (nx := 4) (j := j) dJ0_length_8abf5_1 rfl hj gf_J0_9 ?_
  refine J_alenSB (nx := 5) dJ0_length_8abf5_4 rfl hj ?_
  refine J_aload_n (nx := 6) dJ0_length_8abf5_5 rfl rfl ?_
  refine JkVb0 (R' := rm 0 0 0) (nx := 9) dJ0_length_8abf5_6 rfl ml_J0_coder_7d493 lk_J0_335 iv_J0_coder_7d493 (kw_S (j := j) hj) ⟨(Nat.le_of_ble_eq_true rfl), (Nat.le_of_ble_eq_true rfl)⟩ (Nat.le_of_ble_eq_true rfl) ⟨rfl, rfl⟩ (ct_coder _ j hj) ?_
  refine J_ishr (nx := 10) dJ0_length_8abf5_9 rfl ?_
  exact Jri dJ0_length_8abf5_10 rfl (Nat.zero_le _) (Nat.zero_le _) (RR.i (shr_00 _) rfl)

set_option maxRecDepth 100000 in
set_option maxHeartbeats 4000000 in
theorem ct_pcheck_r (g : GS) (i n : Nat) (hi : i < n) (hn : n < 2 ^ 31) : Ct mJ3_checkIndex_8e157 (rm 0 0 0) [.int (nI i), .int (nI n), .ref (CST + 70)] (Wd g) (RR (.inl (some (.int (nI i)))) g) := by
  refine Ct.ofF (by decide +kernel) (Nat.le_of_ble_eq_true rfl) ?_
  show J _ _ _ _ 0 [some (.int (nI i)), some (.int (nI n)), some (.ref (CST + 70))] [] _ 0 0
  refine J_iload_n (nx := 1) dJ3_checkIndex_8e157_0 rfl rfl ?_
  refine J_if_lt (nx := 4) (tgt := 9) dJ3_checkIndex_8e157_1 rfl (by decide) (fun c_1 => ?_) (fun c_1 => ?_)
  · first | exact absurd c_1 (nI_pos (by omega)) | exact absurd (nI_lt hi hn) c_6
  · refine J_iload_n (nx := 5) dJ3_checkIndex_8e157_4 rfl rfl ?_
    refine J_iload_n (nx := 6) dJ3_checkIndex_8e157_5 rfl rfl ?_
    refine J_icmp_lt (nx := 9) (tgt := 16) dJ3_checkIndex_8e157_6 rfl (by decide) (fun c_6 => ?_) (fun c_6 => ?_)
    · refine J_iload_n (nx := 17) dJ3_checkIndex_8e157_16 rfl rfl ?_
      exact Jri dJ3_checkIndex_8e157_17 rfl (Nat.zero_le _) (Nat.zero_le _) ⟨rfl, rfl⟩
    · first | exact absurd c_1 (nI_pos (by omega)) | exact absurd (nI_lt hi hn) c_6

set_option maxRecDepth 100000 in
set_option maxHeartbeats 4000000 in
theorem ct_pcheck_n (g : GS) (i n : Nat) (hi : i < n) (hn : n < 2 ^ 31) : Ct mJ3_checkIndex_8e157 (rm 0 0 0) [.int (nI i), .int (nI n), .null] (Wd g) (RR (.inl (some (.int (nI i)))) g) := by
  refine Ct.ofF (by decide +kernel) (Nat.le_of_ble_eq_true rfl) ?_
  show J _ _ _ _ 0 [some (.int (nI i)), some (.int (nI n)), some (.null)] [] _ 0 0
  refine J_iload_n (nx := 1) dJ3_checkIndex_8e157_0 rfl rfl ?_
  refine J_if_lt (nx := 4) (tgt := 9) dJ3_checkIndex_8e157_1 rfl (by decide) (fun c_1 => ?_) (fun c_1 => ?_)
  · first | exact absurd c_1 (nI_pos (by omega)) | exact absurd (nI_lt hi hn) c_6
  · refine J_iload_n (nx := 5) dJ3_checkIndex_8e157_4 rfl rfl ?_
    refine J_iload_n (nx := 6) dJ3_checkIndex_8e157_5 rfl rfl ?_
    refine J_icmp_lt (nx := 9) (tgt := 16) dJ3_checkIndex_8e157_6 rfl (by decide) (fun c_6 => ?_) (fun c_6 => ?_)
    · refine J_iload_n (nx := 17) dJ3_checkIndex_8e157_16 rfl rfl ?_
      exact Jri dJ3_checkIndex_8e157_17 rfl (Nat.zero_le _) (Nat.zero_le _) ⟨rfl, rfl⟩
    · first | exact absurd c_1 (nI_pos (by omega)) | exact absurd (nI_lt hi hn) c_6

theorem ct_pcheck (g : GS) (i n : Nat) (v : Value) (hv : v = .null ∨ v = .ref (CST + 70)) (hi : i < n) (hn : n < 2 ^ 31) : Ct mJ3_checkIndex_8e157 (rm 0 0 0) [.int (nI i), .int (nI n), v] (Wd g) (RR (.inl (some (.int (nI i)))) g) := by
  rcases hv with rfl | rfl
  · exact ct_pcheck_n g i n hi hn
  · exact ct_pcheck_r g i n hi hn

set_option maxRecDepth 100000 in
set_option maxHeartbeats 4000000 in
theorem ct_scheck (g : GS) (i n : Nat) (hi : i < n) (hn : n < 2 ^ 31) : Ct mJ0_checkIndex_df160 (rm 1 0 0) [.int (nI i), .int (nI n)] (Wd g) (RR (.inl none) g) := by
  refine Ct.ofF (by decide +kernel) (Nat.le_of_ble_eq_true rfl) ?_
  show J _ _ _ _ 0 [some (.int (nI i)), some (.int (nI n))] [] _ 0 0
  refine J_iload_n (nx := 1) dJ0_checkIndex_df160_0 rfl rfl ?_
  refine J_iload_n (nx := 2) dJ0_checkIndex_df160_1 rfl rfl ?_
  refine J_getsSF (nx := 5) dJ0_checkIndex_df160_2 rfl gs_J0_1053 (fun v hv => ?_)
  refine JcS3 (R' := rm 0 0 0) (nx := 8) dJ0_checkIndex_df160_5 rfl ml_J3_checkIndex_8e157 lk_J0_1059 st_J3_checkIndex_8e157 ⟨(Nat.le_of_ble_eq_true rfl), (Nat.le_of_ble_eq_true rfl)⟩ (Nat.le_of_ble_eq_true rfl) ⟨rfl, rfl⟩ (ct_pcheck _ _ _ v hv hi hn) ?_
  refine J_pop (nx := 9) rfl dJ0_checkIndex_df160_8 rfl ?_
  exact Jrv dJ0_checkIndex_df160_9 rfl (Nat.zero_le _) (Nat.zero_le _) ⟨rfl, rfl⟩

set_option maxRecDepth 100000 in
set_option maxHeartbeats 4000000 in
theorem ct_lcharAt (g : GS) (i j : Nat) (hj : j < 23) (hi : i < wLen.getD j 0) : Ct mJ1_charAt_3b067 (rm 2 0 0) [.ref (CST + 47 + j), .int (nI i)] (Wd g) (RR (.inl (some (.int (wCh j i)))) g) := by
  refine Ct.ofF (by decide +kernel) (Nat.le_of_ble_eq_true rfl) ?_
  show J _ _ _ _ 0 [some (.ref (CST + 47 + j)), some (.int (nI i))] [] _ 0 0
  refine J_iload_n (nx := 1) dJ1_charAt_3b067_0 rfl rfl ?_
  refine J_aload_n (nx := 2) dJ1_charAt_3b067_1 rfl rfl ?_
  refine J_alenSB (nx := 3) dJ1_charAt_3b067_2 rfl hj ?_
  refine JcS2 (R' := rm 1 0 0) (nx := 6) dJ1_charAt_3b067_3 rfl ml_J0_checkIndex_df160 lk_J1_9 st_J0_checkIndex_df160 ⟨(Nat.le_of_ble_eq_true rfl), (Nat.le_of_ble_eq_true rfl)⟩ (Nat.le_of_ble_eq_true rfl) ⟨rfl, rfl⟩ (ct_scheck _ _ _ hi (by have := wLen_lt j hj; omega)) ?_
  refine J_aload_n (nx := 7) dJ1_charAt_3b067_6 rfl rfl ?_
  refine J_iload_n (nx := 8) dJ1_charAt_3b067_7 rfl rfl ?_
  refine J_baldSB (nx := 9) dJ1_charAt_3b067_8 rfl hj (vp_in_nI hi (by have := wLen_lt j hj; omega)) ?_
  rw [nI_clamp (by have := wLen_lt j hj; omega)]
  refine J_sipush (nx := 12) (i := 255) (v := 255) (by decide) dJ1_charAt_3b067_9 rfl ?_
  refine J_iand (nx := 13) dJ1_charAt_3b067_12 rfl ?_
  refine J_i2c (nx := 14) dJ1_charAt_3b067_13 rfl ?_
  exact Jrz dJ1_charAt_3b067_14 rfl (wCh_nar j hj i (by have := wLen_lt j hj; omega)) (Nat.zero_le _) (Nat.zero_le _) ⟨rfl, rfl⟩

set_option maxRecDepth 100000 in
set_option maxHeartbeats 4000000 in
theorem ct_charAt (g : GS) (i j : Nat) (hj : j < 23) (hi : i < wLen.getD j 0) : Ct mJ0_charAt_5068e (rm 3 0 0) [.ref (CST + 24 + j), .int (nI i)] (Wd g) (RR (.inl (some (.int (wCh j i)))) g) := by
  refine Ct.ofF (by decide +kernel) (Nat.le_of_ble_eq_true rfl) ?_
  show J _ _ _ _ 0 [some (.ref (CST + 24 + j)), some (.int (nI i))] [] _ 0 0
  refine J_aload_n (nx := 1) dJ0_charAt_5068e_0 rfl rfl ?_
  refine JkVb0 (R' := rm 0 0 0) (nx := 4) dJ0_charAt_5068e_1 rfl ml_J0_isLatin1_aae02 lk_J0_492 iv_J0_isLatin1_aae02 (kw_S (j := j) hj) ⟨(Nat.le_of_ble_eq_true rfl), (Nat.le_of_ble_eq_true rfl)⟩ (Nat.le_of_ble_eq_true rfl) ⟨rfl, rfl⟩ (ct_isLatin1 _ j hj) ?_
  refine J_if_eq (nx := 7) (tgt := 16) dJ0_charAt_5068e_4 rfl (by decide) (fun c_4 => ?_) (fun c_4 => ?_)
  · exact absurd c_4 (by decide)
  · refine J_aload_n (nx := 8) dJ0_charAt_5068e_7 rfl rfl ?_
    refine J_wvalue (nx := 11) (j := j) dJ0_charAt_5068e_8 rfl hj gf_J0_9 ?_
    refine J_iload_n (nx := 12) dJ0_charAt_5068e_11 rfl rfl ?_
    refine JcS2 (R' := rm 2 0 0) (nx := 15) dJ0_charAt_5068e_12 rfl ml_J1_charAt_3b067 lk_J0_495 st_J1_charAt_3b067 ⟨(Nat.le_of_ble_eq_true rfl), (Nat.le_of_ble_eq_true rfl)⟩ (Nat.le_of_ble_eq_true rfl) ⟨rfl, rfl⟩ (ct_lcharAt _ i j hj hi) ?_
    exact Jrz dJ0_charAt_5068e_15 rfl (wCh_nar j hj i (by have := wLen_lt j hj; omega)) (Nat.zero_le _) (Nat.zero_le _) ⟨rfl, rfl⟩

