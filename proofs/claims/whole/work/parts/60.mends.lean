
/-! the Model: how fouls end -/
def weD (W : Nat → Int32) (th : Nat → Int64) (s o : Nat) (what : Int32) : Int64 :=
  fdL (acL ((wSt W s).toInt64 * th s) (fun to => (W (18 + 34 * s + to)).toInt64 * th to) 32 + (if ¬ what = 1 then 0 else 1000000 * (W (18 + 34 * s + 32)).toInt64) + (if ¬ what = (if ¬ nI o = 1 then 0 else 2) then 0 else 1000000 * (W (18 + 34 * s + 33)).toInt64)) 100
theorem weD_congr {W : Nat → Int32} {f f' : Nat → Int64} {s o : Nat} {what : Int32} (hs : s < 32) (h : ∀ q, q < 32 → f q = f' q) : weD W f s o what = weD W f' s o what := by
  unfold weD; rw [h s hs, acL_congr 32 (fun q hq => by rw [h q hq])]
def eOn (W : Nat → Int32) (what : Int32) : Nat → Nat → Int64
  | 0, _ => 0
  | k + 1, s => weD W (eOn W what k) s 1 what
def eVa (a what : Int32) (on1 wt : Int64) : Int64 := if ¬ a = 0 then (if ¬ a = 1 then wt else on1) else (if ¬ what = 0 then 0 else 1000000)
def eW (W : Nat → Int32) (ac : Nat → Nat → Int32) (what : Int32) (T : Nat) : Nat → Nat → Int64
  | 0, s => eVa (ac (T - 0) s) what (eOn W what 0 s) 0
  | k + 1, s => eVa (ac (T - (k + 1)) s) what (eOn W what (k + 1) s) (weD W (eW W ac what T k) s 0 what)
def a78 (c : Nat) : Bool := Nat.beq c 78
def a789 (c : Nat) : Bool := Nat.beq c 78 || Nat.beq c 79
set_option maxRecDepth 100000 in
set_option maxHeartbeats 4000000 in
theorem lp_m_eb (Q : Res → List ME → Prop) (g : GS) (s p : Nat) (hs : s < 32) (hp : p < 2) (what : Int32) (n0 : Nat) : ∀ (k : Nat) (i : Nat), i + k = 32 → J mX12_endsBy (rm 3 0 0) Q n0 66 [some (.ref 63), some (.int (nI (s))), some (.int (nI (p))), some (.int what), some (.long (acL ((wSt (gA g 64) s).toInt64 * gB g 79 (32 * p + s)) (fun to => (gA g 64 (18 + 34 * s + to)).toInt64 * gB g 79 (32 * p + to)) 32)), none, some (.int (nI 32))] [] (Wd g) 0 0 → J mX12_endsBy (rm 3 0 0) (Q) n0 23 [some (.ref 63), some (.int (nI (s))), some (.int (nI (p))), some (.int what), some (.long (acL ((wSt (gA g 64) s).toInt64 * gB g 79 (32 * p + s)) (fun to => (gA g 64 (18 + 34 * s + to)).toInt64 * gB g 79 (32 * p + to)) i)), none, some (.int (nI (i)))] [] (Wd g) 0 0 := by
  intro k
  induction k with
  | zero =>
    intro i hk hK
    refine J_iload (nx := 25) dX12_endsBy_23 rfl rfl ?_
    refine J_bipush (nx := 27) (i := 32) (v := 32) (by decide) dX12_endsBy_25 rfl ?_
    refine J_icmp_ge (nx := 30) (tgt := 66) dX12_endsBy_27 rfl (by decide) (fun c_27 => ?_) (fun c_27 => ?_)
    · obtain rfl : i = 32 := by omega
      exact hK
    · exact absurd (show nI 32 ≤ nI i from by rw [show i = 32 by omega]; exact le_self_nI) c_27
  | succ k ih =>
    intro i hk hK
    refine J_iload (nx := 25) dX12_endsBy_23 rfl rfl ?_
    refine J_bipush (nx := 27) (i := 32) (v := 32) (by decide) dX12_endsBy_25 rfl ?_
    refine J_icmp_ge (nx := 30) (tgt := 66) dX12_endsBy_27 rfl (by decide) (fun c_27 => ?_) (fun c_27 => ?_)
    · exact absurd c_27 (nlt_nI (n := 32) (by omega) (by omega))
    · have hi : i < 32 := by omega
      refine J_lload (nx := 32) dX12_endsBy_30 rfl rfl ?_
      refine J_aload_n (nx := 33) dX12_endsBy_32 rfl rfl ?_
      refine Jg_63_1 (nx := 36) dX12_endsBy_33 rfl fl_X12_13 ?_
      refine J_iload_n (nx := 37) dX12_endsBy_36 rfl rfl ?_
      refine J_iload (nx := 39) dX12_endsBy_37 rfl rfl ?_
      refine JcS2 (R' := rm (0) 0 0) (nx := 42) dX12_endsBy_39 rfl ml_X12_chanceAt lk_X12_248 st_X12_chanceAt ⟨(Nat.le_of_ble_eq_true rfl), (Nat.le_of_ble_eq_true rfl)⟩ (Nat.le_of_ble_eq_true rfl) ⟨rfl, rfl⟩ (ct_m_chanceAt _ (s) (i)) ?_
      refine Ja_64 (nx := 43) dX12_endsBy_42 rfl (vpE (n := (18 + 34 * s + i)) (Eq.refl (nI ((18 + 34 * s + i)))) (by omega) (by decide)) ?_
      rw [clE (n := (18 + 34 * s + i)) (Eq.refl (nI ((18 + 34 * s + i)))) (by omega)]
      refine J_i2l (nx := 44) dX12_endsBy_43 rfl ?_
      refine J_aload_n (nx := 45) dX12_endsBy_44 rfl rfl ?_
      refine Jg_63_33 (nx := 48) dX12_endsBy_45 rfl fl_X12_64 ?_
      refine J_bipush (nx := 50) (i := 32) (v := 32) (by decide) dX12_endsBy_48 rfl ?_
      refine J_iload_n (nx := 51) dX12_endsBy_50 rfl rfl ?_
      refine J_imul (nx := 52) dX12_endsBy_51 rfl ?_
      refine J_iload (nx := 54) dX12_endsBy_52 rfl rfl ?_
      refine J_iadd (nx := 55) dX12_endsBy_54 rfl ?_
      refine Ja_79 (nx := 56) dX12_endsBy_55 rfl (vpE (n := ((32 * p) + i)) (nIa (nIm (nIc 32) (Eq.refl (nI (p)))) (Eq.refl (nI (i)))) (by omega) (by decide)) ?_
      rw [clE (n := ((32 * p) + i)) (nIa (nIm (nIc 32) (Eq.refl (nI (p)))) (Eq.refl (nI (i)))) (by omega)]
      refine J_lmul (nx := 57) dX12_endsBy_56 rfl ?_
      refine J_ladd (nx := 58) dX12_endsBy_57 rfl ?_
      refine J_lstore (nx := 60) dX12_endsBy_58 rfl rfl (Nat.le_of_ble_eq_true rfl) ?_
      refine J_iinc (nx := 63) dX12_endsBy_60 rfl rfl rfl (Nat.le_of_ble_eq_true rfl) ?_
      refine J_goto (nx := 23) dX12_endsBy_63 (by decide) ?_
      rw [show (nI (i) + Int32.ofInt 1) = nI (i + 1) from (show nI (i) + Int32.ofInt 1 = nI (i + 1) from nI_add (i) 1)]
      exact ih (i + 1) (by omega) hK

set_option maxRecDepth 100000 in
set_option maxHeartbeats 4000000 in
theorem ct_m_endsBy (g : GS) (s p : Nat) (hs : s < 32) (hp : p < 2) (what : Int32) : Ct mX12_endsBy (rm 3 0 0) [.ref 63, .int (nI (s)), .int (nI (p)), .int what] (Wd g) (RR (.inl (some (.long (weD (gA g 64) (fun q => gB g 79 (32 * p + q)) s p what)))) g) := by
  refine Ct.of (by decide +kernel) (Nat.le_of_ble_eq_true rfl) ?_
  show J _ _ _ _ 0 [some (.ref 63), some (.int (nI (s))), some (.int (nI (p))), some (.int what), none, none, none] [] _ 0 0
  refine J_aload_n (nx := 1) dX12_endsBy_0 rfl rfl ?_
  refine J_iload_n (nx := 2) dX12_endsBy_1 rfl rfl ?_
  refine JcV1 (R' := rm (1) 0 0) (nx := 5) dX12_endsBy_2 rfl ml_X12_staying lk_X12_251 iv_X12_staying rfl rfl ⟨(Nat.le_of_ble_eq_true rfl), (Nat.le_of_ble_eq_true rfl)⟩ (Nat.le_of_ble_eq_true rfl) ⟨rfl, rfl⟩ (ct_m_staying g s hs) ?_
  refine J_i2l (nx := 6) dX12_endsBy_5 rfl ?_
  refine J_aload_n (nx := 7) dX12_endsBy_6 rfl rfl ?_
  refine Jg_63_33 (nx := 10) dX12_endsBy_7 rfl fl_X12_64 ?_
  refine J_bipush (nx := 12) (i := 32) (v := 32) (by decide) dX12_endsBy_10 rfl ?_
  refine J_iload_n (nx := 13) dX12_endsBy_12 rfl rfl ?_
  refine J_imul (nx := 14) dX12_endsBy_13 rfl ?_
  refine J_iload_n (nx := 15) dX12_endsBy_14 rfl rfl ?_
  refine J_iadd (nx := 16) dX12_endsBy_15 rfl ?_
  refine Ja_79 (nx := 17) dX12_endsBy_16 rfl (vpE (n := ((32 * p) + s)) (nIa (nIm (nIc 32) (Eq.refl (nI (p)))) (Eq.refl (nI (s)))) (by omega) (by decide)) ?_
  rw [clE (n := ((32 * p) + s)) (nIa (nIm (nIc 32) (Eq.refl (nI (p)))) (Eq.refl (nI (s)))) (by omega)]
  refine J_lmul (nx := 18) dX12_endsBy_17 rfl ?_
  refine J_lstore (nx := 20) dX12_endsBy_18 rfl rfl (Nat.le_of_ble_eq_true rfl) ?_
  refine J_iconst (nx := 21) (i := 0) (v := 0) (by decide) dX12_endsBy_20 rfl ?_
  refine J_istore (nx := 23) dX12_endsBy_21 rfl rfl (Nat.le_of_ble_eq_true rfl) ?_
  refine lp_m_eb _ g s p hs hp what _ 32 0 rfl ?_
  refine J_lload (nx := 68) dX12_endsBy_66 rfl rfl ?_
  refine J_iload_n (nx := 69) dX12_endsBy_68 rfl rfl ?_
  refine J_iconst (nx := 70) (i := 1) (v := 1) (by decide) dX12_endsBy_69 rfl ?_
  refine J_icmp_ne (nx := 73) (tgt := 92) dX12_endsBy_70 rfl (by decide) (fun c_70 => ?_) (fun c_70 => ?_)
  · refine J_lconst (nx := 93) (i := 0) (v := 0) (by decide) dX12_endsBy_92 rfl ?_
    refine J_ladd (nx := 94) dX12_endsBy_93 rfl ?_
    refine J_lstore (nx := 96) dX12_endsBy_94 rfl rfl (Nat.le_of_ble_eq_true rfl) ?_
    refine J_lload (nx := 98) dX12_endsBy_96 rfl rfl ?_
    refine J_iload_n (nx := 99) dX12_endsBy_98 rfl rfl ?_
    refine J_iload_n (nx := 100) dX12_endsBy_99 rfl rfl ?_
    refine J_iconst (nx := 101) (i := 1) (v := 1) (by decide) dX12_endsBy_100 rfl ?_
    refine J_icmp_ne (nx := 104) (tgt := 108) dX12_endsBy_101 rfl (by decide) (fun c_101 => ?_) (fun c_101 => ?_)
    · refine J_iconst (nx := 109) (i := 0) (v := 0) (by decide) dX12_endsBy_108 rfl ?_
      refine J_icmp_ne (nx := 112) (tgt := 131) dX12_endsBy_109 rfl (by decide) (fun c_109 => ?_) (fun c_109 => ?_)
      · refine J_lconst (nx := 132) (i := 0) (v := 0) (by decide) dX12_endsBy_131 rfl ?_
        refine J_ladd (nx := 133) dX12_endsBy_132 rfl ?_
        refine J_lstore (nx := 135) dX12_endsBy_133 rfl rfl (Nat.le_of_ble_eq_true rfl) ?_
        refine J_lload (nx := 137) dX12_endsBy_135 rfl rfl ?_
        refine J_ldc2 (nx := 140) cn_X12_291 dX12_endsBy_137 rfl ?_
        refine JcS2 (R' := rm (0) 0 0) (nx := 143) dX12_endsBy_140 rfl ml_J9_floorDiv_f86c9 lk_X12_293 st_J9_floorDiv_f86c9 ⟨(Nat.le_of_ble_eq_true rfl), (Nat.le_of_ble_eq_true rfl)⟩ (Nat.le_of_ble_eq_true rfl) ⟨rfl, rfl⟩ (ct_floorDivL _ _ _ (by decide)) ?_
        exact Jrl dX12_endsBy_143 rfl (Nat.zero_le _) (Nat.zero_le _) (RR.l (by unfold weD; (try (first | rw [if_pos (show ¬ what = 1 from c_70)] | rw [if_neg (show ¬ ¬ what = 1 from fun z => z c_70)])); (try (first | rw [if_pos (show ¬ nI p = 1 from c_101)] | rw [if_neg (show ¬ ¬ nI p = 1 from fun z => z c_101)])); (try (first | rw [if_pos (show ¬ what = 2 from c_109)] | rw [if_neg (show ¬ ¬ what = 2 from fun z => z c_109)])); (try (first | rw [if_pos (show ¬ what = 0 from c_109)] | rw [if_neg (show ¬ ¬ what = 0 from fun z => z c_109)]))) rfl)
      · refine J_ldc2 (nx := 115) cn_X12_390 dX12_endsBy_112 rfl ?_
        refine J_aload_n (nx := 116) dX12_endsBy_115 rfl rfl ?_
        refine Jg_63_1 (nx := 119) dX12_endsBy_116 rfl fl_X12_13 ?_
        refine J_iload_n (nx := 120) dX12_endsBy_119 rfl rfl ?_
        refine J_bipush (nx := 122) (i := 33) (v := 33) (by decide) dX12_endsBy_120 rfl ?_
        refine JcS2 (R' := rm (0) 0 0) (nx := 125) dX12_endsBy_122 rfl ml_X12_chanceAt lk_X12_248 st_X12_chanceAt ⟨(Nat.le_of_ble_eq_true rfl), (Nat.le_of_ble_eq_true rfl)⟩ (Nat.le_of_ble_eq_true rfl) ⟨rfl, rfl⟩ (ct_m_chanceAt _ (s) (33)) ?_
        refine Ja_64 (nx := 126) dX12_endsBy_125 rfl (vpE (n := (18 + 34 * s + 33)) (Eq.refl (nI ((18 + 34 * s + 33)))) (by omega) (by decide)) ?_
        rw [clE (n := (18 + 34 * s + 33)) (Eq.refl (nI ((18 + 34 * s + 33)))) (by omega)]
        refine J_i2l (nx := 127) dX12_endsBy_126 rfl ?_
        refine J_lmul (nx := 128) dX12_endsBy_127 rfl ?_
        refine J_goto (nx := 132) dX12_endsBy_128 (by decide) ?_
        refine J_ladd (nx := 133) dX12_endsBy_132 rfl ?_
        refine J_lstore (nx := 135) dX12_endsBy_133 rfl rfl (Nat.le_of_ble_eq_true rfl) ?_
        refine J_lload (nx := 137) dX12_endsBy_135 rfl rfl ?_
        refine J_ldc2 (nx := 140) cn_X12_291 dX12_endsBy_137 rfl ?_
        refine JcS2 (R' := rm (0) 0 0) (nx := 143) dX12_endsBy_140 rfl ml_J9_floorDiv_f86c9 lk_X12_293 st_J9_floorDiv_f86c9 ⟨(Nat.le_of_ble_eq_true rfl), (Nat.le_of_ble_eq_true rfl)⟩ (Nat.le_of_ble_eq_true rfl) ⟨rfl, rfl⟩ (ct_floorDivL _ _ _ (by decide)) ?_
        exact Jrl dX12_endsBy_143 rfl (Nat.zero_le _) (Nat.zero_le _) (RR.l (by unfold weD; (try (first | rw [if_pos (show ¬ what = 1 from c_70)] | rw [if_neg (show ¬ ¬ what = 1 from fun z => z c_70)])); (try (first | rw [if_pos (show ¬ nI p = 1 from c_101)] | rw [if_neg (show ¬ ¬ nI p = 1 from fun z => z c_101)])); (try (first | rw [if_pos (show ¬ what = 2 from c_109)] | rw [if_neg (show ¬ ¬ what = 2 from fun z => z c_109)])); (try (first | rw [if_pos (show ¬ what = 0 from c_109)] | rw [if_neg (show ¬ ¬ what = 0 from fun z => z c_109)]))) rfl)
    · refine J_iconst (nx := 105) (i := 2) (v := 2) (by decide) dX12_endsBy_104 rfl ?_
      refine J_goto (nx := 109) dX12_endsBy_105 (by decide) ?_
      refine J_icmp_ne (nx := 112) (tgt := 131) dX12_endsBy_109 rfl (by decide) (fun c_109 => ?_) (fun c_109 => ?_)
      · refine J_lconst (nx := 132) (i := 0) (v := 0) (by decide) dX12_endsBy_131 rfl ?_
        refine J_ladd (nx := 133) dX12_endsBy_132 rfl ?_
        refine J_lstore (nx := 135) dX12_endsBy_133 rfl rfl (Nat.le_of_ble_eq_true rfl) ?_
        refine J_lload (nx := 137) dX12_endsBy_135 rfl rfl ?_
        refine J_ldc2 (nx := 140) cn_X12_291 dX12_endsBy_137 rfl ?_
        refine JcS2 (R' := rm (0) 0 0) (nx := 143) dX12_endsBy_140 rfl ml_J9_floorDiv_f86c9 lk_X12_293 st_J9_floorDiv_f86c9 ⟨(Nat.le_of_ble_eq_true rfl), (Nat.le_of_ble_eq_true rfl)⟩ (Nat.le_of_ble_eq_true rfl) ⟨rfl, rfl⟩ (ct_floorDivL _ _ _ (by decide)) ?_
        exact Jrl dX12_endsBy_143 rfl (Nat.zero_le _) (Nat.zero_le _) (RR.l (by unfold weD; (try (first | rw [if_pos (show ¬ what = 1 from c_70)] | rw [if_neg (show ¬ ¬ what = 1 from fun z => z c_70)])); (try (first | rw [if_pos (show ¬ nI p = 1 from c_101)] | rw [if_neg (show ¬ ¬ nI p = 1 from fun z => z c_101)])); (try (first | rw [if_pos (show ¬ what = 2 from c_109)] | rw [if_neg (show ¬ ¬ what = 2 from fun z => z c_109)])); (try (first | rw [if_pos (show ¬ what = 0 from c_109)] | rw [if_neg (show ¬ ¬ what = 0 from fun z => z c_109)]))) rfl)
      · refine J_ldc2 (nx := 115) cn_X12_390 dX12_endsBy_112 rfl ?_
        refine J_aload_n (nx := 116) dX12_endsBy_115 rfl rfl ?_
        refine Jg_63_1 (nx := 119) dX12_endsBy_116 rfl fl_X12_13 ?_
        refine J_iload_n (nx := 120) dX12_endsBy_119 rfl rfl ?_
        refine J_bipush (nx := 122) (i := 33) (v := 33) (by decide) dX12_endsBy_120 rfl ?_
        refine JcS2 (R' := rm (0) 0 0) (nx := 125) dX12_endsBy_122 rfl ml_X12_chanceAt lk_X12_248 st_X12_chanceAt ⟨(Nat.le_of_ble_eq_true rfl), (Nat.le_of_ble_eq_true rfl)⟩ (Nat.le_of_ble_eq_true rfl) ⟨rfl, rfl⟩ (ct_m_chanceAt _ (s) (33)) ?_
        refine Ja_64 (nx := 126) dX12_endsBy_125 rfl (vpE (n := (18 + 34 * s + 33)) (Eq.refl (nI ((18 + 34 * s + 33)))) (by omega) (by decide)) ?_
        rw [clE (n := (18 + 34 * s + 33)) (Eq.refl (nI ((18 + 34 * s + 33)))) (by omega)]
        refine J_i2l (nx := 127) dX12_endsBy_126 rfl ?_
        refine J_lmul (nx := 128) dX12_endsBy_127 rfl ?_
        refine J_goto (nx := 132) dX12_endsBy_128 (by decide) ?_
        refine J_ladd (nx := 133) dX12_endsBy_132 rfl ?_
        refine J_lstore (nx := 135) dX12_endsBy_133 rfl rfl (Nat.le_of_ble_eq_true rfl) ?_
        refine J_lload (nx := 137) dX12_endsBy_135 rfl rfl ?_
        refine J_ldc2 (nx := 140) cn_X12_291 dX12_endsBy_137 rfl ?_
        refine JcS2 (R' := rm (0) 0 0) (nx := 143) dX12_endsBy_140 rfl ml_J9_floorDiv_f86c9 lk_X12_293 st_J9_floorDiv_f86c9 ⟨(Nat.le_of_ble_eq_true rfl), (Nat.le_of_ble_eq_true rfl)⟩ (Nat.le_of_ble_eq_true rfl) ⟨rfl, rfl⟩ (ct_floorDivL _ _ _ (by decide)) ?_
        exact Jrl dX12_endsBy_143 rfl (Nat.zero_le _) (Nat.zero_le _) (RR.l (by unfold weD; (try (first | rw [if_pos (show ¬ what = 1 from c_70)] | rw [if_neg (show ¬ ¬ what = 1 from fun z => z c_70)])); (try (first | rw [if_pos (show ¬ nI p = 1 from c_101)] | rw [if_neg (show ¬ ¬ nI p = 1 from fun z => z c_101)])); (try (first | rw [if_pos (show ¬ what = 2 from c_109)] | rw [if_neg (show ¬ ¬ what = 2 from fun z => z c_109)])); (try (first | rw [if_pos (show ¬ what = 0 from c_109)] | rw [if_neg (show ¬ ¬ what = 0 from fun z => z c_109)]))) rfl)
  · refine J_ldc2 (nx := 76) cn_X12_390 dX12_endsBy_73 rfl ?_
    refine J_aload_n (nx := 77) dX12_endsBy_76 rfl rfl ?_
    refine Jg_63_1 (nx := 80) dX12_endsBy_77 rfl fl_X12_13 ?_
    refine J_iload_n (nx := 81) dX12_endsBy_80 rfl rfl ?_
    refine J_bipush (nx := 83) (i := 32) (v := 32) (by decide) dX12_endsBy_81 rfl ?_
    refine JcS2 (R' := rm (0) 0 0) (nx := 86) dX12_endsBy_83 rfl ml_X12_chanceAt lk_X12_248 st_X12_chanceAt ⟨(Nat.le_of_ble_eq_true rfl), (Nat.le_of_ble_eq_true rfl)⟩ (Nat.le_of_ble_eq_true rfl) ⟨rfl, rfl⟩ (ct_m_chanceAt _ (s) (32)) ?_
    refine Ja_64 (nx := 87) dX12_endsBy_86 rfl (vpE (n := (18 + 34 * s + 32)) (Eq.refl (nI ((18 + 34 * s + 32)))) (by omega) (by decide)) ?_
    rw [clE (n := (18 + 34 * s + 32)) (Eq.refl (nI ((18 + 34 * s + 32)))) (by omega)]
    refine J_i2l (nx := 88) dX12_endsBy_87 rfl ?_
    refine J_lmul (nx := 89) dX12_endsBy_88 rfl ?_
    refine J_goto (nx := 93) dX12_endsBy_89 (by decide) ?_
    refine J_ladd (nx := 94) dX12_endsBy_93 rfl ?_
    refine J_lstore (nx := 96) dX12_endsBy_94 rfl rfl (Nat.le_of_ble_eq_true rfl) ?_
    refine J_lload (nx := 98) dX12_endsBy_96 rfl rfl ?_
    refine J_iload_n (nx := 99) dX12_endsBy_98 rfl rfl ?_
    refine J_iload_n (nx := 100) dX12_endsBy_99 rfl rfl ?_
    refine J_iconst (nx := 101) (i := 1) (v := 1) (by decide) dX12_endsBy_100 rfl ?_
    refine J_icmp_ne (nx := 104) (tgt := 108) dX12_endsBy_101 rfl (by decide) (fun c_101 => ?_) (fun c_101 => ?_)
    · refine J_iconst (nx := 109) (i := 0) (v := 0) (by decide) dX12_endsBy_108 rfl ?_
      refine J_icmp_ne (nx := 112) (tgt := 131) dX12_endsBy_109 rfl (by decide) (fun c_109 => ?_) (fun c_109 => ?_)
      · refine J_lconst (nx := 132) (i := 0) (v := 0) (by decide) dX12_endsBy_131 rfl ?_
        refine J_ladd (nx := 133) dX12_endsBy_132 rfl ?_
        refine J_lstore (nx := 135) dX12_endsBy_133 rfl rfl (Nat.le_of_ble_eq_true rfl) ?_
        refine J_lload (nx := 137) dX12_endsBy_135 rfl rfl ?_
        refine J_ldc2 (nx := 140) cn_X12_291 dX12_endsBy_137 rfl ?_
        refine JcS2 (R' := rm (0) 0 0) (nx := 143) dX12_endsBy_140 rfl ml_J9_floorDiv_f86c9 lk_X12_293 st_J9_floorDiv_f86c9 ⟨(Nat.le_of_ble_eq_true rfl), (Nat.le_of_ble_eq_true rfl)⟩ (Nat.le_of_ble_eq_true rfl) ⟨rfl, rfl⟩ (ct_floorDivL _ _ _ (by decide)) ?_
        exact Jrl dX12_endsBy_143 rfl (Nat.zero_le _) (Nat.zero_le _) (RR.l (by unfold weD; (try (first | rw [if_pos (show ¬ what = 1 from c_70)] | rw [if_neg (show ¬ ¬ what = 1 from fun z => z c_70)])); (try (first | rw [if_pos (show ¬ nI p = 1 from c_101)] | rw [if_neg (show ¬ ¬ nI p = 1 from fun z => z c_101)])); (try (first | rw [if_pos (show ¬ what = 2 from c_109)] | rw [if_neg (show ¬ ¬ what = 2 from fun z => z c_109)])); (try (first | rw [if_pos (show ¬ what = 0 from c_109)] | rw [if_neg (show ¬ ¬ what = 0 from fun z => z c_109)]))) rfl)
      · refine J_ldc2 (nx := 115) cn_X12_390 dX12_endsBy_112 rfl ?_
        refine J_aload_n (nx := 116) dX12_endsBy_115 rfl rfl ?_
        refine Jg_63_1 (nx := 119) dX12_endsBy_116 rfl fl_X12_13 ?_
        refine J_iload_n (nx := 120) dX12_endsBy_119 rfl rfl ?_
        refine J_bipush (nx := 122) (i := 33) (v := 33) (by decide) dX12_endsBy_120 rfl ?_
        refine JcS2 (R' := rm (0) 0 0) (nx := 125) dX12_endsBy_122 rfl ml_X12_chanceAt lk_X12_248 st_X12_chanceAt ⟨(Nat.le_of_ble_eq_true rfl), (Nat.le_of_ble_eq_true rfl)⟩ (Nat.le_of_ble_eq_true rfl) ⟨rfl, rfl⟩ (ct_m_chanceAt _ (s) (33)) ?_
        refine Ja_64 (nx := 126) dX12_endsBy_125 rfl (vpE (n := (18 + 34 * s + 33)) (Eq.refl (nI ((18 + 34 * s + 33)))) (by omega) (by decide)) ?_
        rw [clE (n := (18 + 34 * s + 33)) (Eq.refl (nI ((18 + 34 * s + 33)))) (by omega)]
        refine J_i2l (nx := 127) dX12_endsBy_126 rfl ?_
        refine J_lmul (nx := 128) dX12_endsBy_127 rfl ?_
        refine J_goto (nx := 132) dX12_endsBy_128 (by decide) ?_
        refine J_ladd (nx := 133) dX12_endsBy_132 rfl ?_
        refine J_lstore (nx := 135) dX12_endsBy_133 rfl rfl (Nat.le_of_ble_eq_true rfl) ?_
        refine J_lload (nx := 137) dX12_endsBy_135 rfl rfl ?_
        refine J_ldc2 (nx := 140) cn_X12_291 dX12_endsBy_137 rfl ?_
        refine JcS2 (R' := rm (0) 0 0) (nx := 143) dX12_endsBy_140 rfl ml_J9_floorDiv_f86c9 lk_X12_293 st_J9_floorDiv_f86c9 ⟨(Nat.le_of_ble_eq_true rfl), (Nat.le_of_ble_eq_true rfl)⟩ (Nat.le_of_ble_eq_true rfl) ⟨rfl, rfl⟩ (ct_floorDivL _ _ _ (by decide)) ?_
        exact Jrl dX12_endsBy_143 rfl (Nat.zero_le _) (Nat.zero_le _) (RR.l (by unfold weD; (try (first | rw [if_pos (show ¬ what = 1 from c_70)] | rw [if_neg (show ¬ ¬ what = 1 from fun z => z c_70)])); (try (first | rw [if_pos (show ¬ nI p = 1 from c_101)] | rw [if_neg (show ¬ ¬ nI p = 1 from fun z => z c_101)])); (try (first | rw [if_pos (show ¬ what = 2 from c_109)] | rw [if_neg (show ¬ ¬ what = 2 from fun z => z c_109)])); (try (first | rw [if_pos (show ¬ what = 0 from c_109)] | rw [if_neg (show ¬ ¬ what = 0 from fun z => z c_109)]))) rfl)
    · refine J_iconst (nx := 105) (i := 2) (v := 2) (by decide) dX12_endsBy_104 rfl ?_
      refine J_goto (nx := 109) dX12_endsBy_105 (by decide) ?_
      refine J_icmp_ne (nx := 112) (tgt := 131) dX12_endsBy_109 rfl (by decide) (fun c_109 => ?_) (fun c_109 => ?_)
      · refine J_lconst (nx := 132) (i := 0) (v := 0) (by decide) dX12_endsBy_131 rfl ?_
        refine J_ladd (nx := 133) dX12_endsBy_132 rfl ?_
        refine J_lstore (nx := 135) dX12_endsBy_133 rfl rfl (Nat.le_of_ble_eq_true rfl) ?_
        refine J_lload (nx := 137) dX12_endsBy_135 rfl rfl ?_
        refine J_ldc2 (nx := 140) cn_X12_291 dX12_endsBy_137 rfl ?_
        refine JcS2 (R' := rm (0) 0 0) (nx := 143) dX12_endsBy_140 rfl ml_J9_floorDiv_f86c9 lk_X12_293 st_J9_floorDiv_f86c9 ⟨(Nat.le_of_ble_eq_true rfl), (Nat.le_of_ble_eq_true rfl)⟩ (Nat.le_of_ble_eq_true rfl) ⟨rfl, rfl⟩ (ct_floorDivL _ _ _ (by decide)) ?_
        exact Jrl dX12_endsBy_143 rfl (Nat.zero_le _) (Nat.zero_le _) (RR.l (by unfold weD; (try (first | rw [if_pos (show ¬ what = 1 from c_70)] | rw [if_neg (show ¬ ¬ what = 1 from fun z => z c_70)])); (try (first | rw [if_pos (show ¬ nI p = 1 from c_101)] | rw [if_neg (show ¬ ¬ nI p = 1 from fun z => z c_101)])); (try (first | rw [if_pos (show ¬ what = 2 from c_109)] | rw [if_neg (show ¬ ¬ what = 2 from fun z => z c_109)])); (try (first | rw [if_pos (show ¬ what = 0 from c_109)] | rw [if_neg (show ¬ ¬ what = 0 from fun z => z c_109)]))) rfl)
      · refine J_ldc2 (nx := 115) cn_X12_390 dX12_endsBy_112 rfl ?_
        refine J_aload_n (nx := 116) dX12_endsBy_115 rfl rfl ?_
        refine Jg_63_1 (nx := 119) dX12_endsBy_116 rfl fl_X12_13 ?_
        refine J_iload_n (nx := 120) dX12_endsBy_119 rfl rfl ?_
        refine J_bipush (nx := 122) (i := 33) (v := 33) (by decide) dX12_endsBy_120 rfl ?_
        refine JcS2 (R' := rm (0) 0 0) (nx := 125) dX12_endsBy_122 rfl ml_X12_chanceAt lk_X12_248 st_X12_chanceAt ⟨(Nat.le_of_ble_eq_true rfl), (Nat.le_of_ble_eq_true rfl)⟩ (Nat.le_of_ble_eq_true rfl) ⟨rfl, rfl⟩ (ct_m_chanceAt _ (s) (33)) ?_
        refine Ja_64 (nx := 126) dX12_endsBy_125 rfl (vpE (n := (18 + 34 * s + 33)) (Eq.refl (nI ((18 + 34 * s + 33)))) (by omega) (by decide)) ?_
        rw [clE (n := (18 + 34 * s + 33)) (Eq.refl (nI ((18 + 34 * s + 33)))) (by omega)]
        refine J_i2l (nx := 127) dX12_endsBy_126 rfl ?_
        refine J_lmul (nx := 128) dX12_endsBy_127 rfl ?_
        refine J_goto (nx := 132) dX12_endsBy_128 (by decide) ?_
        refine J_ladd (nx := 133) dX12_endsBy_132 rfl ?_
        refine J_lstore (nx := 135) dX12_endsBy_133 rfl rfl (Nat.le_of_ble_eq_true rfl) ?_
        refine J_lload (nx := 137) dX12_endsBy_135 rfl rfl ?_
        refine J_ldc2 (nx := 140) cn_X12_291 dX12_endsBy_137 rfl ?_
        refine JcS2 (R' := rm (0) 0 0) (nx := 143) dX12_endsBy_140 rfl ml_J9_floorDiv_f86c9 lk_X12_293 st_J9_floorDiv_f86c9 ⟨(Nat.le_of_ble_eq_true rfl), (Nat.le_of_ble_eq_true rfl)⟩ (Nat.le_of_ble_eq_true rfl) ⟨rfl, rfl⟩ (ct_floorDivL _ _ _ (by decide)) ?_
        exact Jrl dX12_endsBy_143 rfl (Nat.zero_le _) (Nat.zero_le _) (RR.l (by unfold weD; (try (first | rw [if_pos (show ¬ what = 1 from c_70)] | rw [if_neg (show ¬ ¬ what = 1 from fun z => z c_70)])); (try (first | rw [if_pos (show ¬ nI p = 1 from c_101)] | rw [if_neg (show ¬ ¬ nI p = 1 from fun z => z c_101)])); (try (first | rw [if_pos (show ¬ what = 2 from c_109)] | rw [if_neg (show ¬ ¬ what = 2 from fun z => z c_109)])); (try (first | rw [if_pos (show ¬ what = 0 from c_109)] | rw [if_neg (show ¬ ¬ what = 0 from fun z => z c_109)]))) rfl)

theorem eW_eq (W : Nat → Int32) (ac : Nat → Nat → Int32) (what : Int32) (T k s : Nat) : eW W ac what T k s = eVa (ac (T - k) s) what (eOn W what k s) (if k = 0 then 0 else weD W (eW W ac what T (k - 1)) s 0 what) := by
  cases k with
  | zero => rfl
  | succ k => rw [if_neg (Nat.succ_ne_zero k)]; rfl
theorem vpL_self {f : Nat → Int64} {i : Nat} {v : Int64} : vp_updL f i v i = v := if_pos rfl
theorem vpL_ne {f : Nat → Int64} {i j : Nat} {v : Int64} (h : ¬ j = i) : vp_updL f i v j = f j := if_neg h
def ORow (W : Nat → Int32) (ac : Nat → Nat → Int32) (what : Int32) (T G k : Nat) (g : GS) : Prop := ∀ q, k = q + 1 → (∀ s, s < 32 → gB g 79 (32 + s) = eOn W what q s) ∧ (T - q ≤ G → ∀ s, s < 32 → gB g 79 s = eW W ac what T q s)
def IRow (W : Nat → Int32) (ac : Nat → Nat → Int32) (what : Int32) (T G q m : Nat) (g : GS) : Prop := (∀ s, s < m → gB g 78 (32 + s) = eOn W what q s) ∧ (T - q ≤ G → ∀ s, s < m → gB g 78 s = eW W ac what T q s)
theorem nI_le_n {a b : Nat} (h : a ≤ b) (hb : b < 2 ^ 31) : nI a ≤ nI b := by
  apply Int32.le_iff_toInt_le.mpr
  rw [nI_toInt (by omega), nI_toInt hb]; omega
set_option maxRecDepth 100000 in
set_option maxHeartbeats 4000000 in
theorem sg_m_te54 (n0 : Nat) (Q : Res → List ME → Prop) (g1 g : GS) (W : Nat → Int32) (T G : Nat) (hT : W 5 = nI T) (hT60 : T ≤ 60) (hG : W 4 = nI G) (hG10 : G ≤ 10) (ac : Nat → Nat → Int32) (hac2 : ∀ s, s < 32 → ac G s = 0 ∨ ac G s = 1) (what : Int32) (n q s : Nat) (hnq : n + q = T) (hs : s < 32) (hW : gA g 64 = W) (hac : ∀ j s, j ≤ G → s < 32 → gA g 74 (32 * j + s) = ac j s) (e : Bool) (he : e = decide (q = 0)) (hO : ORow W ac what T G q g1) (hfr : Fr f0 a78 g1 g) (hI : IRow W ac what T G q s g) (hK : ∀ g2, Fr f0 a78 g1 g2 → IRow W ac what T G q (s + 1) g2 → J mX12_tellsEnds (rm 4 0 0) Q n0 13 [some (.ref 63), some (.int what), some (.int (nI (n))), some (.int (nI (s + 1))), none, none, none, none] [] (Wd g2) 0 0) : J mX12_tellsEnds (rm 4 0 0) (Q) n0 54 [some (.ref 63), some (.int what), some (.int (nI (n))), some (.int (nI (s))), some (.int (bI e)), some (.long (eOn W what q s)), none, none] [] (Wd g) 0 0 := by
  refine J_aload_n (nx := 55) dX12_tellsEnds_54 rfl rfl ?_
  refine Jg_63_32 (nx := 58) dX12_tellsEnds_55 rfl fl_X12_61 ?_
  refine J_bipush (nx := 60) (i := 32) (v := 32) (by decide) dX12_tellsEnds_58 rfl ?_
  refine J_iload_n (nx := 61) dX12_tellsEnds_60 rfl rfl ?_
  refine J_iadd (nx := 62) dX12_tellsEnds_61 rfl ?_
  refine J_lload (nx := 64) dX12_tellsEnds_62 rfl rfl ?_
  refine Jt_78 (nx := 65) dX12_tellsEnds_64 rfl (vpE (n := (32 + s)) (nIa (nIc 32) (Eq.refl (nI (s)))) (by omega) (by decide)) ?_
  rw [clE (n := (32 + s)) (nIa (nIc 32) (Eq.refl (nI (s)))) (by omega)]
  refine J.gen (fun g_64 hg_64 => ?_)
  refine J_iload_n (nx := 66) dX12_tellsEnds_65 rfl rfl ?_
  refine J_aload_n (nx := 67) dX12_tellsEnds_66 rfl rfl ?_
  refine Jg_63_1 (nx := 70) dX12_tellsEnds_67 rfl fl_X12_13 ?_
  refine J_iconst (nx := 71) (i := 4) (v := 4) (by decide) dX12_tellsEnds_70 rfl ?_
  refine Ja_64 (nx := 72) dX12_tellsEnds_71 rfl (vpE (n := 4) (nIc 4) (by omega) (by decide)) ?_
  rw [clE (n := 4) (nIc 4) (by omega)]
  rw [show gA g_64 64 4 = nI G from by rw [hg_64]; exact (congrFun hW 4).trans hG]
  refine J_icmp_le (nx := 75) (tgt := 78) dX12_tellsEnds_72 rfl (by decide) (fun c_72 => ?_) (fun c_72 => ?_)
  · have hnG : n ≤ G := nI_led (by omega) (by omega) c_72
    have hacn : gA g_64 74 (32 * n + s) = ac n s := by rw [hg_64]; exact hac n s hnG hs
    refine J_aload_n (nx := 79) dX12_tellsEnds_78 rfl rfl ?_
    refine Jg_63_27 (nx := 82) dX12_tellsEnds_79 rfl fl_X12_49 ?_
    refine J_bipush (nx := 84) (i := 32) (v := 32) (by decide) dX12_tellsEnds_82 rfl ?_
    refine J_iload_n (nx := 85) dX12_tellsEnds_84 rfl rfl ?_
    refine J_imul (nx := 86) dX12_tellsEnds_85 rfl ?_
    refine J_iload_n (nx := 87) dX12_tellsEnds_86 rfl rfl ?_
    refine J_iadd (nx := 88) dX12_tellsEnds_87 rfl ?_
    refine Ja_74 (nx := 89) dX12_tellsEnds_88 rfl (vpE (n := ((32 * n) + s)) (nIa (nIm (nIc 32) (Eq.refl (nI (n)))) (Eq.refl (nI (s)))) (by omega) (by decide)) ?_
    rw [clE (n := ((32 * n) + s)) (nIa (nIm (nIc 32) (Eq.refl (nI (n)))) (Eq.refl (nI (s)))) (by omega)]
    rw [hacn]
    refine J_istore (nx := 91) dX12_tellsEnds_89 rfl rfl (Nat.le_of_ble_eq_true rfl) ?_
    refine J_aload_n (nx := 92) dX12_tellsEnds_91 rfl rfl ?_
    refine Jg_63_32 (nx := 95) dX12_tellsEnds_92 rfl fl_X12_61 ?_
    refine J_iload_n (nx := 96) dX12_tellsEnds_95 rfl rfl ?_
    refine J_iload (nx := 98) dX12_tellsEnds_96 rfl rfl ?_
    refine J_if_ne (nx := 101) (tgt := 115) dX12_tellsEnds_98 rfl (by decide) (fun c_98 => ?_) (fun c_98 => ?_)
    · refine J_iload (nx := 117) dX12_tellsEnds_115 rfl rfl ?_
      refine J_iconst (nx := 118) (i := 1) (v := 1) (by decide) dX12_tellsEnds_117 rfl ?_
      refine J_icmp_ne (nx := 121) (tgt := 126) dX12_tellsEnds_118 rfl (by decide) (fun c_118 => ?_) (fun c_118 => ?_)
      · refine J_iload (nx := 128) dX12_tellsEnds_126 rfl rfl ?_
        refine J_if_eq (nx := 131) (tgt := 135) dX12_tellsEnds_128 rfl (by decide) (fun c_128 => ?_) (fun c_128 => ?_)
        · refine J_aload_n (nx := 136) dX12_tellsEnds_135 rfl rfl ?_
          refine J_iload_n (nx := 137) dX12_tellsEnds_136 rfl rfl ?_
          refine J_iconst (nx := 138) (i := 0) (v := 0) (by decide) dX12_tellsEnds_137 rfl ?_
          refine J_iload_n (nx := 139) dX12_tellsEnds_138 rfl rfl ?_
          refine JcV3 (R' := rm (3) 0 0) (nx := 142) dX12_tellsEnds_139 rfl ml_X12_endsBy lk_X12_392 iv_X12_endsBy rfl rfl ⟨(Nat.le_of_ble_eq_true rfl), (Nat.le_of_ble_eq_true rfl)⟩ (Nat.le_of_ble_eq_true rfl) ⟨rfl, rfl⟩ (ct_m_endsBy g_64 s 0 hs (by omega) what) ?_
          refine Jt_78 (nx := 143) dX12_tellsEnds_142 rfl (vpE (n := s) (Eq.refl (nI (s))) (by omega) (by decide)) ?_
          rw [clE (n := s) (Eq.refl (nI (s))) (by omega)]
          refine J.gen (fun g_142 hg_142 => ?_)
          refine J_iinc (nx := 146) dX12_tellsEnds_143 rfl rfl rfl (Nat.le_of_ble_eq_true rfl) ?_
          refine J_goto (nx := 13) dX12_tellsEnds_146 (by decide) ?_
          rw [show (nI (s) + Int32.ofInt 1) = nI (s + 1) from (show nI (s) + Int32.ofInt 1 = nI (s + 1) from nI_add (s) 1)]
          refine J_kill (nx := 0) 4 ?_
          refine J_kill (nx := 0) 5 ?_
          refine J_kill (nx := 0) 7 ?_
          have hv : gB g_142 78 s = eW W ac what T q s := by
            rw [hg_142]
            refine vpL_self.trans ?_
            rw [eW_eq, show T - q = n by omega]
            unfold eVa
            (try (first | rw [if_pos (show ¬ ac n s = 0 from c_98)] | rw [if_neg (show ¬ ¬ ac n s = 0 from fun z => z c_98)])); (try (first | rw [if_pos (show ¬ what = 0 from c_102)] | rw [if_neg (show ¬ ¬ what = 0 from fun z => z c_102)])); (try (first | rw [if_pos (show ¬ ac n s = 1 from c_118)] | rw [if_neg (show ¬ ¬ ac n s = 1 from fun z => z c_118)]))
            all_goals first
              | (rw [if_pos (show q = 0 from by have := bI_n0.mp c_128; rw [he] at this; exact of_decide_eq_true this)])
              | (have hq0 : ¬ q = 0 := (by have := bI_0.mp c_128; rw [he] at this; exact of_decide_eq_false this)
                 obtain ⟨q', rfl⟩ : ∃ q', q = q' + 1 := ⟨q - 1, by omega⟩
                 have hlt : n < G := (by
                   rcases Nat.lt_or_ge n G with h | h
                   · exact h
                   · obtain rfl : n = G := by omega
                     rcases hac2 s hs with e | e
                     · exact absurd e c_98
                     · exact absurd e c_118)
                 rw [if_neg hq0, show q' + 1 - 1 = q' from rfl, show gA g_64 64 = W from by rw [hg_64]; exact hW]
                 refine weD_congr hs (fun x hx => ?_)
                 rw [hg_64, Nat.mul_zero, Nat.zero_add]
                 exact ((congrFun (hfr.2.2.1 79 rfl) x).trans ((hO q' rfl).2 (by omega) x hx)))
          refine hK g_142 (by rw [hg_142, hg_64]; exact (hfr.sB rfl).sB rfl) ⟨fun s' hs' => ?_, fun hle s' hs' => ?_⟩
          · rw [hg_142]
            refine (vpL_ne (by omega)).trans ?_
            rw [hg_64]
            show vp_updL (gB g 78) (32 + s) (eOn W what q s) (32 + s') = _
            by_cases e : s' = s
            · rw [e, vpL_self]
            · rw [vpL_ne (by omega)]; exact hI.1 s' (by omega)
          · by_cases e : s' = s
            · rw [e]; exact hv
            · rw [hg_142]
              refine (vpL_ne (by omega)).trans ?_
              rw [hg_64]
              exact (vpL_ne (by omega)).trans (hI.2 hle s' (by omega))
        · refine J_lconst (nx := 132) (i := 0) (v := 0) (by decide) dX12_tellsEnds_131 rfl ?_
          refine J_goto (nx := 142) dX12_tellsEnds_132 (by decide) ?_
          refine Jt_78 (nx := 143) dX12_tellsEnds_142 rfl (vpE (n := s) (Eq.refl (nI (s))) (by omega) (by decide)) ?_
          rw [clE (n := s) (Eq.refl (nI (s))) (by omega)]
          refine J.gen (fun g_142 hg_142 => ?_)
          refine J_iinc (nx := 146) dX12_tellsEnds_143 rfl rfl rfl (Nat.le_of_ble_eq_true rfl) ?_
          refine J_goto (nx := 13) dX12_tellsEnds_146 (by decide) ?_
          rw [show (nI (s) + Int32.ofInt 1) = nI (s + 1) from (show nI (s) + Int32.ofInt 1 = nI (s + 1) from nI_add (s) 1)]
          refine J_kill (nx := 0) 4 ?_
          refine J_kill (nx := 0) 5 ?_
          refine J_kill (nx := 0) 7 ?_
          have hv : gB g_142 78 s = eW W ac what T q s := by
            rw [hg_142]
            refine vpL_self.trans ?_
            rw [eW_eq, show T - q = n by omega]
            unfold eVa
            (try (first | rw [if_pos (show ¬ ac n s = 0 from c_98)] | rw [if_neg (show ¬ ¬ ac n s = 0 from fun z => z c_98)])); (try (first | rw [if_pos (show ¬ what = 0 from c_102)] | rw [if_neg (show ¬ ¬ what = 0 from fun z => z c_102)])); (try (first | rw [if_pos (show ¬ ac n s = 1 from c_118)] | rw [if_neg (show ¬ ¬ ac n s = 1 from fun z => z c_118)]))
            all_goals first
              | (rw [if_pos (show q = 0 from by have := bI_n0.mp c_128; rw [he] at this; exact of_decide_eq_true this)])
              | (have hq0 : ¬ q = 0 := (by have := bI_0.mp c_128; rw [he] at this; exact of_decide_eq_false this)
                 obtain ⟨q', rfl⟩ : ∃ q', q = q' + 1 := ⟨q - 1, by omega⟩
                 have hlt : n < G := (by
                   rcases Nat.lt_or_ge n G with h | h
                   · exact h
                   · obtain rfl : n = G := by omega
                     rcases hac2 s hs with e | e
                     · exact absurd e c_98
                     · exact absurd e c_118)
                 rw [if_neg hq0, show q' + 1 - 1 = q' from rfl, show gA g_64 64 = W from by rw [hg_64]; exact hW]
                 refine weD_congr hs (fun x hx => ?_)
                 rw [hg_64, Nat.mul_zero, Nat.zero_add]
                 exact ((congrFun (hfr.2.2.1 79 rfl) x).trans ((hO q' rfl).2 (by omega) x hx)))
          refine hK g_142 (by rw [hg_142, hg_64]; exact (hfr.sB rfl).sB rfl) ⟨fun s' hs' => ?_, fun hle s' hs' => ?_⟩
          · rw [hg_142]
            refine (vpL_ne (by omega)).trans ?_
            rw [hg_64]
            show vp_updL (gB g 78) (32 + s) (eOn W what q s) (32 + s') = _
            by_cases e : s' = s
            · rw [e, vpL_self]
            · rw [vpL_ne (by omega)]; exact hI.1 s' (by omega)
          · by_cases e : s' = s
            · rw [e]; exact hv
            · rw [hg_142]
              refine (vpL_ne (by omega)).trans ?_
              rw [hg_64]
              exact (vpL_ne (by omega)).trans (hI.2 hle s' (by omega))
      · refine J_lload (nx := 123) dX12_tellsEnds_121 rfl rfl ?_
        refine J_goto (nx := 142) dX12_tellsEnds_123 (by decide) ?_
        refine Jt_78 (nx := 143) dX12_tellsEnds_142 rfl (vpE (n := s) (Eq.refl (nI (s))) (by omega) (by decide)) ?_
        rw [clE (n := s) (Eq.refl (nI (s))) (by omega)]
        refine J.gen (fun g_142 hg_142 => ?_)
        refine J_iinc (nx := 146) dX12_tellsEnds_143 rfl rfl rfl (Nat.le_of_ble_eq_true rfl) ?_
        refine J_goto (nx := 13) dX12_tellsEnds_146 (by decide) ?_
        rw [show (nI (s) + Int32.ofInt 1) = nI (s + 1) from (show nI (s) + Int32.ofInt 1 = nI (s + 1) from nI_add (s) 1)]
        refine J_kill (nx := 0) 4 ?_
        refine J_kill (nx := 0) 5 ?_
        refine J_kill (nx := 0) 7 ?_
        have hv : gB g_142 78 s = eW W ac what T q s := by
          rw [hg_142]
          refine vpL_self.trans ?_
          rw [eW_eq, show T - q = n by omega]
          unfold eVa
          (try (first | rw [if_pos (show ¬ ac n s = 0 from c_98)] | rw [if_neg (show ¬ ¬ ac n s = 0 from fun z => z c_98)])); (try (first | rw [if_pos (show ¬ what = 0 from c_102)] | rw [if_neg (show ¬ ¬ what = 0 from fun z => z c_102)])); (try (first | rw [if_pos (show ¬ ac n s = 1 from c_118)] | rw [if_neg (show ¬ ¬ ac n s = 1 from fun z => z c_118)]))
          all_goals first
            | (rw [if_pos (show q = 0 from by have := bI_n0.mp c_128; rw [he] at this; exact of_decide_eq_true this)])
            | (have hq0 : ¬ q = 0 := (by have := bI_0.mp c_128; rw [he] at this; exact of_decide_eq_false this)
               obtain ⟨q', rfl⟩ : ∃ q', q = q' + 1 := ⟨q - 1, by omega⟩
               have hlt : n < G := (by
                 rcases Nat.lt_or_ge n G with h | h
                 · exact h
                 · obtain rfl : n = G := by omega
                   rcases hac2 s hs with e | e
                   · exact absurd e c_98
                   · exact absurd e c_118)
               rw [if_neg hq0, show q' + 1 - 1 = q' from rfl, show gA g_64 64 = W from by rw [hg_64]; exact hW]
               refine weD_congr hs (fun x hx => ?_)
               rw [hg_64, Nat.mul_zero, Nat.zero_add]
               exact ((congrFun (hfr.2.2.1 79 rfl) x).trans ((hO q' rfl).2 (by omega) x hx)))
        refine hK g_142 (by rw [hg_142, hg_64]; exact (hfr.sB rfl).sB rfl) ⟨fun s' hs' => ?_, fun hle s' hs' => ?_⟩
        · rw [hg_142]
          refine (vpL_ne (by omega)).trans ?_
          rw [hg_64]
          show vp_updL (gB g 78) (32 + s) (eOn W what q s) (32 + s') = _
          by_cases e : s' = s
          · rw [e, vpL_self]
          · rw [vpL_ne (by omega)]; exact hI.1 s' (by omega)
        · by_cases e : s' = s
          · rw [e]; exact hv
          · rw [hg_142]
            refine (vpL_ne (by omega)).trans ?_
            rw [hg_64]
            exact (vpL_ne (by omega)).trans (hI.2 hle s' (by omega))
    · refine J_iload_n (nx := 102) dX12_tellsEnds_101 rfl rfl ?_
      refine J_if_ne (nx := 105) (tgt := 111) dX12_tellsEnds_102 rfl (by decide) (fun c_102 => ?_) (fun c_102 => ?_)
      · refine J_lconst (nx := 112) (i := 0) (v := 0) (by decide) dX12_tellsEnds_111 rfl ?_
        refine J_goto (nx := 142) dX12_tellsEnds_112 (by decide) ?_
        refine Jt_78 (nx := 143) dX12_tellsEnds_142 rfl (vpE (n := s) (Eq.refl (nI (s))) (by omega) (by decide)) ?_
        rw [clE (n := s) (Eq.refl (nI (s))) (by omega)]
        refine J.gen (fun g_142 hg_142 => ?_)
        refine J_iinc (nx := 146) dX12_tellsEnds_143 rfl rfl rfl (Nat.le_of_ble_eq_true rfl) ?_
        refine J_goto (nx := 13) dX12_tellsEnds_146 (by decide) ?_
        rw [show (nI (s) + Int32.ofInt 1) = nI (s + 1) from (show nI (s) + Int32.ofInt 1 = nI (s + 1) from nI_add (s) 1)]
        refine J_kill (nx := 0) 4 ?_
        refine J_kill (nx := 0) 5 ?_
        refine J_kill (nx := 0) 7 ?_
        have hv : gB g_142 78 s = eW W ac what T q s := by
          rw [hg_142]
          refine vpL_self.trans ?_
          rw [eW_eq, show T - q = n by omega]
          unfold eVa
          (try (first | rw [if_pos (show ¬ ac n s = 0 from c_98)] | rw [if_neg (show ¬ ¬ ac n s = 0 from fun z => z c_98)])); (try (first | rw [if_pos (show ¬ what = 0 from c_102)] | rw [if_neg (show ¬ ¬ what = 0 from fun z => z c_102)])); (try (first | rw [if_pos (show ¬ ac n s = 1 from c_118)] | rw [if_neg (show ¬ ¬ ac n s = 1 from fun z => z c_118)]))
          all_goals first
            | (rw [if_pos (show q = 0 from by have := bI_n0.mp c_128; rw [he] at this; exact of_decide_eq_true this)])
            | (have hq0 : ¬ q = 0 := (by have := bI_0.mp c_128; rw [he] at this; exact of_decide_eq_false this)
               obtain ⟨q', rfl⟩ : ∃ q', q = q' + 1 := ⟨q - 1, by omega⟩
               have hlt : n < G := (by
                 rcases Nat.lt_or_ge n G with h | h
                 · exact h
                 · obtain rfl : n = G := by omega
                   rcases hac2 s hs with e | e
                   · exact absurd e c_98
                   · exact absurd e c_118)
               rw [if_neg hq0, show q' + 1 - 1 = q' from rfl, show gA g_64 64 = W from by rw [hg_64]; exact hW]
               refine weD_congr hs (fun x hx => ?_)
               rw [hg_64, Nat.mul_zero, Nat.zero_add]
               exact ((congrFun (hfr.2.2.1 79 rfl) x).trans ((hO q' rfl).2 (by omega) x hx)))
        refine hK g_142 (by rw [hg_142, hg_64]; exact (hfr.sB rfl).sB rfl) ⟨fun s' hs' => ?_, fun hle s' hs' => ?_⟩
        · rw [hg_142]
          refine (vpL_ne (by omega)).trans ?_
          rw [hg_64]
          show vp_updL (gB g 78) (32 + s) (eOn W what q s) (32 + s') = _
          by_cases e : s' = s
          · rw [e, vpL_self]
          · rw [vpL_ne (by omega)]; exact hI.1 s' (by omega)
        · by_cases e : s' = s
          · rw [e]; exact hv
          · rw [hg_142]
            refine (vpL_ne (by omega)).trans ?_
            rw [hg_64]
            exact (vpL_ne (by omega)).trans (hI.2 hle s' (by omega))
      · refine J_ldc2 (nx := 108) cn_X12_390 dX12_tellsEnds_105 rfl ?_
        refine J_goto (nx := 142) dX12_tellsEnds_108 (by decide) ?_
        refine Jt_78 (nx := 143) dX12_tellsEnds_142 rfl (vpE (n := s) (Eq.refl (nI (s))) (by omega) (by decide)) ?_
        rw [clE (n := s) (Eq.refl (nI (s))) (by omega)]
        refine J.gen (fun g_142 hg_142 => ?_)
        refine J_iinc (nx := 146) dX12_tellsEnds_143 rfl rfl rfl (Nat.le_of_ble_eq_true rfl) ?_
        refine J_goto (nx := 13) dX12_tellsEnds_146 (by decide) ?_
        rw [show (nI (s) + Int32.ofInt 1) = nI (s + 1) from (show nI (s) + Int32.ofInt 1 = nI (s + 1) from nI_add (s) 1)]
        refine J_kill (nx := 0) 4 ?_
        refine J_kill (nx := 0) 5 ?_
        refine J_kill (nx := 0) 7 ?_
        have hv : gB g_142 78 s = eW W ac what T q s := by
          rw [hg_142]
          refine vpL_self.trans ?_
          rw [eW_eq, show T - q = n by omega]
          unfold eVa
          (try (first | rw [if_pos (show ¬ ac n s = 0 from c_98)] | rw [if_neg (show ¬ ¬ ac n s = 0 from fun z => z c_98)])); (try (first | rw [if_pos (show ¬ what = 0 from c_102)] | rw [if_neg (show ¬ ¬ what = 0 from fun z => z c_102)])); (try (first | rw [if_pos (show ¬ ac n s = 1 from c_118)] | rw [if_neg (show ¬ ¬ ac n s = 1 from fun z => z c_118)]))
          all_goals first
            | (rw [if_pos (show q = 0 from by have := bI_n0.mp c_128; rw [he] at this; exact of_decide_eq_true this)])
            | (have hq0 : ¬ q = 0 := (by have := bI_0.mp c_128; rw [he] at this; exact of_decide_eq_false this)
               obtain ⟨q', rfl⟩ : ∃ q', q = q' + 1 := ⟨q - 1, by omega⟩
               have hlt : n < G := (by
                 rcases Nat.lt_or_ge n G with h | h
                 · exact h
                 · obtain rfl : n = G := by omega
                   rcases hac2 s hs with e | e
                   · exact absurd e c_98
                   · exact absurd e c_118)
               rw [if_neg hq0, show q' + 1 - 1 = q' from rfl, show gA g_64 64 = W from by rw [hg_64]; exact hW]
               refine weD_congr hs (fun x hx => ?_)
               rw [hg_64, Nat.mul_zero, Nat.zero_add]
               exact ((congrFun (hfr.2.2.1 79 rfl) x).trans ((hO q' rfl).2 (by omega) x hx)))
        refine hK g_142 (by rw [hg_142, hg_64]; exact (hfr.sB rfl).sB rfl) ⟨fun s' hs' => ?_, fun hle s' hs' => ?_⟩
        · rw [hg_142]
          refine (vpL_ne (by omega)).trans ?_
          rw [hg_64]
          show vp_updL (gB g 78) (32 + s) (eOn W what q s) (32 + s') = _
          by_cases e : s' = s
          · rw [e, vpL_self]
          · rw [vpL_ne (by omega)]; exact hI.1 s' (by omega)
        · by_cases e : s' = s
          · rw [e]; exact hv
          · rw [hg_142]
            refine (vpL_ne (by omega)).trans ?_
            rw [hg_64]
            exact (vpL_ne (by omega)).trans (hI.2 hle s' (by omega))
  · refine J_goto (nx := 143) dX12_tellsEnds_75 (by decide) ?_
    refine J_iinc (nx := 146) dX12_tellsEnds_143 rfl rfl rfl (Nat.le_of_ble_eq_true rfl) ?_
    refine J_goto (nx := 13) dX12_tellsEnds_146 (by decide) ?_
    rw [show (nI (s) + Int32.ofInt 1) = nI (s + 1) from (show nI (s) + Int32.ofInt 1 = nI (s + 1) from nI_add (s) 1)]
    refine J_kill (nx := 0) 4 ?_
    refine J_kill (nx := 0) 5 ?_
    refine J_kill (nx := 0) 7 ?_
    refine hK g_64 (by rw [hg_64]; exact hfr.sB rfl) ⟨fun s' hs' => ?_, fun hle => absurd hle (fun z => c_72 (by rw [show n = T - q by omega]; exact nI_le_n z (by omega)))⟩
    rw [hg_64]
    show vp_updL (gB g 78) (32 + s) (eOn W what q s) (32 + s') = _
    by_cases e : s' = s
    · rw [e, vpL_self]
    · rw [vpL_ne (by omega)]; exact hI.1 s' (by omega)

set_option maxRecDepth 100000 in
set_option maxHeartbeats 4000000 in
theorem lp_m_te2 (Q : Res → List ME → Prop) (g1 : GS) (W : Nat → Int32) (T G : Nat) (hT : W 5 = nI T) (hT60 : T ≤ 60) (hG : W 4 = nI G) (hG10 : G ≤ 10) (ac : Nat → Nat → Int32) (hac2 : ∀ s, s < 32 → ac G s = 0 ∨ ac G s = 1) (what : Int32) (hW1 : gA g1 64 = W) (hac1 : ∀ j s, j ≤ G → s < 32 → gA g1 74 (32 * j + s) = ac j s) (n q : Nat) (hnq : n + q = T) (hO : ORow W ac what T G q g1) (n0 : Nat) : ∀ (k : Nat) (s : Nat) (g : GS), s + k = 32 → Fr f0 a78 g1 g → IRow W ac what T G q s g → (∀ g, Fr f0 a78 g1 g → IRow W ac what T G q 32 g → J mX12_tellsEnds (rm 4 0 0) Q n0 149 [some (.ref 63), some (.int what), some (.int (nI (n))), some (.int (nI 32)), none, none, none, none] [] (Wd g) 0 0) → J mX12_tellsEnds (rm 4 0 0) (Q) n0 13 [some (.ref 63), some (.int what), some (.int (nI (n))), some (.int (nI (s))), none, none, none, none] [] (Wd g) 0 0 := by
  intro k
  induction k with
  | zero =>
    intro s g hk hfr hI hK
    refine J_iload_n (nx := 14) dX12_tellsEnds_13 rfl rfl ?_
    refine J_bipush (nx := 16) (i := 32) (v := 32) (by decide) dX12_tellsEnds_14 rfl ?_
    refine J_icmp_ge (nx := 19) (tgt := 149) dX12_tellsEnds_16 rfl (by decide) (fun c_16 => ?_) (fun c_16 => ?_)
    · obtain rfl : s = 32 := by omega
      exact hK g hfr hI
    · exact absurd (show nI 32 ≤ nI s from by rw [show s = 32 by omega]; exact le_self_nI) c_16
  | succ k ih =>
    intro s g hk hfr hI hK
    refine J_iload_n (nx := 14) dX12_tellsEnds_13 rfl rfl ?_
    refine J_bipush (nx := 16) (i := 32) (v := 32) (by decide) dX12_tellsEnds_14 rfl ?_
    refine J_icmp_ge (nx := 19) (tgt := 149) dX12_tellsEnds_16 rfl (by decide) (fun c_16 => ?_) (fun c_16 => ?_)
    · exact absurd c_16 (nlt_nI (n := 32) (by omega) (by omega))
    · have hs : s < 32 := by omega
      have hW : gA g 64 = W := (hfr.2.1 64 rfl).trans hW1
      have hac : ∀ j s, j ≤ G → s < 32 → gA g 74 (32 * j + s) = ac j s := fun j s a b => by rw [hfr.2.1 74 rfl]; exact hac1 j s a b
      refine J_iload_n (nx := 20) dX12_tellsEnds_19 rfl rfl ?_
      refine J_aload_n (nx := 21) dX12_tellsEnds_20 rfl rfl ?_
      refine Jg_63_1 (nx := 24) dX12_tellsEnds_21 rfl fl_X12_13 ?_
      refine J_iconst (nx := 25) (i := 5) (v := 5) (by decide) dX12_tellsEnds_24 rfl ?_
      refine Ja_64 (nx := 26) dX12_tellsEnds_25 rfl (vpE (n := 5) (nIc 5) (by omega) (by decide)) ?_
      rw [clE (n := 5) (nIc 5) (by omega)]
      rw [show gA g 64 5 = nI T from (congrFun hW 5).trans hT]
      refine J_icmp_ne (nx := 29) (tgt := 33) dX12_tellsEnds_26 rfl (by decide) (fun c_26 => ?_) (fun c_26 => ?_)
      · refine J_iconst (nx := 34) (i := 0) (v := 0) (by decide) dX12_tellsEnds_33 rfl ?_
        refine J_istore (nx := 36) dX12_tellsEnds_34 rfl rfl (Nat.le_of_ble_eq_true rfl) ?_
        refine J_iload (nx := 38) dX12_tellsEnds_36 rfl rfl ?_
        refine J_if_eq (nx := 41) (tgt := 45) dX12_tellsEnds_38 rfl (by decide) (fun c_38 => ?_) (fun c_38 => ?_)
        · refine J_aload_n (nx := 46) dX12_tellsEnds_45 rfl rfl ?_
          refine J_iload_n (nx := 47) dX12_tellsEnds_46 rfl rfl ?_
          refine J_iconst (nx := 48) (i := 1) (v := 1) (by decide) dX12_tellsEnds_47 rfl ?_
          refine J_iload_n (nx := 49) dX12_tellsEnds_48 rfl rfl ?_
          refine JcV3 (R' := rm (3) 0 0) (nx := 52) dX12_tellsEnds_49 rfl ml_X12_endsBy lk_X12_392 iv_X12_endsBy rfl rfl ⟨(Nat.le_of_ble_eq_true rfl), (Nat.le_of_ble_eq_true rfl)⟩ (Nat.le_of_ble_eq_true rfl) ⟨rfl, rfl⟩ (ct_m_endsBy g s 1 hs (by omega) what) ?_
          refine J_lstore (nx := 54) dX12_tellsEnds_52 rfl rfl (Nat.le_of_ble_eq_true rfl) ?_
          have hnT : n ≠ T := fun e => c_26 (by rw [e])
          obtain ⟨q', rfl⟩ : ∃ q', q = q' + 1 := ⟨q - 1, by omega⟩
          refine J.lv (fun v => [some (.ref 63), some (.int what), some (.int (nI (n))), some (.int (nI (s))), some (.int (bI false)), some (.long (v)), none, none]) (?_ : _ = eOn W what (q' + 1) s) (sg_m_te54 n0 Q g1 g W T G hT hT60 hG hG10 ac hac2 what n (q' + 1) s hnq hs hW hac false rfl hO hfr hI (fun g2 a b => ih (s + 1) g2 (by omega) a b hK))
          rw [hW]
          refine weD_congr hs (fun x hx => ?_)
          rw [Nat.mul_one, hfr.2.2.1 79 rfl]
          exact (hO q' rfl).1 x hx
        · exact absurd rfl c_38
      · refine J_iconst (nx := 30) (i := 1) (v := 1) (by decide) dX12_tellsEnds_29 rfl ?_
        refine J_goto (nx := 34) dX12_tellsEnds_30 (by decide) ?_
        refine J_istore (nx := 36) dX12_tellsEnds_34 rfl rfl (Nat.le_of_ble_eq_true rfl) ?_
        refine J_iload (nx := 38) dX12_tellsEnds_36 rfl rfl ?_
        refine J_if_eq (nx := 41) (tgt := 45) dX12_tellsEnds_38 rfl (by decide) (fun c_38 => ?_) (fun c_38 => ?_)
        · exact absurd c_38 (by decide)
        · refine J_lconst (nx := 42) (i := 0) (v := 0) (by decide) dX12_tellsEnds_41 rfl ?_
          refine J_goto (nx := 52) dX12_tellsEnds_42 (by decide) ?_
          refine J_lstore (nx := 54) dX12_tellsEnds_52 rfl rfl (Nat.le_of_ble_eq_true rfl) ?_
          have hq0 : q = 0 := by have := nI_inj (a := n) (b := T) (by omega) (by omega) c_26; omega
          subst hq0
          exact sg_m_te54 n0 Q g1 g W T G hT hT60 hG hG10 ac hac2 what n 0 s hnq hs hW hac true rfl hO hfr hI (fun g2 a b => ih (s + 1) g2 (by omega) a b hK)

def a79 (c : Nat) : Bool := Nat.beq c 79
set_option maxRecDepth 100000 in
set_option maxHeartbeats 4000000 in
theorem lp_m_te3 (Q : Res → List ME → Prop) (g1 : GS) (what : Int32) (n : Nat) (n0 : Nat) : ∀ (k : Nat) (s : Nat) (g : GS), s + k = 64 → Fr f0 a79 g1 g → (∀ x, x < s → gB g 79 x = gB g1 78 x) → (∀ g, Fr f0 a79 g1 g → (∀ x, x < 64 → gB g 79 x = gB g1 78 x) → J mX12_tellsEnds (rm 4 0 0) Q n0 175 [some (.ref 63), some (.int what), some (.int (nI (n))), some (.int (nI 64)), none, none, none, none] [] (Wd g) 0 0) → J mX12_tellsEnds (rm 4 0 0) (Q) n0 151 [some (.ref 63), some (.int what), some (.int (nI (n))), some (.int (nI (s))), none, none, none, none] [] (Wd g) 0 0 := by
  intro k
  induction k with
  | zero =>
    intro s g hk hfr hI hK
    refine J_iload_n (nx := 152) dX12_tellsEnds_151 rfl rfl ?_
    refine J_bipush (nx := 154) (i := 64) (v := 64) (by decide) dX12_tellsEnds_152 rfl ?_
    refine J_icmp_ge (nx := 157) (tgt := 175) dX12_tellsEnds_154 rfl (by decide) (fun c_154 => ?_) (fun c_154 => ?_)
    · obtain rfl : s = 64 := by omega
      exact hK g hfr hI
    · exact absurd (show nI 64 ≤ nI s from by rw [show s = 64 by omega]; exact le_self_nI) c_154
  | succ k ih =>
    intro s g hk hfr hI hK
    refine J_iload_n (nx := 152) dX12_tellsEnds_151 rfl rfl ?_
    refine J_bipush (nx := 154) (i := 64) (v := 64) (by decide) dX12_tellsEnds_152 rfl ?_
    refine J_icmp_ge (nx := 157) (tgt := 175) dX12_tellsEnds_154 rfl (by decide) (fun c_154 => ?_) (fun c_154 => ?_)
    · exact absurd c_154 (nlt_nI (n := 64) (by omega) (by omega))
    · have hs : s < 64 := by omega
      refine J_aload_n (nx := 158) dX12_tellsEnds_157 rfl rfl ?_
      refine Jg_63_33 (nx := 161) dX12_tellsEnds_158 rfl fl_X12_64 ?_
      refine J_iload_n (nx := 162) dX12_tellsEnds_161 rfl rfl ?_
      refine J_aload_n (nx := 163) dX12_tellsEnds_162 rfl rfl ?_
      refine Jg_63_32 (nx := 166) dX12_tellsEnds_163 rfl fl_X12_61 ?_
      refine J_iload_n (nx := 167) dX12_tellsEnds_166 rfl rfl ?_
      refine Ja_78 (nx := 168) dX12_tellsEnds_167 rfl (vpE (n := s) (Eq.refl (nI (s))) (by omega) (by decide)) ?_
      rw [clE (n := s) (Eq.refl (nI (s))) (by omega)]
      refine Jt_79 (nx := 169) dX12_tellsEnds_168 rfl (vpE (n := s) (Eq.refl (nI (s))) (by omega) (by decide)) ?_
      rw [clE (n := s) (Eq.refl (nI (s))) (by omega)]
      refine J.gen (fun g_168 hg_168 => ?_)
      refine J_iinc (nx := 172) dX12_tellsEnds_169 rfl rfl rfl (Nat.le_of_ble_eq_true rfl) ?_
      refine J_goto (nx := 151) dX12_tellsEnds_172 (by decide) ?_
      rw [show (nI (s) + Int32.ofInt 1) = nI (s + 1) from (show nI (s) + Int32.ofInt 1 = nI (s + 1) from nI_add (s) 1)]
      refine ih (s + 1) g_168 (by omega) (by rw [hg_168]; exact hfr.sB rfl) (fun x hx => ?_) hK
      rw [hg_168]
      show vp_updL (gB g 79) s (gB g 78 s) x = gB g1 78 x
      by_cases e : x = s
      · rw [e, vpL_self, hfr.2.2.1 78 rfl]
      · rw [vpL_ne e]; exact hI x (by omega)

theorem a789_78 (c : Nat) (h : a789 c = false) : a78 c = false := by unfold a789 at h; unfold a78; revert h; cases Nat.beq c 78 <;> simp
theorem a789_79 (c : Nat) (h : a789 c = false) : a79 c = false := by unfold a789 at h; unfold a79; revert h; cases Nat.beq c 78 <;> cases Nat.beq c 79 <;> simp
set_option maxRecDepth 100000 in
set_option maxHeartbeats 4000000 in
theorem lp_m_te1 (n0 : Nat) (g0 : GS) (W : Nat → Int32) (T G : Nat) (hT : W 5 = nI T) (hT60 : T ≤ 60) (hG : W 4 = nI G) (hG10 : G ≤ 10) (ac : Nat → Nat → Int32) (hac2 : ∀ s, s < 32 → ac G s = 0 ∨ ac G s = 1) (what : Int32) (hW0 : gA g0 64 = W) (hac0 : ∀ j s, j ≤ G → s < 32 → gA g0 74 (32 * j + s) = ac j s) : ∀ (n q : Nat) (g : GS), n + q = T → Fr f0 a789 g0 g → ORow W ac what T G q g → J mX12_tellsEnds (rm 4 0 0) (RXv (fun g2 => Fr f0 a789 g0 g2 ∧ ∀ s, s < 32 → gB g2 79 s = eW W ac what T T s)) n0 7 [some (.ref 63), some (.int what), some (.int (nI (n))), none, none, none, none, none] [] (Wd g) 0 0 := by
  intro n
  induction n with
  | zero =>
    intro q g hnq hfr hO
    have hW : gA g 64 = W := (hfr.2.1 64 rfl).trans hW0
    have hac : ∀ j s, j ≤ G → s < 32 → gA g 74 (32 * j + s) = ac j s := fun j s a b => by rw [hfr.2.1 74 rfl]; exact hac0 j s a b
    refine J_iload_n (nx := 8) dX12_tellsEnds_7 rfl rfl ?_
    refine J_if_lt (nx := 11) (tgt := 181) dX12_tellsEnds_8 rfl (by decide) (fun c_8 => ?_) (fun c_8 => ?_)
    · exact absurd c_8 (by decide)
    · refine J_iconst (nx := 12) (i := 0) (v := 0) (by decide) dX12_tellsEnds_11 rfl ?_
      refine J_istore_n (nx := 13) dX12_tellsEnds_12 rfl rfl (Nat.le_of_ble_eq_true rfl) ?_
      refine lp_m_te2 _ g W T G hT hT60 hG hG10 ac hac2 what hW hac (0) q hnq hO n0 32 0 g rfl Fr.rf ⟨fun s h => absurd h (Nat.not_lt_zero _), fun _ s h => absurd h (Nat.not_lt_zero _)⟩ (fun g2 hf2 hI2 => ?_)
      refine J_iconst (nx := 150) (i := 0) (v := 0) (by decide) dX12_tellsEnds_149 rfl ?_
      refine J_istore_n (nx := 151) dX12_tellsEnds_150 rfl rfl (Nat.le_of_ble_eq_true rfl) ?_
      refine lp_m_te3 _ g2 what (0) n0 64 0 g2 rfl Fr.rf (fun s h => absurd h (Nat.not_lt_zero _)) (fun g3 hf3 hI3 => ?_)
      have hfr3 : Fr f0 a789 g0 g3 := (hfr.tr (hf2.mono (fun _ _ h => h) a789_78)).tr (hf3.mono (fun _ _ h => h) a789_79)
      have hO3 : ORow W ac what T G (q + 1) g3 := fun q1 hq1 => by
        obtain rfl : q = q1 := by omega
        exact ⟨fun s hs => (hI3 (32 + s) (by omega)).trans (hI2.1 s hs), fun hle s hs => (hI3 s (by omega)).trans (hI2.2 hle s hs)⟩
      refine J_iinc (nx := 178) dX12_tellsEnds_175 rfl rfl rfl (Nat.le_of_ble_eq_true rfl) ?_
      refine J_goto (nx := 7) dX12_tellsEnds_178 (by decide) ?_
      refine J_iload_n (nx := 8) dX12_tellsEnds_7 rfl rfl ?_
      refine J_if_lt (nx := 11) (tgt := 181) dX12_tellsEnds_8 rfl (by decide) (fun c_8 => ?_) (fun c_8 => ?_)
      · exact Jrv dX12_tellsEnds_181 rfl (Nat.zero_le _) (Nat.zero_le _) (RXv.of ⟨hfr3, by have := (hO3 q rfl).2 (by omega); rw [show q = T by omega] at this; exact this⟩)
      · exact absurd (by decide) c_8
  | succ n ih =>
    intro q g hnq hfr hO
    have hW : gA g 64 = W := (hfr.2.1 64 rfl).trans hW0
    have hac : ∀ j s, j ≤ G → s < 32 → gA g 74 (32 * j + s) = ac j s := fun j s a b => by rw [hfr.2.1 74 rfl]; exact hac0 j s a b
    refine J_iload_n (nx := 8) dX12_tellsEnds_7 rfl rfl ?_
    refine J_if_lt (nx := 11) (tgt := 181) dX12_tellsEnds_8 rfl (by decide) (fun c_8 => ?_) (fun c_8 => ?_)
    · exact absurd (nI_ltd (a := n + 1) (b := 0) (by omega) (by omega) c_8) (by omega)
    · refine J_iconst (nx := 12) (i := 0) (v := 0) (by decide) dX12_tellsEnds_11 rfl ?_
      refine J_istore_n (nx := 13) dX12_tellsEnds_12 rfl rfl (Nat.le_of_ble_eq_true rfl) ?_
      refine lp_m_te2 _ g W T G hT hT60 hG hG10 ac hac2 what hW hac (n + 1) q hnq hO n0 32 0 g rfl Fr.rf ⟨fun s h => absurd h (Nat.not_lt_zero _), fun _ s h => absurd h (Nat.not_lt_zero _)⟩ (fun g2 hf2 hI2 => ?_)
      refine J_iconst (nx := 150) (i := 0) (v := 0) (by decide) dX12_tellsEnds_149 rfl ?_
      refine J_istore_n (nx := 151) dX12_tellsEnds_150 rfl rfl (Nat.le_of_ble_eq_true rfl) ?_
      refine lp_m_te3 _ g2 what (n + 1) n0 64 0 g2 rfl Fr.rf (fun s h => absurd h (Nat.not_lt_zero _)) (fun g3 hf3 hI3 => ?_)
      refine J_iinc (nx := 178) dX12_tellsEnds_175 rfl rfl rfl (Nat.le_of_ble_eq_true rfl) ?_
      refine J_goto (nx := 7) dX12_tellsEnds_178 (by decide) ?_
      have hfr3 : Fr f0 a789 g0 g3 := (hfr.tr (hf2.mono (fun _ _ h => h) a789_78)).tr (hf3.mono (fun _ _ h => h) a789_79)
      have hO3 : ORow W ac what T G (q + 1) g3 := fun q1 hq1 => by
        obtain rfl : q = q1 := by omega
        exact ⟨fun s hs => (hI3 (32 + s) (by omega)).trans (hI2.1 s hs), fun hle s hs => (hI3 s (by omega)).trans (hI2.2 hle s hs)⟩
      refine J_kill (nx := 0) 3 ?_
      rw [show (nI ((n + 1)) + Int32.ofInt (-1)) = nI n from (nIdc (by omega) : nI ((n + 1)) + Int32.ofInt (-1) = nI ((n + 1) - 1))]
      exact ih (q + 1) g3 (by omega) hfr3 hO3

set_option maxRecDepth 100000 in
set_option maxHeartbeats 4000000 in
theorem ct_m_tellsEnds (g : GS) (W : Nat → Int32) (T G : Nat) (hT : W 5 = nI T) (hT60 : T ≤ 60) (hG : W 4 = nI G) (hG10 : G ≤ 10) (ac : Nat → Nat → Int32) (hac2 : ∀ s, s < 32 → ac G s = 0 ∨ ac G s = 1) (what : Int32) (hW0 : gA g 64 = W) (hac0 : ∀ j s, j ≤ G → s < 32 → gA g 74 (32 * j + s) = ac j s) : Ct mX12_tellsEnds (rm 4 0 0) [.ref 63, .int what] (Wd g) (RXv (fun g2 => Fr f0 a789 g g2 ∧ ∀ s, s < 32 → gB g2 79 s = eW W ac what T T s)) := by
  refine Ct.of (by decide +kernel) (Nat.le_of_ble_eq_true rfl) ?_
  show J _ _ _ _ 0 [some (.ref 63), some (.int what), none, none, none, none, none, none] [] _ 0 0
  refine J_aload_n (nx := 1) dX12_tellsEnds_0 rfl rfl ?_
  refine Jg_63_1 (nx := 4) dX12_tellsEnds_1 rfl fl_X12_13 ?_
  refine J_iconst (nx := 5) (i := 5) (v := 5) (by decide) dX12_tellsEnds_4 rfl ?_
  refine Ja_64 (nx := 6) dX12_tellsEnds_5 rfl (vpE (n := 5) (nIc 5) (by omega) (by decide)) ?_
  rw [clE (n := 5) (nIc 5) (by omega)]
  rw [show gA g 64 5 = nI T from (congrFun hW0 5).trans hT]
  refine J_istore_n (nx := 7) dX12_tellsEnds_6 rfl rfl (Nat.le_of_ble_eq_true rfl) ?_
  exact lp_m_te1 _ g W T G hT hT60 hG hG10 ac hac2 what hW0 hac0 T 0 g rfl Fr.rf (fun q h => absurd h (by omega))

