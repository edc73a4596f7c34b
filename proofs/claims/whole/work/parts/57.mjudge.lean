
/-! the Model: judges -/
def mWt (W : Nat → Int32) (gw af sw : Int32) (s : Nat) (row : Nat → Int64) : Int64 :=
  mMx W ((W (18 + 34 * s + 32)).toInt64 * (gw + af).toInt64 + (W (18 + 34 * s + 33)).toInt64 * sw.toInt64 + (wSt W s).toInt64 * row s) s row

set_option maxRecDepth 100000 in
set_option maxHeartbeats 4000000 in
theorem lp_m_waiting (g : GS) (a : Int64) (s j : Nat) (hs : s < 32) (hj : j < 10) (n0 : Nat) : ∀ (k : Nat) (i : Nat), i + k = 32 → J mX12_waiting (rm 3 0 0) (RR (.inl (some (.long (fdL (acL a (fun to => (gA g 64 (18 + 34 * s + to)).toInt64 * gB g 73 (32 * (j + 1) + to)) 32) 100)))) g) n0 67 [some (.ref 63), some (.int (nI (s))), some (.int (nI (j))), some (.long (acL a (fun to => (gA g 64 (18 + 34 * s + to)).toInt64 * gB g 73 (32 * (j + 1) + to)) i)), none, some (.int (nI (i)))] [] (Wd g) 0 0 := by
  intro k
  induction k with
  | zero =>
    intro i hk
    refine J_iload (nx := 69) dX12_waiting_67 rfl rfl ?_
    refine J_bipush (nx := 71) (i := 32) (v := 32) (by decide) dX12_waiting_69 rfl ?_
    refine J_icmp_ge (nx := 74) (tgt := 110) dX12_waiting_71 rfl (by decide) (fun c_71 => ?_) (fun c_71 => ?_)
    · obtain rfl : i = 32 := by omega
      refine J_lload_n (nx := 111) dX12_waiting_110 rfl rfl ?_
      refine J_ldc2 (nx := 114) cn_X12_291 dX12_waiting_111 rfl ?_
      refine JcS2 (R' := rm (0) 0 0) (nx := 117) dX12_waiting_114 rfl ml_J9_floorDiv_f86c9 lk_X12_293 st_J9_floorDiv_f86c9 ⟨(Nat.le_of_ble_eq_true rfl), (Nat.le_of_ble_eq_true rfl)⟩ (Nat.le_of_ble_eq_true rfl) ⟨rfl, rfl⟩ (ct_floorDivL _ _ _ (by decide)) ?_
      exact Jrl dX12_waiting_117 rfl (Nat.zero_le _) (Nat.zero_le _) ⟨rfl, rfl⟩
    · exact absurd (show nI 32 ≤ nI i from by rw [show i = 32 by omega]; exact le_self_nI) c_71
  | succ k ih =>
    intro i hk
    refine J_iload (nx := 69) dX12_waiting_67 rfl rfl ?_
    refine J_bipush (nx := 71) (i := 32) (v := 32) (by decide) dX12_waiting_69 rfl ?_
    refine J_icmp_ge (nx := 74) (tgt := 110) dX12_waiting_71 rfl (by decide) (fun c_71 => ?_) (fun c_71 => ?_)
    · exact absurd c_71 (nlt_nI (n := 32) (by omega) (by omega))
    · have hi : i < 32 := by omega
      refine J_lload_n (nx := 75) dX12_waiting_74 rfl rfl ?_
      refine J_aload_n (nx := 76) dX12_waiting_75 rfl rfl ?_
      refine Jg_63_1 (nx := 79) dX12_waiting_76 rfl fl_X12_13 ?_
      refine J_iload_n (nx := 80) dX12_waiting_79 rfl rfl ?_
      refine J_iload (nx := 82) dX12_waiting_80 rfl rfl ?_
      refine JcS2 (R' := rm (0) 0 0) (nx := 85) dX12_waiting_82 rfl ml_X12_chanceAt lk_X12_248 st_X12_chanceAt ⟨(Nat.le_of_ble_eq_true rfl), (Nat.le_of_ble_eq_true rfl)⟩ (Nat.le_of_ble_eq_true rfl) ⟨rfl, rfl⟩ (ct_m_chanceAt _ (s) (i)) ?_
      refine Ja_64 (nx := 86) dX12_waiting_85 rfl (vpE (n := 18 + 34 * s + i) (Eq.refl (nI (18 + 34 * s + i))) (by omega) (by decide)) ?_
      rw [clE (n := 18 + 34 * s + i) (Eq.refl (nI (18 + 34 * s + i))) (by omega)]
      refine J_i2l (nx := 87) dX12_waiting_86 rfl ?_
      refine J_aload_n (nx := 88) dX12_waiting_87 rfl rfl ?_
      refine Jg_63_26 (nx := 91) dX12_waiting_88 rfl fl_X12_46 ?_
      refine J_bipush (nx := 93) (i := 32) (v := 32) (by decide) dX12_waiting_91 rfl ?_
      refine J_iload_n (nx := 94) dX12_waiting_93 rfl rfl ?_
      refine J_iconst (nx := 95) (i := 1) (v := 1) (by decide) dX12_waiting_94 rfl ?_
      refine J_iadd (nx := 96) dX12_waiting_95 rfl ?_
      refine J_imul (nx := 97) dX12_waiting_96 rfl ?_
      refine J_iload (nx := 99) dX12_waiting_97 rfl rfl ?_
      refine J_iadd (nx := 100) dX12_waiting_99 rfl ?_
      refine Ja_73 (nx := 101) dX12_waiting_100 rfl (vpE (n := ((32 * (j + 1)) + i)) (nIa (nIm (nIc 32) (nIa (Eq.refl (nI (j))) (nIc 1))) (Eq.refl (nI (i)))) (by omega) (by decide)) ?_
      rw [clE (n := ((32 * (j + 1)) + i)) (nIa (nIm (nIc 32) (nIa (Eq.refl (nI (j))) (nIc 1))) (Eq.refl (nI (i)))) (by omega)]
      refine J_lmul (nx := 102) dX12_waiting_101 rfl ?_
      refine J_ladd (nx := 103) dX12_waiting_102 rfl ?_
      refine J_lstore_n (nx := 104) dX12_waiting_103 rfl rfl (Nat.le_of_ble_eq_true rfl) ?_
      refine J_iinc (nx := 107) dX12_waiting_104 rfl rfl rfl (Nat.le_of_ble_eq_true rfl) ?_
      refine J_goto (nx := 67) dX12_waiting_107 (by decide) ?_
      show J _ _ _ _ 67 [some (.ref 63), some (.int (nI (s))), some (.int (nI (j))), some (.long (acL a (fun to => (gA g 64 (18 + 34 * s + to)).toInt64 * gB g 73 (32 * (j + 1) + to)) (i + 1))), none, some (.int (nI (i) + Int32.ofInt 1))] [] _ _ _
      rw [nI_s]
      exact ih (i + 1) (by omega)

set_option maxRecDepth 100000 in
set_option maxHeartbeats 4000000 in
theorem ct_m_waiting (g : GS) (s j : Nat) (hs : s < 32) (hj : j < 10) : Ct mX12_waiting (rm 3 0 0) [.ref 63, .int (nI (s)), .int (nI (j))] (Wd g) (RR (.inl (some (.long (mWt (gA g 64) (gF g 63 20) (gF g 63 23) (gF g 63 22) s (fun q => gB g 73 (32 * (j + 1) + q)))))) g) := by
  refine Ct.of (by decide +kernel) (Nat.le_of_ble_eq_true rfl) ?_
  show J _ _ _ _ 0 [some (.ref 63), some (.int (nI (s))), some (.int (nI (j))), none, none, none] [] _ 0 0
  refine J_aload_n (nx := 1) dX12_waiting_0 rfl rfl ?_
  refine Jg_63_1 (nx := 4) dX12_waiting_1 rfl fl_X12_13 ?_
  refine J_iload_n (nx := 5) dX12_waiting_4 rfl rfl ?_
  refine J_bipush (nx := 7) (i := 32) (v := 32) (by decide) dX12_waiting_5 rfl ?_
  refine JcS2 (R' := rm (0) 0 0) (nx := 10) dX12_waiting_7 rfl ml_X12_chanceAt lk_X12_248 st_X12_chanceAt ⟨(Nat.le_of_ble_eq_true rfl), (Nat.le_of_ble_eq_true rfl)⟩ (Nat.le_of_ble_eq_true rfl) ⟨rfl, rfl⟩ (ct_m_chanceAt _ (s) (32)) ?_
  refine Ja_64 (nx := 11) dX12_waiting_10 rfl (vpE (n := 18 + 34 * s + 32) (Eq.refl (nI (18 + 34 * s + 32))) (by omega) (by decide)) ?_
  rw [clE (n := 18 + 34 * s + 32) (Eq.refl (nI (18 + 34 * s + 32))) (by omega)]
  refine J_i2l (nx := 12) dX12_waiting_11 rfl ?_
  refine J_aload_n (nx := 13) dX12_waiting_12 rfl rfl ?_
  refine Jg_63_20 (nx := 16) dX12_waiting_13 rfl fl_X12_288 ?_
  refine J_aload_n (nx := 17) dX12_waiting_16 rfl rfl ?_
  refine Jg_63_23 (nx := 20) dX12_waiting_17 rfl fl_X12_311 ?_
  refine J_iadd (nx := 21) dX12_waiting_20 rfl ?_
  refine J_i2l (nx := 22) dX12_waiting_21 rfl ?_
  refine J_lmul (nx := 23) dX12_waiting_22 rfl ?_
  refine J_aload_n (nx := 24) dX12_waiting_23 rfl rfl ?_
  refine Jg_63_1 (nx := 27) dX12_waiting_24 rfl fl_X12_13 ?_
  refine J_iload_n (nx := 28) dX12_waiting_27 rfl rfl ?_
  refine J_bipush (nx := 30) (i := 33) (v := 33) (by decide) dX12_waiting_28 rfl ?_
  refine JcS2 (R' := rm (0) 0 0) (nx := 33) dX12_waiting_30 rfl ml_X12_chanceAt lk_X12_248 st_X12_chanceAt ⟨(Nat.le_of_ble_eq_true rfl), (Nat.le_of_ble_eq_true rfl)⟩ (Nat.le_of_ble_eq_true rfl) ⟨rfl, rfl⟩ (ct_m_chanceAt _ (s) (33)) ?_
  refine Ja_64 (nx := 34) dX12_waiting_33 rfl (vpE (n := 18 + 34 * s + 33) (Eq.refl (nI (18 + 34 * s + 33))) (by omega) (by decide)) ?_
  rw [clE (n := 18 + 34 * s + 33) (Eq.refl (nI (18 + 34 * s + 33))) (by omega)]
  refine J_i2l (nx := 35) dX12_waiting_34 rfl ?_
  refine J_aload_n (nx := 36) dX12_waiting_35 rfl rfl ?_
  refine Jg_63_22 (nx := 39) dX12_waiting_36 rfl fl_X12_308 ?_
  refine J_i2l (nx := 40) dX12_waiting_39 rfl ?_
  refine J_lmul (nx := 41) dX12_waiting_40 rfl ?_
  refine J_ladd (nx := 42) dX12_waiting_41 rfl ?_
  refine J_aload_n (nx := 43) dX12_waiting_42 rfl rfl ?_
  refine J_iload_n (nx := 44) dX12_waiting_43 rfl rfl ?_
  refine JcV1 (R' := rm (1) 0 0) (nx := 47) dX12_waiting_44 rfl ml_X12_staying lk_X12_251 iv_X12_staying rfl rfl ⟨(Nat.le_of_ble_eq_true rfl), (Nat.le_of_ble_eq_true rfl)⟩ (Nat.le_of_ble_eq_true rfl) ⟨rfl, rfl⟩ (ct_m_staying g s hs) ?_
  refine J_i2l (nx := 48) dX12_waiting_47 rfl ?_
  refine J_aload_n (nx := 49) dX12_waiting_48 rfl rfl ?_
  refine Jg_63_26 (nx := 52) dX12_waiting_49 rfl fl_X12_46 ?_
  refine J_bipush (nx := 54) (i := 32) (v := 32) (by decide) dX12_waiting_52 rfl ?_
  refine J_iload_n (nx := 55) dX12_waiting_54 rfl rfl ?_
  refine J_iconst (nx := 56) (i := 1) (v := 1) (by decide) dX12_waiting_55 rfl ?_
  refine J_iadd (nx := 57) dX12_waiting_56 rfl ?_
  refine J_imul (nx := 58) dX12_waiting_57 rfl ?_
  refine J_iload_n (nx := 59) dX12_waiting_58 rfl rfl ?_
  refine J_iadd (nx := 60) dX12_waiting_59 rfl ?_
  refine Ja_73 (nx := 61) dX12_waiting_60 rfl (vpE (n := ((32 * (j + 1)) + s)) (nIa (nIm (nIc 32) (nIa (Eq.refl (nI (j))) (nIc 1))) (Eq.refl (nI (s)))) (by omega) (by decide)) ?_
  rw [clE (n := ((32 * (j + 1)) + s)) (nIa (nIm (nIc 32) (nIa (Eq.refl (nI (j))) (nIc 1))) (Eq.refl (nI (s)))) (by omega)]
  refine J_lmul (nx := 62) dX12_waiting_61 rfl ?_
  refine J_ladd (nx := 63) dX12_waiting_62 rfl ?_
  refine J_lstore_n (nx := 64) dX12_waiting_63 rfl rfl (Nat.le_of_ble_eq_true rfl) ?_
  refine J_iconst (nx := 65) (i := 0) (v := 0) (by decide) dX12_waiting_64 rfl ?_
  refine J_istore (nx := 67) dX12_waiting_65 rfl rfl (Nat.le_of_ble_eq_true rfl) ?_
  exact lp_m_waiting g _ s j hs hj _ 32 0 rfl


def mA0 (jd b : Int32) (s : Nat) (sy : Int32) : Int32 :=
  if ¬ jd = 0 then (if ¬ jd = 1 then (if ¬ jd = 2 then (if jd < 100 then (if jd < 5 then 2 else sy) else (if nI s / 4 < (jd - 100) / 10 then 0 else if jd - jd / 10 * 10 ≤ nI s - nI s / 4 * 4 then 2 else 0)) else (if nI s < b then 0 else 2)) else 1) else 0
def mA1 (jd sw : Int32) (on1 wt : Int64) (a : Int32) : Int32 :=
  if ¬ jd = 3 then a else if lg_cmp sw.toInt64 on1 < 0 then (if lg_cmp on1 wt < 0 then 2 else 1) else if lg_cmp sw.toInt64 wt < 0 then (if lg_cmp on1 wt < 0 then 2 else 1) else 0
def mA2 (jd sw : Int32) (e : Bool) (on1 : Int64) (a : Int32) : Int32 :=
  if ¬ jd = 4 then a else if bI e = 0 then a else if lg_cmp sw.toInt64 on1 < 0 then 1 else 0
def mA3 (e : Bool) (a : Int32) : Int32 := if bI e = 0 then a else if ¬ a = 2 then a else 1
def jV (sw : Int32) (on1 wt : Int64) (a : Int32) : Int64 := if ¬ a = 0 then (if ¬ a = 1 then wt else on1) else sw.toInt64
abbrev JP : Type := (Nat → Int32) × Int32 × Int32 × Int32 × (Nat → Nat → Int64) × Nat × Int32 × Int32 × Nat × (Nat → Nat → Int32)
def jW (P : JP) : Nat → Int32 := P.1
def jgw (P : JP) : Int32 := P.2.1
def jaf (P : JP) : Int32 := P.2.2.1
def jsw (P : JP) : Int32 := P.2.2.2.1
def jon (P : JP) : Nat → Nat → Int64 := P.2.2.2.2.1
def jT (P : JP) : Nat := P.2.2.2.2.2.1
def jjd (P : JP) : Int32 := P.2.2.2.2.2.2.1
def jb (P : JP) : Int32 := P.2.2.2.2.2.2.2.1
def jG (P : JP) : Nat := P.2.2.2.2.2.2.2.2.1
def jsy (P : JP) : Nat → Nat → Int32 := P.2.2.2.2.2.2.2.2.2
def jO1 (P : JP) (j s : Nat) : Int64 := jon P (jT P - j) s + (jaf P).toInt64
def jA (P : JP) (j s : Nat) (e : Bool) (wt : Int64) : Int32 :=
  mA3 e (mA2 (jjd P) (jsw P) e (jO1 P j s) (mA1 (jjd P) (jsw P) (jO1 P j s) wt (mA0 (jjd P) (jb P) s (jsy P j s))))
def jWo (P : JP) : Nat → Nat → Int64
  | 0, s => jV (jsw P) (jO1 P (jG P) s) (jO1 P (jG P) s) (jA P (jG P) s true (jO1 P (jG P) s))
  | k + 1, s => jV (jsw P) (jO1 P (jG P - (k + 1)) s) (mWt (jW P) (jgw P) (jaf P) (jsw P) s (jWo P k)) (jA P (jG P - (k + 1)) s false (mWt (jW P) (jgw P) (jaf P) (jsw P) s (jWo P k)))
def jWt (P : JP) : Nat → Nat → Int64
  | 0, s => jO1 P (jG P) s
  | k + 1, s => mWt (jW P) (jgw P) (jaf P) (jsw P) s (jWo P k)
def jAc (P : JP) : Nat → Nat → Int32
  | 0, s => jA P (jG P) s true (jWt P 0 s)
  | k + 1, s => jA P (jG P - (k + 1)) s false (jWt P (k + 1) s)
theorem jWo_eq (P : JP) (k s : Nat) : jWo P k s = jV (jsw P) (jO1 P (jG P - k) s) (jWt P k s) (jAc P k s) := by cases k <;> rfl
theorem jAc_eq (P : JP) (k s : Nat) : jAc P k s = jA P (jG P - k) s (decide (k = 0)) (jWt P k s) := by
  cases k with
  | zero => rfl
  | succ k => rw [decide_eq_false (by omega)]; rfl

set_option maxRecDepth 100000 in
set_option maxHeartbeats 4000000 in
theorem sg_m_j83 (n0 : Nat) (Q : Res → List ME → Prop) (g : GS) (jd b : Int32) (G j s z : Nat) (e : Int32) (o1 wt : Int64) (sy : Int32) (hs : s < 32) (hj : j ≤ 10) (hz : gF g 63 24 = nI z) (hz8 : z < 8) (hru : jd < 100 → ¬ jd < 5 → ∃ r rl, r < 4 ∧ jd - 5 = nI r ∧ MTx (gA g 64) r rl ∧ sy = txDo (gA (syG g s j) 70) rl) (hK : ∀ g1 a, Fr f0 a7 g g1 → a = mA0 jd b s sy → J mX12_judges (rm 4 0 0) Q n0 180 [some (.ref 63), some (.int jd), some (.int b), some (.int (nI (G))), some (.int (nI (j))), some (.int (nI (s))), some (.int (e)), some (.long (o1)), none, some (.long (wt)), none, some (.int (a))] [] (Wd g1) 0 0) : J mX12_judges (rm 4 0 0) (Q) n0 83 [some (.ref 63), some (.int jd), some (.int b), some (.int (nI (G))), some (.int (nI (j))), some (.int (nI (s))), some (.int (e)), some (.long (o1)), none, some (.long (wt)), none, none] [] (Wd g) 0 0 := by
  refine J_iload_n (nx := 84) dX12_judges_83 rfl rfl ?_
  refine J_if_ne (nx := 87) (tgt := 91) dX12_judges_84 rfl (by decide) (fun c_84 => ?_) (fun c_84 => ?_)
  · refine J_iload_n (nx := 92) dX12_judges_91 rfl rfl ?_
    refine J_iconst (nx := 93) (i := 1) (v := 1) (by decide) dX12_judges_92 rfl ?_
    refine J_icmp_ne (nx := 96) (tgt := 100) dX12_judges_93 rfl (by decide) (fun c_93 => ?_) (fun c_93 => ?_)
    · refine J_iload_n (nx := 101) dX12_judges_100 rfl rfl ?_
      refine J_iconst (nx := 102) (i := 2) (v := 2) (by decide) dX12_judges_101 rfl ?_
      refine J_icmp_ne (nx := 105) (tgt := 119) dX12_judges_102 rfl (by decide) (fun c_102 => ?_) (fun c_102 => ?_)
      · refine J_iload_n (nx := 120) dX12_judges_119 rfl rfl ?_
        refine J_bipush (nx := 122) (i := 100) (v := 100) (by decide) dX12_judges_120 rfl ?_
        refine J_icmp_lt (nx := 125) (tgt := 158) dX12_judges_122 rfl (by decide) (fun c_122 => ?_) (fun c_122 => ?_)
        · refine J_iload_n (nx := 159) dX12_judges_158 rfl rfl ?_
          refine J_iconst (nx := 160) (i := 5) (v := 5) (by decide) dX12_judges_159 rfl ?_
          refine J_icmp_lt (nx := 163) (tgt := 177) dX12_judges_160 rfl (by decide) (fun c_160 => ?_) (fun c_160 => ?_)
          · refine J_iconst (nx := 178) (i := 2) (v := 2) (by decide) dX12_judges_177 rfl ?_
            refine J_istore (nx := 180) dX12_judges_178 rfl rfl (Nat.le_of_ble_eq_true rfl) ?_
            first | exact hK g _ Fr.rf (by unfold mA0; (try (first | rw [if_pos (show ¬ jd = 0 from c_84)] | rw [if_neg (show ¬ ¬ jd = 0 from fun z => z c_84)])); (try (first | rw [if_pos (show ¬ jd = 1 from c_93)] | rw [if_neg (show ¬ ¬ jd = 1 from fun z => z c_93)])); (try (first | rw [if_pos (show ¬ jd = 2 from c_102)] | rw [if_neg (show ¬ ¬ jd = 2 from fun z => z c_102)])); (try (first | rw [if_pos (show nI s < b from c_108)] | rw [if_neg (show ¬ nI s < b from c_108)])); (try (first | rw [if_pos (show jd < 100 from c_122)] | rw [if_neg (show ¬ jd < 100 from c_122)])); (try (first | rw [if_pos (show nI s / 4 < (jd - 100) / 10 from c_136)] | rw [if_neg (show ¬ nI s / 4 < (jd - 100) / 10 from c_136)])); (try (first | rw [if_pos (show jd - jd / 10 * 10 ≤ nI s - nI s / 4 * 4 from c_147)] | rw [if_neg (show ¬ jd - jd / 10 * 10 ≤ nI s - nI s / 4 * 4 from c_147)])); (try (first | rw [if_pos (show jd < 5 from c_160)] | rw [if_neg (show ¬ jd < 5 from c_160)]))) | (obtain ⟨e171, f171⟩ := p_171; exact hK g_171 _ f171 (by unfold mA0; (try (first | rw [if_pos (show ¬ jd = 0 from c_84)] | rw [if_neg (show ¬ ¬ jd = 0 from fun z => z c_84)])); (try (first | rw [if_pos (show ¬ jd = 1 from c_93)] | rw [if_neg (show ¬ ¬ jd = 1 from fun z => z c_93)])); (try (first | rw [if_pos (show ¬ jd = 2 from c_102)] | rw [if_neg (show ¬ ¬ jd = 2 from fun z => z c_102)])); (try (first | rw [if_pos (show nI s < b from c_108)] | rw [if_neg (show ¬ nI s < b from c_108)])); (try (first | rw [if_pos (show jd < 100 from c_122)] | rw [if_neg (show ¬ jd < 100 from c_122)])); (try (first | rw [if_pos (show nI s / 4 < (jd - 100) / 10 from c_136)] | rw [if_neg (show ¬ nI s / 4 < (jd - 100) / 10 from c_136)])); (try (first | rw [if_pos (show jd - jd / 10 * 10 ≤ nI s - nI s / 4 * 4 from c_147)] | rw [if_neg (show ¬ jd - jd / 10 * 10 ≤ nI s - nI s / 4 * 4 from c_147)])); (try (first | rw [if_pos (show jd < 5 from c_160)] | rw [if_neg (show ¬ jd < 5 from c_160)])); exact e171.trans hry.symm))
          · obtain ⟨r, rl, hr4, hrj, hrt, hry⟩ := hru c_122 c_160
            refine J_aload_n (nx := 164) dX12_judges_163 rfl rfl ?_
            refine J_iload_n (nx := 165) dX12_judges_164 rfl rfl ?_
            refine J_iconst (nx := 166) (i := 5) (v := 5) (by decide) dX12_judges_165 rfl ?_
            refine J_isub (nx := 167) dX12_judges_166 rfl ?_
            rw [show jd - 5 = nI r from hrj]
            refine J_iload (nx := 169) dX12_judges_167 rfl rfl ?_
            refine J_iload (nx := 171) dX12_judges_169 rfl rfl ?_
            refine JiV3 (R' := rm (3) 0 0) (nx := 174) dX12_judges_171 rfl ml_X12_says lk_X12_331 iv_X12_says rfl rfl ⟨(Nat.le_of_ble_eq_true rfl), (Nat.le_of_ble_eq_true rfl)⟩ (Nat.le_of_ble_eq_true rfl) ⟨rfl, rfl⟩ (ct_m_says _ r s j z hr4 hs hz hz8 rl hrt) (fun x_171 g_171 p_171 => ?_)
            refine J_goto (nx := 178) dX12_judges_174 (by decide) ?_
            refine J_istore (nx := 180) dX12_judges_178 rfl rfl (Nat.le_of_ble_eq_true rfl) ?_
            first | exact hK g _ Fr.rf (by unfold mA0; (try (first | rw [if_pos (show ¬ jd = 0 from c_84)] | rw [if_neg (show ¬ ¬ jd = 0 from fun z => z c_84)])); (try (first | rw [if_pos (show ¬ jd = 1 from c_93)] | rw [if_neg (show ¬ ¬ jd = 1 from fun z => z c_93)])); (try (first | rw [if_pos (show ¬ jd = 2 from c_102)] | rw [if_neg (show ¬ ¬ jd = 2 from fun z => z c_102)])); (try (first | rw [if_pos (show nI s < b from c_108)] | rw [if_neg (show ¬ nI s < b from c_108)])); (try (first | rw [if_pos (show jd < 100 from c_122)] | rw [if_neg (show ¬ jd < 100 from c_122)])); (try (first | rw [if_pos (show nI s / 4 < (jd - 100) / 10 from c_136)] | rw [if_neg (show ¬ nI s / 4 < (jd - 100) / 10 from c_136)])); (try (first | rw [if_pos (show jd - jd / 10 * 10 ≤ nI s - nI s / 4 * 4 from c_147)] | rw [if_neg (show ¬ jd - jd / 10 * 10 ≤ nI s - nI s / 4 * 4 from c_147)])); (try (first | rw [if_pos (show jd < 5 from c_160)] | rw [if_neg (show ¬ jd < 5 from c_160)]))) | (obtain ⟨e171, f171⟩ := p_171; exact hK g_171 _ f171 (by unfold mA0; (try (first | rw [if_pos (show ¬ jd = 0 from c_84)] | rw [if_neg (show ¬ ¬ jd = 0 from fun z => z c_84)])); (try (first | rw [if_pos (show ¬ jd = 1 from c_93)] | rw [if_neg (show ¬ ¬ jd = 1 from fun z => z c_93)])); (try (first | rw [if_pos (show ¬ jd = 2 from c_102)] | rw [if_neg (show ¬ ¬ jd = 2 from fun z => z c_102)])); (try (first | rw [if_pos (show nI s < b from c_108)] | rw [if_neg (show ¬ nI s < b from c_108)])); (try (first | rw [if_pos (show jd < 100 from c_122)] | rw [if_neg (show ¬ jd < 100 from c_122)])); (try (first | rw [if_pos (show nI s / 4 < (jd - 100) / 10 from c_136)] | rw [if_neg (show ¬ nI s / 4 < (jd - 100) / 10 from c_136)])); (try (first | rw [if_pos (show jd - jd / 10 * 10 ≤ nI s - nI s / 4 * 4 from c_147)] | rw [if_neg (show ¬ jd - jd / 10 * 10 ≤ nI s - nI s / 4 * 4 from c_147)])); (try (first | rw [if_pos (show jd < 5 from c_160)] | rw [if_neg (show ¬ jd < 5 from c_160)])); exact e171.trans hry.symm))
        · refine J_iload (nx := 127) dX12_judges_125 rfl rfl ?_
          refine J_iconst (nx := 128) (i := 4) (v := 4) (by decide) dX12_judges_127 rfl ?_
          refine J_idiv (nx := 129) (by decide) dX12_judges_128 rfl ?_
          refine J_iload_n (nx := 130) dX12_judges_129 rfl rfl ?_
          refine J_bipush (nx := 132) (i := 100) (v := 100) (by decide) dX12_judges_130 rfl ?_
          refine J_isub (nx := 133) dX12_judges_132 rfl ?_
          refine J_bipush (nx := 135) (i := 10) (v := 10) (by decide) dX12_judges_133 rfl ?_
          refine J_idiv (nx := 136) (by decide) dX12_judges_135 rfl ?_
          refine J_icmp_lt (nx := 139) (tgt := 150) dX12_judges_136 rfl (by decide) (fun c_136 => ?_) (fun c_136 => ?_)
          · refine J_iconst (nx := 151) (i := 0) (v := 0) (by decide) dX12_judges_150 rfl ?_
            refine J_goto (nx := 178) dX12_judges_151 (by decide) ?_
            refine J_istore (nx := 180) dX12_judges_178 rfl rfl (Nat.le_of_ble_eq_true rfl) ?_
            first | exact hK g _ Fr.rf (by unfold mA0; (try (first | rw [if_pos (show ¬ jd = 0 from c_84)] | rw [if_neg (show ¬ ¬ jd = 0 from fun z => z c_84)])); (try (first | rw [if_pos (show ¬ jd = 1 from c_93)] | rw [if_neg (show ¬ ¬ jd = 1 from fun z => z c_93)])); (try (first | rw [if_pos (show ¬ jd = 2 from c_102)] | rw [if_neg (show ¬ ¬ jd = 2 from fun z => z c_102)])); (try (first | rw [if_pos (show nI s < b from c_108)] | rw [if_neg (show ¬ nI s < b from c_108)])); (try (first | rw [if_pos (show jd < 100 from c_122)] | rw [if_neg (show ¬ jd < 100 from c_122)])); (try (first | rw [if_pos (show nI s / 4 < (jd - 100) / 10 from c_136)] | rw [if_neg (show ¬ nI s / 4 < (jd - 100) / 10 from c_136)])); (try (first | rw [if_pos (show jd - jd / 10 * 10 ≤ nI s - nI s / 4 * 4 from c_147)] | rw [if_neg (show ¬ jd - jd / 10 * 10 ≤ nI s - nI s / 4 * 4 from c_147)])); (try (first | rw [if_pos (show jd < 5 from c_160)] | rw [if_neg (show ¬ jd < 5 from c_160)]))) | (obtain ⟨e171, f171⟩ := p_171; exact hK g_171 _ f171 (by unfold mA0; (try (first | rw [if_pos (show ¬ jd = 0 from c_84)] | rw [if_neg (show ¬ ¬ jd = 0 from fun z => z c_84)])); (try (first | rw [if_pos (show ¬ jd = 1 from c_93)] | rw [if_neg (show ¬ ¬ jd = 1 from fun z => z c_93)])); (try (first | rw [if_pos (show ¬ jd = 2 from c_102)] | rw [if_neg (show ¬ ¬ jd = 2 from fun z => z c_102)])); (try (first | rw [if_pos (show nI s < b from c_108)] | rw [if_neg (show ¬ nI s < b from c_108)])); (try (first | rw [if_pos (show jd < 100 from c_122)] | rw [if_neg (show ¬ jd < 100 from c_122)])); (try (first | rw [if_pos (show nI s / 4 < (jd - 100) / 10 from c_136)] | rw [if_neg (show ¬ nI s / 4 < (jd - 100) / 10 from c_136)])); (try (first | rw [if_pos (show jd - jd / 10 * 10 ≤ nI s - nI s / 4 * 4 from c_147)] | rw [if_neg (show ¬ jd - jd / 10 * 10 ≤ nI s - nI s / 4 * 4 from c_147)])); (try (first | rw [if_pos (show jd < 5 from c_160)] | rw [if_neg (show ¬ jd < 5 from c_160)])); exact e171.trans hry.symm))
          · refine J_iload (nx := 141) dX12_judges_139 rfl rfl ?_
            refine J_iconst (nx := 142) (i := 4) (v := 4) (by decide) dX12_judges_141 rfl ?_
            refine J_irem (nx := 143) (by decide) dX12_judges_142 rfl ?_
            refine J_iload_n (nx := 144) dX12_judges_143 rfl rfl ?_
            refine J_bipush (nx := 146) (i := 10) (v := 10) (by decide) dX12_judges_144 rfl ?_
            refine J_irem (nx := 147) (by decide) dX12_judges_146 rfl ?_
            refine J_icmp_ge (nx := 150) (tgt := 154) dX12_judges_147 rfl (by decide) (fun c_147 => ?_) (fun c_147 => ?_)
            · refine J_iconst (nx := 155) (i := 2) (v := 2) (by decide) dX12_judges_154 rfl ?_
              refine J_goto (nx := 178) dX12_judges_155 (by decide) ?_
              refine J_istore (nx := 180) dX12_judges_178 rfl rfl (Nat.le_of_ble_eq_true rfl) ?_
              first | exact hK g _ Fr.rf (by unfold mA0; (try (first | rw [if_pos (show ¬ jd = 0 from c_84)] | rw [if_neg (show ¬ ¬ jd = 0 from fun z => z c_84)])); (try (first | rw [if_pos (show ¬ jd = 1 from c_93)] | rw [if_neg (show ¬ ¬ jd = 1 from fun z => z c_93)])); (try (first | rw [if_pos (show ¬ jd = 2 from c_102)] | rw [if_neg (show ¬ ¬ jd = 2 from fun z => z c_102)])); (try (first | rw [if_pos (show nI s < b from c_108)] | rw [if_neg (show ¬ nI s < b from c_108)])); (try (first | rw [if_pos (show jd < 100 from c_122)] | rw [if_neg (show ¬ jd < 100 from c_122)])); (try (first | rw [if_pos (show nI s / 4 < (jd - 100) / 10 from c_136)] | rw [if_neg (show ¬ nI s / 4 < (jd - 100) / 10 from c_136)])); (try (first | rw [if_pos (show jd - jd / 10 * 10 ≤ nI s - nI s / 4 * 4 from c_147)] | rw [if_neg (show ¬ jd - jd / 10 * 10 ≤ nI s - nI s / 4 * 4 from c_147)])); (try (first | rw [if_pos (show jd < 5 from c_160)] | rw [if_neg (show ¬ jd < 5 from c_160)]))) | (obtain ⟨e171, f171⟩ := p_171; exact hK g_171 _ f171 (by unfold mA0; (try (first | rw [if_pos (show ¬ jd = 0 from c_84)] | rw [if_neg (show ¬ ¬ jd = 0 from fun z => z c_84)])); (try (first | rw [if_pos (show ¬ jd = 1 from c_93)] | rw [if_neg (show ¬ ¬ jd = 1 from fun z => z c_93)])); (try (first | rw [if_pos (show ¬ jd = 2 from c_102)] | rw [if_neg (show ¬ ¬ jd = 2 from fun z => z c_102)])); (try (first | rw [if_pos (show nI s < b from c_108)] | rw [if_neg (show ¬ nI s < b from c_108)])); (try (first | rw [if_pos (show jd < 100 from c_122)] | rw [if_neg (show ¬ jd < 100 from c_122)])); (try (first | rw [if_pos (show nI s / 4 < (jd - 100) / 10 from c_136)] | rw [if_neg (show ¬ nI s / 4 < (jd - 100) / 10 from c_136)])); (try (first | rw [if_pos (show jd - jd / 10 * 10 ≤ nI s - nI s / 4 * 4 from c_147)] | rw [if_neg (show ¬ jd - jd / 10 * 10 ≤ nI s - nI s / 4 * 4 from c_147)])); (try (first | rw [if_pos (show jd < 5 from c_160)] | rw [if_neg (show ¬ jd < 5 from c_160)])); exact e171.trans hry.symm))
            · refine J_iconst (nx := 151) (i := 0) (v := 0) (by decide) dX12_judges_150 rfl ?_
              refine J_goto (nx := 178) dX12_judges_151 (by decide) ?_
              refine J_istore (nx := 180) dX12_judges_178 rfl rfl (Nat.le_of_ble_eq_true rfl) ?_
              first | exact hK g _ Fr.rf (by unfold mA0; (try (first | rw [if_pos (show ¬ jd = 0 from c_84)] | rw [if_neg (show ¬ ¬ jd = 0 from fun z => z c_84)])); (try (first | rw [if_pos (show ¬ jd = 1 from c_93)] | rw [if_neg (show ¬ ¬ jd = 1 from fun z => z c_93)])); (try (first | rw [if_pos (show ¬ jd = 2 from c_102)] | rw [if_neg (show ¬ ¬ jd = 2 from fun z => z c_102)])); (try (first | rw [if_pos (show nI s < b from c_108)] | rw [if_neg (show ¬ nI s < b from c_108)])); (try (first | rw [if_pos (show jd < 100 from c_122)] | rw [if_neg (show ¬ jd < 100 from c_122)])); (try (first | rw [if_pos (show nI s / 4 < (jd - 100) / 10 from c_136)] | rw [if_neg (show ¬ nI s / 4 < (jd - 100) / 10 from c_136)])); (try (first | rw [if_pos (show jd - jd / 10 * 10 ≤ nI s - nI s / 4 * 4 from c_147)] | rw [if_neg (show ¬ jd - jd / 10 * 10 ≤ nI s - nI s / 4 * 4 from c_147)])); (try (first | rw [if_pos (show jd < 5 from c_160)] | rw [if_neg (show ¬ jd < 5 from c_160)]))) | (obtain ⟨e171, f171⟩ := p_171; exact hK g_171 _ f171 (by unfold mA0; (try (first | rw [if_pos (show ¬ jd = 0 from c_84)] | rw [if_neg (show ¬ ¬ jd = 0 from fun z => z c_84)])); (try (first | rw [if_pos (show ¬ jd = 1 from c_93)] | rw [if_neg (show ¬ ¬ jd = 1 from fun z => z c_93)])); (try (first | rw [if_pos (show ¬ jd = 2 from c_102)] | rw [if_neg (show ¬ ¬ jd = 2 from fun z => z c_102)])); (try (first | rw [if_pos (show nI s < b from c_108)] | rw [if_neg (show ¬ nI s < b from c_108)])); (try (first | rw [if_pos (show jd < 100 from c_122)] | rw [if_neg (show ¬ jd < 100 from c_122)])); (try (first | rw [if_pos (show nI s / 4 < (jd - 100) / 10 from c_136)] | rw [if_neg (show ¬ nI s / 4 < (jd - 100) / 10 from c_136)])); (try (first | rw [if_pos (show jd - jd / 10 * 10 ≤ nI s - nI s / 4 * 4 from c_147)] | rw [if_neg (show ¬ jd - jd / 10 * 10 ≤ nI s - nI s / 4 * 4 from c_147)])); (try (first | rw [if_pos (show jd < 5 from c_160)] | rw [if_neg (show ¬ jd < 5 from c_160)])); exact e171.trans hry.symm))
      · refine J_iload (nx := 107) dX12_judges_105 rfl rfl ?_
        refine J_iload_n (nx := 108) dX12_judges_107 rfl rfl ?_
        refine J_icmp_lt (nx := 111) (tgt := 115) dX12_judges_108 rfl (by decide) (fun c_108 => ?_) (fun c_108 => ?_)
        · refine J_iconst (nx := 116) (i := 0) (v := 0) (by decide) dX12_judges_115 rfl ?_
          refine J_goto (nx := 178) dX12_judges_116 (by decide) ?_
          refine J_istore (nx := 180) dX12_judges_178 rfl rfl (Nat.le_of_ble_eq_true rfl) ?_
          first | exact hK g _ Fr.rf (by unfold mA0; (try (first | rw [if_pos (show ¬ jd = 0 from c_84)] | rw [if_neg (show ¬ ¬ jd = 0 from fun z => z c_84)])); (try (first | rw [if_pos (show ¬ jd = 1 from c_93)] | rw [if_neg (show ¬ ¬ jd = 1 from fun z => z c_93)])); (try (first | rw [if_pos (show ¬ jd = 2 from c_102)] | rw [if_neg (show ¬ ¬ jd = 2 from fun z => z c_102)])); (try (first | rw [if_pos (show nI s < b from c_108)] | rw [if_neg (show ¬ nI s < b from c_108)])); (try (first | rw [if_pos (show jd < 100 from c_122)] | rw [if_neg (show ¬ jd < 100 from c_122)])); (try (first | rw [if_pos (show nI s / 4 < (jd - 100) / 10 from c_136)] | rw [if_neg (show ¬ nI s / 4 < (jd - 100) / 10 from c_136)])); (try (first | rw [if_pos (show jd - jd / 10 * 10 ≤ nI s - nI s / 4 * 4 from c_147)] | rw [if_neg (show ¬ jd - jd / 10 * 10 ≤ nI s - nI s / 4 * 4 from c_147)])); (try (first | rw [if_pos (show jd < 5 from c_160)] | rw [if_neg (show ¬ jd < 5 from c_160)]))) | (obtain ⟨e171, f171⟩ := p_171; exact hK g_171 _ f171 (by unfold mA0; (try (first | rw [if_pos (show ¬ jd = 0 from c_84)] | rw [if_neg (show ¬ ¬ jd = 0 from fun z => z c_84)])); (try (first | rw [if_pos (show ¬ jd = 1 from c_93)] | rw [if_neg (show ¬ ¬ jd = 1 from fun z => z c_93)])); (try (first | rw [if_pos (show ¬ jd = 2 from c_102)] | rw [if_neg (show ¬ ¬ jd = 2 from fun z => z c_102)])); (try (first | rw [if_pos (show nI s < b from c_108)] | rw [if_neg (show ¬ nI s < b from c_108)])); (try (first | rw [if_pos (show jd < 100 from c_122)] | rw [if_neg (show ¬ jd < 100 from c_122)])); (try (first | rw [if_pos (show nI s / 4 < (jd - 100) / 10 from c_136)] | rw [if_neg (show ¬ nI s / 4 < (jd - 100) / 10 from c_136)])); (try (first | rw [if_pos (show jd - jd / 10 * 10 ≤ nI s - nI s / 4 * 4 from c_147)] | rw [if_neg (show ¬ jd - jd / 10 * 10 ≤ nI s - nI s / 4 * 4 from c_147)])); (try (first | rw [if_pos (show jd < 5 from c_160)] | rw [if_neg (show ¬ jd < 5 from c_160)])); exact e171.trans hry.symm))
        · refine J_iconst (nx := 112) (i := 2) (v := 2) (by decide) dX12_judges_111 rfl ?_
          refine J_goto (nx := 178) dX12_judges_112 (by decide) ?_
          refine J_istore (nx := 180) dX12_judges_178 rfl rfl (Nat.le_of_ble_eq_true rfl) ?_
          first | exact hK g _ Fr.rf (by unfold mA0; (try (first | rw [if_pos (show ¬ jd = 0 from c_84)] | rw [if_neg (show ¬ ¬ jd = 0 from fun z => z c_84)])); (try (first | rw [if_pos (show ¬ jd = 1 from c_93)] | rw [if_neg (show ¬ ¬ jd = 1 from fun z => z c_93)])); (try (first | rw [if_pos (show ¬ jd = 2 from c_102)] | rw [if_neg (show ¬ ¬ jd = 2 from fun z => z c_102)])); (try (first | rw [if_pos (show nI s < b from c_108)] | rw [if_neg (show ¬ nI s < b from c_108)])); (try (first | rw [if_pos (show jd < 100 from c_122)] | rw [if_neg (show ¬ jd < 100 from c_122)])); (try (first | rw [if_pos (show nI s / 4 < (jd - 100) / 10 from c_136)] | rw [if_neg (show ¬ nI s / 4 < (jd - 100) / 10 from c_136)])); (try (first | rw [if_pos (show jd - jd / 10 * 10 ≤ nI s - nI s / 4 * 4 from c_147)] | rw [if_neg (show ¬ jd - jd / 10 * 10 ≤ nI s - nI s / 4 * 4 from c_147)])); (try (first | rw [if_pos (show jd < 5 from c_160)] | rw [if_neg (show ¬ jd < 5 from c_160)]))) | (obtain ⟨e171, f171⟩ := p_171; exact hK g_171 _ f171 (by unfold mA0; (try (first | rw [if_pos (show ¬ jd = 0 from c_84)] | rw [if_neg (show ¬ ¬ jd = 0 from fun z => z c_84)])); (try (first | rw [if_pos (show ¬ jd = 1 from c_93)] | rw [if_neg (show ¬ ¬ jd = 1 from fun z => z c_93)])); (try (first | rw [if_pos (show ¬ jd = 2 from c_102)] | rw [if_neg (show ¬ ¬ jd = 2 from fun z => z c_102)])); (try (first | rw [if_pos (show nI s < b from c_108)] | rw [if_neg (show ¬ nI s < b from c_108)])); (try (first | rw [if_pos (show jd < 100 from c_122)] | rw [if_neg (show ¬ jd < 100 from c_122)])); (try (first | rw [if_pos (show nI s / 4 < (jd - 100) / 10 from c_136)] | rw [if_neg (show ¬ nI s / 4 < (jd - 100) / 10 from c_136)])); (try (first | rw [if_pos (show jd - jd / 10 * 10 ≤ nI s - nI s / 4 * 4 from c_147)] | rw [if_neg (show ¬ jd - jd / 10 * 10 ≤ nI s - nI s / 4 * 4 from c_147)])); (try (first | rw [if_pos (show jd < 5 from c_160)] | rw [if_neg (show ¬ jd < 5 from c_160)])); exact e171.trans hry.symm))
    · refine J_iconst (nx := 97) (i := 1) (v := 1) (by decide) dX12_judges_96 rfl ?_
      refine J_goto (nx := 178) dX12_judges_97 (by decide) ?_
      refine J_istore (nx := 180) dX12_judges_178 rfl rfl (Nat.le_of_ble_eq_true rfl) ?_
      first | exact hK g _ Fr.rf (by unfold mA0; (try (first | rw [if_pos (show ¬ jd = 0 from c_84)] | rw [if_neg (show ¬ ¬ jd = 0 from fun z => z c_84)])); (try (first | rw [if_pos (show ¬ jd = 1 from c_93)] | rw [if_neg (show ¬ ¬ jd = 1 from fun z => z c_93)])); (try (first | rw [if_pos (show ¬ jd = 2 from c_102)] | rw [if_neg (show ¬ ¬ jd = 2 from fun z => z c_102)])); (try (first | rw [if_pos (show nI s < b from c_108)] | rw [if_neg (show ¬ nI s < b from c_108)])); (try (first | rw [if_pos (show jd < 100 from c_122)] | rw [if_neg (show ¬ jd < 100 from c_122)])); (try (first | rw [if_pos (show nI s / 4 < (jd - 100) / 10 from c_136)] | rw [if_neg (show ¬ nI s / 4 < (jd - 100) / 10 from c_136)])); (try (first | rw [if_pos (show jd - jd / 10 * 10 ≤ nI s - nI s / 4 * 4 from c_147)] | rw [if_neg (show ¬ jd - jd / 10 * 10 ≤ nI s - nI s / 4 * 4 from c_147)])); (try (first | rw [if_pos (show jd < 5 from c_160)] | rw [if_neg (show ¬ jd < 5 from c_160)]))) | (obtain ⟨e171, f171⟩ := p_171; exact hK g_171 _ f171 (by unfold mA0; (try (first | rw [if_pos (show ¬ jd = 0 from c_84)] | rw [if_neg (show ¬ ¬ jd = 0 from fun z => z c_84)])); (try (first | rw [if_pos (show ¬ jd = 1 from c_93)] | rw [if_neg (show ¬ ¬ jd = 1 from fun z => z c_93)])); (try (first | rw [if_pos (show ¬ jd = 2 from c_102)] | rw [if_neg (show ¬ ¬ jd = 2 from fun z => z c_102)])); (try (first | rw [if_pos (show nI s < b from c_108)] | rw [if_neg (show ¬ nI s < b from c_108)])); (try (first | rw [if_pos (show jd < 100 from c_122)] | rw [if_neg (show ¬ jd < 100 from c_122)])); (try (first | rw [if_pos (show nI s / 4 < (jd - 100) / 10 from c_136)] | rw [if_neg (show ¬ nI s / 4 < (jd - 100) / 10 from c_136)])); (try (first | rw [if_pos (show jd - jd / 10 * 10 ≤ nI s - nI s / 4 * 4 from c_147)] | rw [if_neg (show ¬ jd - jd / 10 * 10 ≤ nI s - nI s / 4 * 4 from c_147)])); (try (first | rw [if_pos (show jd < 5 from c_160)] | rw [if_neg (show ¬ jd < 5 from c_160)])); exact e171.trans hry.symm))
  · refine J_iconst (nx := 88) (i := 0) (v := 0) (by decide) dX12_judges_87 rfl ?_
    refine J_goto (nx := 178) dX12_judges_88 (by decide) ?_
    refine J_istore (nx := 180) dX12_judges_178 rfl rfl (Nat.le_of_ble_eq_true rfl) ?_
    first | exact hK g _ Fr.rf (by unfold mA0; (try (first | rw [if_pos (show ¬ jd = 0 from c_84)] | rw [if_neg (show ¬ ¬ jd = 0 from fun z => z c_84)])); (try (first | rw [if_pos (show ¬ jd = 1 from c_93)] | rw [if_neg (show ¬ ¬ jd = 1 from fun z => z c_93)])); (try (first | rw [if_pos (show ¬ jd = 2 from c_102)] | rw [if_neg (show ¬ ¬ jd = 2 from fun z => z c_102)])); (try (first | rw [if_pos (show nI s < b from c_108)] | rw [if_neg (show ¬ nI s < b from c_108)])); (try (first | rw [if_pos (show jd < 100 from c_122)] | rw [if_neg (show ¬ jd < 100 from c_122)])); (try (first | rw [if_pos (show nI s / 4 < (jd - 100) / 10 from c_136)] | rw [if_neg (show ¬ nI s / 4 < (jd - 100) / 10 from c_136)])); (try (first | rw [if_pos (show jd - jd / 10 * 10 ≤ nI s - nI s / 4 * 4 from c_147)] | rw [if_neg (show ¬ jd - jd / 10 * 10 ≤ nI s - nI s / 4 * 4 from c_147)])); (try (first | rw [if_pos (show jd < 5 from c_160)] | rw [if_neg (show ¬ jd < 5 from c_160)]))) | (obtain ⟨e171, f171⟩ := p_171; exact hK g_171 _ f171 (by unfold mA0; (try (first | rw [if_pos (show ¬ jd = 0 from c_84)] | rw [if_neg (show ¬ ¬ jd = 0 from fun z => z c_84)])); (try (first | rw [if_pos (show ¬ jd = 1 from c_93)] | rw [if_neg (show ¬ ¬ jd = 1 from fun z => z c_93)])); (try (first | rw [if_pos (show ¬ jd = 2 from c_102)] | rw [if_neg (show ¬ ¬ jd = 2 from fun z => z c_102)])); (try (first | rw [if_pos (show nI s < b from c_108)] | rw [if_neg (show ¬ nI s < b from c_108)])); (try (first | rw [if_pos (show jd < 100 from c_122)] | rw [if_neg (show ¬ jd < 100 from c_122)])); (try (first | rw [if_pos (show nI s / 4 < (jd - 100) / 10 from c_136)] | rw [if_neg (show ¬ nI s / 4 < (jd - 100) / 10 from c_136)])); (try (first | rw [if_pos (show jd - jd / 10 * 10 ≤ nI s - nI s / 4 * 4 from c_147)] | rw [if_neg (show ¬ jd - jd / 10 * 10 ≤ nI s - nI s / 4 * 4 from c_147)])); (try (first | rw [if_pos (show jd < 5 from c_160)] | rw [if_neg (show ¬ jd < 5 from c_160)])); exact e171.trans hry.symm))

set_option maxRecDepth 100000 in
set_option maxHeartbeats 4000000 in
theorem sg_m_j180 (n0 : Nat) (Q : Res → List ME → Prop) (g : GS) (jd b : Int32) (G j s : Nat) (e : Int32) (o1 wt : Int64) (a : Int32) (hK : ∀ a1, a1 = mA1 jd (gF g 63 22) o1 wt a → J mX12_judges (rm 4 0 0) Q n0 226 [some (.ref 63), some (.int jd), some (.int b), some (.int (nI (G))), some (.int (nI (j))), some (.int (nI (s))), some (.int (e)), some (.long (o1)), none, some (.long (wt)), none, some (.int (a1))] [] (Wd g) 0 0) : J mX12_judges (rm 4 0 0) (Q) n0 180 [some (.ref 63), some (.int jd), some (.int b), some (.int (nI (G))), some (.int (nI (j))), some (.int (nI (s))), some (.int (e)), some (.long (o1)), none, some (.long (wt)), none, some (.int (a))] [] (Wd g) 0 0 := by
  refine J_iload_n (nx := 181) dX12_judges_180 rfl rfl ?_
  refine J_iconst (nx := 182) (i := 3) (v := 3) (by decide) dX12_judges_181 rfl ?_
  refine J_icmp_ne (nx := 185) (tgt := 226) dX12_judges_182 rfl (by decide) (fun c_182 => ?_) (fun c_182 => ?_)
  · exact hK _ (by unfold mA1; (try (first | rw [if_pos (show ¬ jd = 3 from c_182)] | rw [if_neg (show ¬ ¬ jd = 3 from fun z => z c_182)])); (try (first | rw [if_pos (show lg_cmp (gF g 63 22).toInt64 o1 < 0 from c_193)] | rw [if_neg (show ¬ lg_cmp (gF g 63 22).toInt64 o1 < 0 from c_193)])); (try (first | rw [if_pos (show lg_cmp (gF g 63 22).toInt64 wt < 0 from c_204)] | rw [if_neg (show ¬ lg_cmp (gF g 63 22).toInt64 wt < 0 from c_204)])); (try (first | rw [if_pos (show lg_cmp o1 wt < 0 from c_216)] | rw [if_neg (show ¬ lg_cmp o1 wt < 0 from c_216)])))
  · refine J_aload_n (nx := 186) dX12_judges_185 rfl rfl ?_
    refine Jg_63_22 (nx := 189) dX12_judges_186 rfl fl_X12_308 ?_
    refine J_i2l (nx := 190) dX12_judges_189 rfl ?_
    refine J_lload (nx := 192) dX12_judges_190 rfl rfl ?_
    refine J_lcmp (nx := 193) dX12_judges_192 rfl ?_
    refine J_if_lt (nx := 196) (tgt := 211) dX12_judges_193 rfl (by decide) (fun c_193 => ?_) (fun c_193 => ?_)
    · refine J_lload (nx := 213) dX12_judges_211 rfl rfl ?_
      refine J_lload (nx := 215) dX12_judges_213 rfl rfl ?_
      refine J_lcmp (nx := 216) dX12_judges_215 rfl ?_
      refine J_if_lt (nx := 219) (tgt := 223) dX12_judges_216 rfl (by decide) (fun c_216 => ?_) (fun c_216 => ?_)
      · refine J_iconst (nx := 224) (i := 2) (v := 2) (by decide) dX12_judges_223 rfl ?_
        refine J_istore (nx := 226) dX12_judges_224 rfl rfl (Nat.le_of_ble_eq_true rfl) ?_
        exact hK _ (by unfold mA1; (try (first | rw [if_pos (show ¬ jd = 3 from c_182)] | rw [if_neg (show ¬ ¬ jd = 3 from fun z => z c_182)])); (try (first | rw [if_pos (show lg_cmp (gF g 63 22).toInt64 o1 < 0 from c_193)] | rw [if_neg (show ¬ lg_cmp (gF g 63 22).toInt64 o1 < 0 from c_193)])); (try (first | rw [if_pos (show lg_cmp (gF g 63 22).toInt64 wt < 0 from c_204)] | rw [if_neg (show ¬ lg_cmp (gF g 63 22).toInt64 wt < 0 from c_204)])); (try (first | rw [if_pos (show lg_cmp o1 wt < 0 from c_216)] | rw [if_neg (show ¬ lg_cmp o1 wt < 0 from c_216)])))
      · refine J_iconst (nx := 220) (i := 1) (v := 1) (by decide) dX12_judges_219 rfl ?_
        refine J_goto (nx := 224) dX12_judges_220 (by decide) ?_
        refine J_istore (nx := 226) dX12_judges_224 rfl rfl (Nat.le_of_ble_eq_true rfl) ?_
        exact hK _ (by unfold mA1; (try (first | rw [if_pos (show ¬ jd = 3 from c_182)] | rw [if_neg (show ¬ ¬ jd = 3 from fun z => z c_182)])); (try (first | rw [if_pos (show lg_cmp (gF g 63 22).toInt64 o1 < 0 from c_193)] | rw [if_neg (show ¬ lg_cmp (gF g 63 22).toInt64 o1 < 0 from c_193)])); (try (first | rw [if_pos (show lg_cmp (gF g 63 22).toInt64 wt < 0 from c_204)] | rw [if_neg (show ¬ lg_cmp (gF g 63 22).toInt64 wt < 0 from c_204)])); (try (first | rw [if_pos (show lg_cmp o1 wt < 0 from c_216)] | rw [if_neg (show ¬ lg_cmp o1 wt < 0 from c_216)])))
    · refine J_aload_n (nx := 197) dX12_judges_196 rfl rfl ?_
      refine Jg_63_22 (nx := 200) dX12_judges_197 rfl fl_X12_308 ?_
      refine J_i2l (nx := 201) dX12_judges_200 rfl ?_
      refine J_lload (nx := 203) dX12_judges_201 rfl rfl ?_
      refine J_lcmp (nx := 204) dX12_judges_203 rfl ?_
      refine J_if_lt (nx := 207) (tgt := 211) dX12_judges_204 rfl (by decide) (fun c_204 => ?_) (fun c_204 => ?_)
      · refine J_lload (nx := 213) dX12_judges_211 rfl rfl ?_
        refine J_lload (nx := 215) dX12_judges_213 rfl rfl ?_
        refine J_lcmp (nx := 216) dX12_judges_215 rfl ?_
        refine J_if_lt (nx := 219) (tgt := 223) dX12_judges_216 rfl (by decide) (fun c_216 => ?_) (fun c_216 => ?_)
        · refine J_iconst (nx := 224) (i := 2) (v := 2) (by decide) dX12_judges_223 rfl ?_
          refine J_istore (nx := 226) dX12_judges_224 rfl rfl (Nat.le_of_ble_eq_true rfl) ?_
          exact hK _ (by unfold mA1; (try (first | rw [if_pos (show ¬ jd = 3 from c_182)] | rw [if_neg (show ¬ ¬ jd = 3 from fun z => z c_182)])); (try (first | rw [if_pos (show lg_cmp (gF g 63 22).toInt64 o1 < 0 from c_193)] | rw [if_neg (show ¬ lg_cmp (gF g 63 22).toInt64 o1 < 0 from c_193)])); (try (first | rw [if_pos (show lg_cmp (gF g 63 22).toInt64 wt < 0 from c_204)] | rw [if_neg (show ¬ lg_cmp (gF g 63 22).toInt64 wt < 0 from c_204)])); (try (first | rw [if_pos (show lg_cmp o1 wt < 0 from c_216)] | rw [if_neg (show ¬ lg_cmp o1 wt < 0 from c_216)])))
        · refine J_iconst (nx := 220) (i := 1) (v := 1) (by decide) dX12_judges_219 rfl ?_
          refine J_goto (nx := 224) dX12_judges_220 (by decide) ?_
          refine J_istore (nx := 226) dX12_judges_224 rfl rfl (Nat.le_of_ble_eq_true rfl) ?_
          exact hK _ (by unfold mA1; (try (first | rw [if_pos (show ¬ jd = 3 from c_182)] | rw [if_neg (show ¬ ¬ jd = 3 from fun z => z c_182)])); (try (first | rw [if_pos (show lg_cmp (gF g 63 22).toInt64 o1 < 0 from c_193)] | rw [if_neg (show ¬ lg_cmp (gF g 63 22).toInt64 o1 < 0 from c_193)])); (try (first | rw [if_pos (show lg_cmp (gF g 63 22).toInt64 wt < 0 from c_204)] | rw [if_neg (show ¬ lg_cmp (gF g 63 22).toInt64 wt < 0 from c_204)])); (try (first | rw [if_pos (show lg_cmp o1 wt < 0 from c_216)] | rw [if_neg (show ¬ lg_cmp o1 wt < 0 from c_216)])))
      · refine J_iconst (nx := 208) (i := 0) (v := 0) (by decide) dX12_judges_207 rfl ?_
        refine J_goto (nx := 224) dX12_judges_208 (by decide) ?_
        refine J_istore (nx := 226) dX12_judges_224 rfl rfl (Nat.le_of_ble_eq_true rfl) ?_
        exact hK _ (by unfold mA1; (try (first | rw [if_pos (show ¬ jd = 3 from c_182)] | rw [if_neg (show ¬ ¬ jd = 3 from fun z => z c_182)])); (try (first | rw [if_pos (show lg_cmp (gF g 63 22).toInt64 o1 < 0 from c_193)] | rw [if_neg (show ¬ lg_cmp (gF g 63 22).toInt64 o1 < 0 from c_193)])); (try (first | rw [if_pos (show lg_cmp (gF g 63 22).toInt64 wt < 0 from c_204)] | rw [if_neg (show ¬ lg_cmp (gF g 63 22).toInt64 wt < 0 from c_204)])); (try (first | rw [if_pos (show lg_cmp o1 wt < 0 from c_216)] | rw [if_neg (show ¬ lg_cmp o1 wt < 0 from c_216)])))

set_option maxRecDepth 100000 in
set_option maxHeartbeats 4000000 in
theorem sg_m_j226 (n0 : Nat) (Q : Res → List ME → Prop) (g : GS) (jd b : Int32) (G j s : Nat) (e : Bool) (o1 wt : Int64) (a : Int32) (hK : ∀ a1, a1 = mA2 jd (gF g 63 22) e o1 a → J mX12_judges (rm 4 0 0) Q n0 254 [some (.ref 63), some (.int jd), some (.int b), some (.int (nI (G))), some (.int (nI (j))), some (.int (nI (s))), some (.int (bI e)), some (.long (o1)), none, some (.long (wt)), none, some (.int (a1))] [] (Wd g) 0 0) : J mX12_judges (rm 4 0 0) (Q) n0 226 [some (.ref 63), some (.int jd), some (.int b), some (.int (nI (G))), some (.int (nI (j))), some (.int (nI (s))), some (.int (bI e)), some (.long (o1)), none, some (.long (wt)), none, some (.int (a))] [] (Wd g) 0 0 := by
  refine J_iload_n (nx := 227) dX12_judges_226 rfl rfl ?_
  refine J_iconst (nx := 228) (i := 4) (v := 4) (by decide) dX12_judges_227 rfl ?_
  refine J_icmp_ne (nx := 231) (tgt := 254) dX12_judges_228 rfl (by decide) (fun c_228 => ?_) (fun c_228 => ?_)
  · exact hK _ (by unfold mA2; (try (first | rw [if_pos (show ¬ jd = 4 from c_228)] | rw [if_neg (show ¬ ¬ jd = 4 from fun z => z c_228)])); (try (first | rw [if_pos (show bI e = 0 from c_233)] | rw [if_neg (show ¬ bI e = 0 from c_233)])); (try (first | rw [if_pos (show lg_cmp (gF g 63 22).toInt64 o1 < 0 from c_244)] | rw [if_neg (show ¬ lg_cmp (gF g 63 22).toInt64 o1 < 0 from c_244)])))
  · refine J_iload (nx := 233) dX12_judges_231 rfl rfl ?_
    refine J_if_eq (nx := 236) (tgt := 254) dX12_judges_233 rfl (by decide) (fun c_233 => ?_) (fun c_233 => ?_)
    · exact hK _ (by unfold mA2; (try (first | rw [if_pos (show ¬ jd = 4 from c_228)] | rw [if_neg (show ¬ ¬ jd = 4 from fun z => z c_228)])); (try (first | rw [if_pos (show bI e = 0 from c_233)] | rw [if_neg (show ¬ bI e = 0 from c_233)])); (try (first | rw [if_pos (show lg_cmp (gF g 63 22).toInt64 o1 < 0 from c_244)] | rw [if_neg (show ¬ lg_cmp (gF g 63 22).toInt64 o1 < 0 from c_244)])))
    · refine J_aload_n (nx := 237) dX12_judges_236 rfl rfl ?_
      refine Jg_63_22 (nx := 240) dX12_judges_237 rfl fl_X12_308 ?_
      refine J_i2l (nx := 241) dX12_judges_240 rfl ?_
      refine J_lload (nx := 243) dX12_judges_241 rfl rfl ?_
      refine J_lcmp (nx := 244) dX12_judges_243 rfl ?_
      refine J_if_lt (nx := 247) (tgt := 251) dX12_judges_244 rfl (by decide) (fun c_244 => ?_) (fun c_244 => ?_)
      · refine J_iconst (nx := 252) (i := 1) (v := 1) (by decide) dX12_judges_251 rfl ?_
        refine J_istore (nx := 254) dX12_judges_252 rfl rfl (Nat.le_of_ble_eq_true rfl) ?_
        exact hK _ (by unfold mA2; (try (first | rw [if_pos (show ¬ jd = 4 from c_228)] | rw [if_neg (show ¬ ¬ jd = 4 from fun z => z c_228)])); (try (first | rw [if_pos (show bI e = 0 from c_233)] | rw [if_neg (show ¬ bI e = 0 from c_233)])); (try (first | rw [if_pos (show lg_cmp (gF g 63 22).toInt64 o1 < 0 from c_244)] | rw [if_neg (show ¬ lg_cmp (gF g 63 22).toInt64 o1 < 0 from c_244)])))
      · refine J_iconst (nx := 248) (i := 0) (v := 0) (by decide) dX12_judges_247 rfl ?_
        refine J_goto (nx := 252) dX12_judges_248 (by decide) ?_
        refine J_istore (nx := 254) dX12_judges_252 rfl rfl (Nat.le_of_ble_eq_true rfl) ?_
        exact hK _ (by unfold mA2; (try (first | rw [if_pos (show ¬ jd = 4 from c_228)] | rw [if_neg (show ¬ ¬ jd = 4 from fun z => z c_228)])); (try (first | rw [if_pos (show bI e = 0 from c_233)] | rw [if_neg (show ¬ bI e = 0 from c_233)])); (try (first | rw [if_pos (show lg_cmp (gF g 63 22).toInt64 o1 < 0 from c_244)] | rw [if_neg (show ¬ lg_cmp (gF g 63 22).toInt64 o1 < 0 from c_244)])))

set_option maxRecDepth 100000 in
set_option maxHeartbeats 4000000 in
theorem sg_m_j254 (n0 : Nat) (Q : Res → List ME → Prop) (g : GS) (jd b : Int32) (G j s : Nat) (e : Bool) (o1 wt : Int64) (a : Int32) (hK : ∀ a1, a1 = mA3 e a → J mX12_judges (rm 4 0 0) Q n0 268 [some (.ref 63), some (.int jd), some (.int b), some (.int (nI (G))), some (.int (nI (j))), some (.int (nI (s))), some (.int (bI e)), some (.long (o1)), none, some (.long (wt)), none, some (.int (a1))] [] (Wd g) 0 0) : J mX12_judges (rm 4 0 0) (Q) n0 254 [some (.ref 63), some (.int jd), some (.int b), some (.int (nI (G))), some (.int (nI (j))), some (.int (nI (s))), some (.int (bI e)), some (.long (o1)), none, some (.long (wt)), none, some (.int (a))] [] (Wd g) 0 0 := by
  refine J_iload (nx := 256) dX12_judges_254 rfl rfl ?_
  refine J_if_eq (nx := 259) (tgt := 268) dX12_judges_256 rfl (by decide) (fun c_256 => ?_) (fun c_256 => ?_)
  · exact hK _ (by unfold mA3; (try (first | rw [if_pos (show bI e = 0 from c_256)] | rw [if_neg (show ¬ bI e = 0 from c_256)])); (try (first | rw [if_pos (show ¬ a = 2 from c_262)] | rw [if_neg (show ¬ ¬ a = 2 from fun z => z c_262)])))
  · refine J_iload (nx := 261) dX12_judges_259 rfl rfl ?_
    refine J_iconst (nx := 262) (i := 2) (v := 2) (by decide) dX12_judges_261 rfl ?_
    refine J_icmp_ne (nx := 265) (tgt := 268) dX12_judges_262 rfl (by decide) (fun c_262 => ?_) (fun c_262 => ?_)
    · exact hK _ (by unfold mA3; (try (first | rw [if_pos (show bI e = 0 from c_256)] | rw [if_neg (show ¬ bI e = 0 from c_256)])); (try (first | rw [if_pos (show ¬ a = 2 from c_262)] | rw [if_neg (show ¬ ¬ a = 2 from fun z => z c_262)])))
    · refine J_iconst (nx := 266) (i := 1) (v := 1) (by decide) dX12_judges_265 rfl ?_
      refine J_istore (nx := 268) dX12_judges_266 rfl rfl (Nat.le_of_ble_eq_true rfl) ?_
      exact hK _ (by unfold mA3; (try (first | rw [if_pos (show bI e = 0 from c_256)] | rw [if_neg (show ¬ bI e = 0 from c_256)])); (try (first | rw [if_pos (show ¬ a = 2 from c_262)] | rw [if_neg (show ¬ ¬ a = 2 from fun z => z c_262)])))

def jST (g : GS) (i : Nat) (v : Int64) (a : Int32) : GS := sA (sB g 73 (vp_updL (gB g 73) i v)) 74 (upd (gA g 74) i a)
set_option maxRecDepth 100000 in
set_option maxHeartbeats 4000000 in
theorem sg_m_j268 (n0 : Nat) (Q : Res → List ME → Prop) (g : GS) (jd b : Int32) (G j s : Nat) (e : Bool) (o1 wt : Int64) (a : Int32) (hs : s < 32) (hj : j ≤ 10) (hK : ∀ g1, g1 = jST g (32 * j + s) (jV (gF g 63 22) o1 wt a) a → J mX12_judges (rm 4 0 0) Q n0 11 [some (.ref 63), some (.int jd), some (.int b), some (.int (nI (G))), some (.int (nI (j))), some (.int (nI (s + 1))), none, none, none, none, none, none] [] (Wd g1) 0 0) : J mX12_judges (rm 4 0 0) (Q) n0 268 [some (.ref 63), some (.int jd), some (.int b), some (.int (nI (G))), some (.int (nI (j))), some (.int (nI (s))), some (.int (bI e)), some (.long (o1)), none, some (.long (wt)), none, some (.int (a))] [] (Wd g) 0 0 := by
  refine J_aload_n (nx := 269) dX12_judges_268 rfl rfl ?_
  refine Jg_63_26 (nx := 272) dX12_judges_269 rfl fl_X12_46 ?_
  refine J_bipush (nx := 274) (i := 32) (v := 32) (by decide) dX12_judges_272 rfl ?_
  refine J_iload (nx := 276) dX12_judges_274 rfl rfl ?_
  refine J_imul (nx := 277) dX12_judges_276 rfl ?_
  refine J_iload (nx := 279) dX12_judges_277 rfl rfl ?_
  refine J_iadd (nx := 280) dX12_judges_279 rfl ?_
  refine J_iload (nx := 282) dX12_judges_280 rfl rfl ?_
  refine J_if_ne (nx := 285) (tgt := 293) dX12_judges_282 rfl (by decide) (fun c_282 => ?_) (fun c_282 => ?_)
  · refine J_iload (nx := 295) dX12_judges_293 rfl rfl ?_
    refine J_iconst (nx := 296) (i := 1) (v := 1) (by decide) dX12_judges_295 rfl ?_
    refine J_icmp_ne (nx := 299) (tgt := 304) dX12_judges_296 rfl (by decide) (fun c_296 => ?_) (fun c_296 => ?_)
    · refine J_lload (nx := 306) dX12_judges_304 rfl rfl ?_
      refine Jt_73 (nx := 307) dX12_judges_306 rfl (vpE (n := ((32 * j) + s)) (nIa (nIm (nIc 32) (Eq.refl (nI (j)))) (Eq.refl (nI (s)))) (by omega) (by decide)) ?_
      rw [clE (n := ((32 * j) + s)) (nIa (nIm (nIc 32) (Eq.refl (nI (j)))) (Eq.refl (nI (s)))) (by omega)]
      refine J.gen (fun g_306 hg_306 => ?_)
      refine J_aload_n (nx := 308) dX12_judges_307 rfl rfl ?_
      refine Jg_63_27 (nx := 311) dX12_judges_308 rfl fl_X12_49 ?_
      refine J_bipush (nx := 313) (i := 32) (v := 32) (by decide) dX12_judges_311 rfl ?_
      refine J_iload (nx := 315) dX12_judges_313 rfl rfl ?_
      refine J_imul (nx := 316) dX12_judges_315 rfl ?_
      refine J_iload (nx := 318) dX12_judges_316 rfl rfl ?_
      refine J_iadd (nx := 319) dX12_judges_318 rfl ?_
      refine J_iload (nx := 321) dX12_judges_319 rfl rfl ?_
      refine Jt_74 (nx := 322) dX12_judges_321 rfl (vpE (n := ((32 * j) + s)) (nIa (nIm (nIc 32) (Eq.refl (nI (j)))) (Eq.refl (nI (s)))) (by omega) (by decide)) ?_
      rw [clE (n := ((32 * j) + s)) (nIa (nIm (nIc 32) (Eq.refl (nI (j)))) (Eq.refl (nI (s)))) (by omega)]
      refine J.gen (fun g_321 hg_321 => ?_)
      refine J_iinc (nx := 325) dX12_judges_322 rfl rfl rfl (Nat.le_of_ble_eq_true rfl) ?_
      refine J_goto (nx := 11) dX12_judges_325 (by decide) ?_
      refine J_kill (nx := 0) 6 ?_
      refine J_kill (nx := 0) 7 ?_
      refine J_kill (nx := 0) 9 ?_
      refine J_kill (nx := 0) 11 ?_
      rw [show (nI (s) + Int32.ofInt 1) = nI (s + 1) from (show nI (s) + Int32.ofInt 1 = nI (s + 1) from nI_add (s) 1)]
      exact hK _ (show g_321 = jST g (32 * j + s) (jV (gF g 63 22) o1 wt a) a from by
        rw [hg_321]; unfold jST jV
        (try (first | rw [if_pos (show ¬ a = 0 from c_282)] | rw [if_neg (show ¬ ¬ a = 0 from fun z => z c_282)])); (try (first | rw [if_pos (show ¬ a = 1 from c_296)] | rw [if_neg (show ¬ ¬ a = 1 from fun z => z c_296)]))
        rw [hg_306]; rfl)
    · refine J_lload (nx := 301) dX12_judges_299 rfl rfl ?_
      refine J_goto (nx := 306) dX12_judges_301 (by decide) ?_
      refine Jt_73 (nx := 307) dX12_judges_306 rfl (vpE (n := ((32 * j) + s)) (nIa (nIm (nIc 32) (Eq.refl (nI (j)))) (Eq.refl (nI (s)))) (by omega) (by decide)) ?_
      rw [clE (n := ((32 * j) + s)) (nIa (nIm (nIc 32) (Eq.refl (nI (j)))) (Eq.refl (nI (s)))) (by omega)]
      refine J.gen (fun g_306 hg_306 => ?_)
      refine J_aload_n (nx := 308) dX12_judges_307 rfl rfl ?_
      refine Jg_63_27 (nx := 311) dX12_judges_308 rfl fl_X12_49 ?_
      refine J_bipush (nx := 313) (i := 32) (v := 32) (by decide) dX12_judges_311 rfl ?_
      refine J_iload (nx := 315) dX12_judges_313 rfl rfl ?_
      refine J_imul (nx := 316) dX12_judges_315 rfl ?_
      refine J_iload (nx := 318) dX12_judges_316 rfl rfl ?_
      refine J_iadd (nx := 319) dX12_judges_318 rfl ?_
      refine J_iload (nx := 321) dX12_judges_319 rfl rfl ?_
      refine Jt_74 (nx := 322) dX12_judges_321 rfl (vpE (n := ((32 * j) + s)) (nIa (nIm (nIc 32) (Eq.refl (nI (j)))) (Eq.refl (nI (s)))) (by omega) (by decide)) ?_
      rw [clE (n := ((32 * j) + s)) (nIa (nIm (nIc 32) (Eq.refl (nI (j)))) (Eq.refl (nI (s)))) (by omega)]
      refine J.gen (fun g_321 hg_321 => ?_)
      refine J_iinc (nx := 325) dX12_judges_322 rfl rfl rfl (Nat.le_of_ble_eq_true rfl) ?_
      refine J_goto (nx := 11) dX12_judges_325 (by decide) ?_
      refine J_kill (nx := 0) 6 ?_
      refine J_kill (nx := 0) 7 ?_
      refine J_kill (nx := 0) 9 ?_
      refine J_kill (nx := 0) 11 ?_
      rw [show (nI (s) + Int32.ofInt 1) = nI (s + 1) from (show nI (s) + Int32.ofInt 1 = nI (s + 1) from nI_add (s) 1)]
      exact hK _ (show g_321 = jST g (32 * j + s) (jV (gF g 63 22) o1 wt a) a from by
        rw [hg_321]; unfold jST jV
        (try (first | rw [if_pos (show ¬ a = 0 from c_282)] | rw [if_neg (show ¬ ¬ a = 0 from fun z => z c_282)])); (try (first | rw [if_pos (show ¬ a = 1 from c_296)] | rw [if_neg (show ¬ ¬ a = 1 from fun z => z c_296)]))
        rw [hg_306]; rfl)
  · refine J_aload_n (nx := 286) dX12_judges_285 rfl rfl ?_
    refine Jg_63_22 (nx := 289) dX12_judges_286 rfl fl_X12_308 ?_
    refine J_i2l (nx := 290) dX12_judges_289 rfl ?_
    refine J_goto (nx := 306) dX12_judges_290 (by decide) ?_
    refine Jt_73 (nx := 307) dX12_judges_306 rfl (vpE (n := ((32 * j) + s)) (nIa (nIm (nIc 32) (Eq.refl (nI (j)))) (Eq.refl (nI (s)))) (by omega) (by decide)) ?_
    rw [clE (n := ((32 * j) + s)) (nIa (nIm (nIc 32) (Eq.refl (nI (j)))) (Eq.refl (nI (s)))) (by omega)]
    refine J.gen (fun g_306 hg_306 => ?_)
    refine J_aload_n (nx := 308) dX12_judges_307 rfl rfl ?_
    refine Jg_63_27 (nx := 311) dX12_judges_308 rfl fl_X12_49 ?_
    refine J_bipush (nx := 313) (i := 32) (v := 32) (by decide) dX12_judges_311 rfl ?_
    refine J_iload (nx := 315) dX12_judges_313 rfl rfl ?_
    refine J_imul (nx := 316) dX12_judges_315 rfl ?_
    refine J_iload (nx := 318) dX12_judges_316 rfl rfl ?_
    refine J_iadd (nx := 319) dX12_judges_318 rfl ?_
    refine J_iload (nx := 321) dX12_judges_319 rfl rfl ?_
    refine Jt_74 (nx := 322) dX12_judges_321 rfl (vpE (n := ((32 * j) + s)) (nIa (nIm (nIc 32) (Eq.refl (nI (j)))) (Eq.refl (nI (s)))) (by omega) (by decide)) ?_
    rw [clE (n := ((32 * j) + s)) (nIa (nIm (nIc 32) (Eq.refl (nI (j)))) (Eq.refl (nI (s)))) (by omega)]
    refine J.gen (fun g_321 hg_321 => ?_)
    refine J_iinc (nx := 325) dX12_judges_322 rfl rfl rfl (Nat.le_of_ble_eq_true rfl) ?_
    refine J_goto (nx := 11) dX12_judges_325 (by decide) ?_
    refine J_kill (nx := 0) 6 ?_
    refine J_kill (nx := 0) 7 ?_
    refine J_kill (nx := 0) 9 ?_
    refine J_kill (nx := 0) 11 ?_
    rw [show (nI (s) + Int32.ofInt 1) = nI (s + 1) from (show nI (s) + Int32.ofInt 1 = nI (s + 1) from nI_add (s) 1)]
    exact hK _ (show g_321 = jST g (32 * j + s) (jV (gF g 63 22) o1 wt a) a from by
      rw [hg_321]; unfold jST jV
      (try (first | rw [if_pos (show ¬ a = 0 from c_282)] | rw [if_neg (show ¬ ¬ a = 0 from fun z => z c_282)])); (try (first | rw [if_pos (show ¬ a = 1 from c_296)] | rw [if_neg (show ¬ ¬ a = 1 from fun z => z c_296)]))
      rw [hg_306]; rfl)

def aJ (c : Nat) : Bool := Nat.beq c 70 || Nat.beq c 71 || Nat.beq c 73 || Nat.beq c 74
theorem aJ_7 (c : Nat) (h : aJ c = false) : a7 c = false := by unfold aJ at h; unfold a7; revert h; cases Nat.beq c 70 <;> cases Nat.beq c 71 <;> simp
theorem mxI_sub {a b : Nat} (ha : a < 2 ^ 30) (hb : b < 2 ^ 30) : mxI 0 (nI a - nI b) = nI (a - b) := by
  rcases Nat.lt_or_ge a b with h | h
  · have e : nI a - nI b < 0 := by
      have h2 : (nI a - nI b).toInt < (0 : Int32).toInt := by
        rw [Int32.toInt_sub, nI_toInt (by omega), nI_toInt (by omega), Int.bmod_def]
        show _ < (0 : Int)
        omega
      exact Int32.lt_iff_toInt_lt.mpr h2
    unfold mxI
    rw [if_neg (fun z : (0 : Int32) < nI a - nI b => lt_nle e (Int32.le_of_lt z)), show a - b = 0 by omega]; rfl
  · rw [nI_sub h, mxI_0 (by omega)]
def JOK (P : JP) (g : GS) : Prop :=
  gA g 64 = jW P ∧ gF g 63 20 = jgw P ∧ gF g 63 23 = jaf P ∧ gF g 63 22 = jsw P ∧ (∀ t s, t ≤ 60 → s < 32 → gB g 72 (32 * t + s) = jon P t s) ∧ jW P 5 = nI (jT P) ∧ jT P ≤ 60 ∧ jG P ≤ 10 ∧ ∃ z, z < 8 ∧ gF g 63 24 = nI z ∧ (jjd P < 100 → ¬ jjd P < 5 → ∃ r rl, r < 4 ∧ jjd P - 5 = nI r ∧ MTx (jW P) r rl ∧ ∀ j s, jsy P j s = txDo (mFc (gF g 63 21) (jW P 7) s j (jW P (10 + z)) (gF g 63 25)) rl)
theorem JOK.fr {P : JP} {g g' : GS} (h : JOK P g) (hf : Fr f0 aJ g g') : JOK P g' := by
  obtain ⟨h1, h2, h3, h4, h5, h6, h7, h8, z, hz8, hz, h9⟩ := h
  refine ⟨(hf.2.1 64 rfl).trans h1, (hf.1 63 20 rfl).trans h2, (hf.1 63 23 rfl).trans h3, (hf.1 63 22 rfl).trans h4, fun t s ht hs => ?_, h6, h7, h8, z, hz8, (hf.1 63 24 rfl).trans hz, fun a b => ?_⟩
  · rw [hf.2.2.1 72 rfl]; exact h5 t s ht hs
  · obtain ⟨r, rl, q1, q2, q3, q4⟩ := h9 a b
    exact ⟨r, rl, q1, q2, q3, fun j s => by rw [hf.1 63 21 rfl, hf.1 63 25 rfl]; exact q4 j s⟩
def JI (P : JP) (k s : Nat) (g : GS) : Prop := ∀ k' s', k' ≤ jG P → s' < 32 → (k' < k ∨ k' = k ∧ s' < s) → gB g 73 (32 * (jG P - k') + s') = jWo P k' s' ∧ gA g 74 (32 * (jG P - k') + s') = jAc P k' s'
theorem jST_B (g : GS) (i : Nat) (v : Int64) (a : Int32) (q : Nat) : gB (jST g i v a) 73 q = if q = i then v else gB g 73 q := rfl
theorem jST_A (g : GS) (i : Nat) (v : Int64) (a : Int32) (q : Nat) : gA (jST g i v a) 74 q = if q = i then a else gA g 74 q := by
  by_cases h : q = i
  · rw [if_pos h, h]; exact if_pos rfl
  · rw [if_neg h]; exact if_neg h
theorem JI.st {P : JP} {k s : Nat} {g : GS} (h : JI P k s g) (hk : k ≤ jG P) (hs : s < 32) : JI P k (s + 1) (jST g (32 * (jG P - k) + s) (jWo P k s) (jAc P k s)) := fun k' s' hk' hs' hl => by
  rw [jST_B, jST_A]
  by_cases e : 32 * (jG P - k') + s' = 32 * (jG P - k) + s
  · obtain rfl : k' = k := by omega
    obtain rfl : s' = s := by omega
    rw [if_pos rfl, if_pos rfl]; exact ⟨rfl, rfl⟩
  · rw [if_neg e, if_neg e]
    refine h k' s' hk' hs' ?_
    rcases hl with hl | ⟨rfl, hl⟩
    · exact .inl hl
    · refine .inr ⟨rfl, ?_⟩
      have : s' ≠ s := fun z => e (by rw [z])
      omega
theorem JI.cg {P : JP} {k s : Nat} {g g' : GS} (h : JI P k s g) (h1 : gB g' 73 = gB g 73) (h2 : gA g' 74 = gA g 74) : JI P k s g' := fun k' s' a b c => by rw [h1, h2]; exact h k' s' a b c
theorem mMx_congr {W : Nat → Int32} {a : Int64} {s : Nat} {f f' : Nat → Int64} (h : ∀ q, q < 32 → f q = f' q) : mMx W a s f = mMx W a s f' := by
  unfold mMx; exact congrArg (fun z => fdL z 100) (acL_congr 32 (fun i hi => by rw [h i hi]))
theorem mWt_congr {W : Nat → Int32} {gw af sw : Int32} {s : Nat} {f f' : Nat → Int64} (hs : s < 32) (h : ∀ q, q < 32 → f q = f' q) : mWt W gw af sw s f = mWt W gw af sw s f' := by
  unfold mWt; rw [mMx_congr h, h s hs]

set_option maxRecDepth 100000 in
set_option maxHeartbeats 4000000 in
theorem sg_m_jcell (n0 : Nat) (Q : Res → List ME → Prop) (g0 g : GS) (P : JP) (j k s : Nat) (e : Bool) (o1 wt : Int64) (hs : s < 32) (hj : j + k = jG P) (he : e = decide (k = 0)) (ho1 : o1 = jO1 P j s) (hwt : wt = jWt P k s) (hJ : JOK P g) (hI : JI P k s g) (hfr : Fr f0 aJ g0 g) (hK : ∀ g2, Fr f0 aJ g0 g2 → JI P k (s + 1) g2 → J mX12_judges (rm 4 0 0) Q n0 11 [some (.ref 63), some (.int (jjd P)), some (.int (jb P)), some (.int (nI (jG P))), some (.int (nI (j))), some (.int (nI (s + 1))), none, none, none, none, none, none] [] (Wd g2) 0 0) : J mX12_judges (rm 4 0 0) Q n0 83 [some (.ref 63), some (.int (jjd P)), some (.int (jb P)), some (.int (nI (jG P))), some (.int (nI (j))), some (.int (nI (s))), some (.int (bI e)), some (.long (o1)), none, some (.long (wt)), none, none] [] (Wd g) 0 0 := by
  obtain ⟨hW, hgw, haf, hsw, hon, hT5, hT, hG10, z, hz8, hz, hru⟩ := hJ
  refine sg_m_j83 n0 Q g (jjd P) (jb P) (jG P) j s z _ o1 wt (jsy P j s) hs (by omega) hz hz8 (fun h1 h2 => ?_) (fun g1 a hf1 ha => ?_)
  · obtain ⟨r, rl, hr4, hrj, hrt, hry⟩ := hru h1 h2
    refine ⟨r, rl, hr4, hrj, by rw [hW]; exact hrt, ?_⟩
    rw [hry]
    refine txDo_congr rl (fun l hl p hp h8 => ?_)
    rw [syG_c g s j hs p.1 h8, hW, hz, show (10 : Int32) + nI z = nI (10 + z) from nIa (nIc 10) rfl, nI_clamp (by omega)]
  refine sg_m_j180 n0 Q g1 _ _ (jG P) j s _ o1 wt a (fun a1 h1 => ?_)
  refine sg_m_j226 n0 Q g1 _ _ (jG P) j s e o1 wt a1 (fun a2 h2 => ?_)
  refine sg_m_j254 n0 Q g1 _ _ (jG P) j s e o1 wt a2 (fun a3 h3 => ?_)
  refine sg_m_j268 n0 Q g1 _ _ (jG P) j s e o1 wt a3 hs (by omega) (fun g2 hg2 => ?_)
  have hsw1 : gF g1 63 22 = jsw P := (hf1.1 63 22 rfl).trans hsw
  have hA : a3 = jAc P k s := by
    rw [h3, h2, h1, ha, hsw1, jAc_eq, ← he, show jG P - k = j by omega, ho1, hwt]; rfl
  have hV : jV (gF g1 63 22) o1 wt a3 = jWo P k s := by
    rw [jWo_eq, hsw1, ho1, hwt, hA, show jG P - k = j by omega]
  rw [hV, hA, show j = jG P - k by omega] at hg2
  refine hK g2 ?_ ?_
  · rw [hg2]; exact Fr.sA (Fr.sB (hfr.tr (hf1.mono (fun _ _ h => h) aJ_7)) rfl) rfl
  · rw [hg2]; exact (hI.cg (hf1.2.2.1 73 rfl) (hf1.2.1 74 rfl)).st (by omega) hs

set_option maxRecDepth 100000 in
set_option maxHeartbeats 4000000 in
theorem lp_m_jin (Q : Res → List ME → Prop) (g0 : GS) (P : JP) (hJ0 : JOK P g0) (j k0 : Nat) (hj : j + k0 = jG P) (n0 : Nat) : ∀ (k : Nat) (s : Nat) (g : GS), s + k = 32 → Fr f0 aJ g0 g → JI P k0 s g → (∀ g2, Fr f0 aJ g0 g2 → JI P k0 32 g2 → J mX12_judges (rm 4 0 0) Q n0 328 [some (.ref 63), some (.int (jjd P)), some (.int (jb P)), some (.int (nI (jG P))), some (.int (nI (j))), some (.int (nI 32)), none, none, none, none, none, none] [] (Wd g2) 0 0) → J mX12_judges (rm 4 0 0) (Q) n0 11 [some (.ref 63), some (.int (jjd P)), some (.int (jb P)), some (.int (nI (jG P))), some (.int (nI (j))), some (.int (nI (s))), none, none, none, none, none, none] [] (Wd g) 0 0 := by
  intro k
  induction k with
  | zero =>
    intro s g hk hfr hI hK
    refine J_iload (nx := 13) dX12_judges_11 rfl rfl ?_
    refine J_bipush (nx := 15) (i := 32) (v := 32) (by decide) dX12_judges_13 rfl ?_
    refine J_icmp_ge (nx := 18) (tgt := 328) dX12_judges_15 rfl (by decide) (fun c_15 => ?_) (fun c_15 => ?_)
    · obtain rfl : s = 32 := by omega
      exact hK g hfr hI
    · exact absurd (show nI 32 ≤ nI s from by rw [show s = 32 by omega]; exact le_self_nI) c_15
  | succ k ih =>
    intro s g hk hfr hI hK
    have hJ : JOK P g := hJ0.fr hfr
    refine J_iload (nx := 13) dX12_judges_11 rfl rfl ?_
    refine J_bipush (nx := 15) (i := 32) (v := 32) (by decide) dX12_judges_13 rfl ?_
    refine J_icmp_ge (nx := 18) (tgt := 328) dX12_judges_15 rfl (by decide) (fun c_15 => ?_) (fun c_15 => ?_)
    · exact absurd c_15 (nlt_nI (n := 32) (by omega) (by omega))
    · have hs : s < 32 := by omega
      have hJ2 := hJ
      obtain ⟨hW, hgw, haf, hsw, hon, hT5, hT, hG10, z, hz8, hz, hru⟩ := hJ2
      refine J_iload (nx := 20) dX12_judges_18 rfl rfl ?_
      refine J_iload_n (nx := 21) dX12_judges_20 rfl rfl ?_
      refine J_icmp_ne (nx := 24) (tgt := 28) dX12_judges_21 rfl (by decide) (fun c_21 => ?_) (fun c_21 => ?_)
      · refine J_iconst (nx := 29) (i := 0) (v := 0) (by decide) dX12_judges_28 rfl ?_
        refine J_istore (nx := 31) dX12_judges_29 rfl rfl (Nat.le_of_ble_eq_true rfl) ?_
        refine J_aload_n (nx := 32) dX12_judges_31 rfl rfl ?_
        refine Jg_63_19 (nx := 35) dX12_judges_32 rfl fl_X12_42 ?_
        refine J_bipush (nx := 37) (i := 32) (v := 32) (by decide) dX12_judges_35 rfl ?_
        refine J_iconst (nx := 38) (i := 0) (v := 0) (by decide) dX12_judges_37 rfl ?_
        refine J_aload_n (nx := 39) dX12_judges_38 rfl rfl ?_
        refine Jg_63_1 (nx := 42) dX12_judges_39 rfl fl_X12_13 ?_
        refine J_iconst (nx := 43) (i := 5) (v := 5) (by decide) dX12_judges_42 rfl ?_
        refine Ja_64 (nx := 44) dX12_judges_43 rfl (vpE (n := 5) (nIc 5) (by omega) (by decide)) ?_
        rw [clE (n := 5) (nIc 5) (by omega)]
        rw [show gA g 64 5 = nI (jT P) from (congrFun hW 5).trans hT5]
        refine J_iload (nx := 46) dX12_judges_44 rfl rfl ?_
        refine J_isub (nx := 47) dX12_judges_46 rfl ?_
        refine JcS2 (R' := rm (0) 0 0) (nx := 50) dX12_judges_47 rfl ml_J9_max_7cf53 lk_X12_257 st_J9_max_7cf53 ⟨(Nat.le_of_ble_eq_true rfl), (Nat.le_of_ble_eq_true rfl)⟩ (Nat.le_of_ble_eq_true rfl) ⟨rfl, rfl⟩ (ct_max _ _ _) ?_
        rw [show mxI 0 (nI (jT P) - nI (j)) = nI (jT P - j) from mxI_sub (by omega) (by omega)]
        refine J_imul (nx := 51) dX12_judges_50 rfl ?_
        refine J_iload (nx := 53) dX12_judges_51 rfl rfl ?_
        refine J_iadd (nx := 54) dX12_judges_53 rfl ?_
        refine Ja_72 (nx := 55) dX12_judges_54 rfl (vpE (n := ((32 * (jT P - j)) + s)) (nIa (nIm (nIc 32) (Eq.refl (nI ((jT P - j))))) (Eq.refl (nI (s)))) (by omega) (by decide)) ?_
        rw [clE (n := ((32 * (jT P - j)) + s)) (nIa (nIm (nIc 32) (Eq.refl (nI ((jT P - j))))) (Eq.refl (nI (s)))) (by omega)]
        refine J_aload_n (nx := 56) dX12_judges_55 rfl rfl ?_
        refine Jg_63_23 (nx := 59) dX12_judges_56 rfl fl_X12_311 ?_
        refine J_i2l (nx := 60) dX12_judges_59 rfl ?_
        refine J_ladd (nx := 61) dX12_judges_60 rfl ?_
        refine J_lstore (nx := 63) dX12_judges_61 rfl rfl (Nat.le_of_ble_eq_true rfl) ?_
        refine J_iload (nx := 65) dX12_judges_63 rfl rfl ?_
        refine J_if_eq (nx := 68) (tgt := 73) dX12_judges_65 rfl (by decide) (fun c_65 => ?_) (fun c_65 => ?_)
        · have hjG : j ≠ jG P := fun e => c_21 (by rw [e])
          refine J_aload_n (nx := 74) dX12_judges_73 rfl rfl ?_
          refine J_iload (nx := 76) dX12_judges_74 rfl rfl ?_
          refine J_iload (nx := 78) dX12_judges_76 rfl rfl ?_
          refine JcV2 (R' := rm (3) 0 0) (nx := 81) dX12_judges_78 rfl ml_X12_waiting lk_X12_327 iv_X12_waiting rfl rfl ⟨(Nat.le_of_ble_eq_true rfl), (Nat.le_of_ble_eq_true rfl)⟩ (Nat.le_of_ble_eq_true rfl) ⟨rfl, rfl⟩ (ct_m_waiting _ (s) (j) (by omega) (by omega)) ?_
          refine J_lstore (nx := 83) dX12_judges_81 rfl rfl (Nat.le_of_ble_eq_true rfl) ?_
          obtain ⟨q, rfl⟩ : ∃ q, k0 = q + 1 := ⟨k0 - 1, by omega⟩
          refine sg_m_jcell n0 Q g0 g P j (q + 1) s false _ _ hs hj rfl (by rw [hon (jT P - j) s (by omega) hs, haf]; rfl) ?_ hJ hI hfr (fun g2 a b => ih (s + 1) g2 (by omega) a b hK)
          rw [hW, hgw, haf, hsw]
          refine mWt_congr hs (fun x hx => ?_)
          have hy := (hI q x (by omega) hx (.inl (by omega))).1
          rw [show jG P - q = j + 1 by omega] at hy
          exact hy
        · exact absurd rfl c_65
      · refine J_iconst (nx := 25) (i := 1) (v := 1) (by decide) dX12_judges_24 rfl ?_
        refine J_goto (nx := 29) dX12_judges_25 (by decide) ?_
        refine J_istore (nx := 31) dX12_judges_29 rfl rfl (Nat.le_of_ble_eq_true rfl) ?_
        refine J_aload_n (nx := 32) dX12_judges_31 rfl rfl ?_
        refine Jg_63_19 (nx := 35) dX12_judges_32 rfl fl_X12_42 ?_
        refine J_bipush (nx := 37) (i := 32) (v := 32) (by decide) dX12_judges_35 rfl ?_
        refine J_iconst (nx := 38) (i := 0) (v := 0) (by decide) dX12_judges_37 rfl ?_
        refine J_aload_n (nx := 39) dX12_judges_38 rfl rfl ?_
        refine Jg_63_1 (nx := 42) dX12_judges_39 rfl fl_X12_13 ?_
        refine J_iconst (nx := 43) (i := 5) (v := 5) (by decide) dX12_judges_42 rfl ?_
        refine Ja_64 (nx := 44) dX12_judges_43 rfl (vpE (n := 5) (nIc 5) (by omega) (by decide)) ?_
        rw [clE (n := 5) (nIc 5) (by omega)]
        rw [show gA g 64 5 = nI (jT P) from (congrFun hW 5).trans hT5]
        refine J_iload (nx := 46) dX12_judges_44 rfl rfl ?_
        refine J_isub (nx := 47) dX12_judges_46 rfl ?_
        refine JcS2 (R' := rm (0) 0 0) (nx := 50) dX12_judges_47 rfl ml_J9_max_7cf53 lk_X12_257 st_J9_max_7cf53 ⟨(Nat.le_of_ble_eq_true rfl), (Nat.le_of_ble_eq_true rfl)⟩ (Nat.le_of_ble_eq_true rfl) ⟨rfl, rfl⟩ (ct_max _ _ _) ?_
        rw [show mxI 0 (nI (jT P) - nI (j)) = nI (jT P - j) from mxI_sub (by omega) (by omega)]
        refine J_imul (nx := 51) dX12_judges_50 rfl ?_
        refine J_iload (nx := 53) dX12_judges_51 rfl rfl ?_
        refine J_iadd (nx := 54) dX12_judges_53 rfl ?_
        refine Ja_72 (nx := 55) dX12_judges_54 rfl (vpE (n := ((32 * (jT P - j)) + s)) (nIa (nIm (nIc 32) (Eq.refl (nI ((jT P - j))))) (Eq.refl (nI (s)))) (by omega) (by decide)) ?_
        rw [clE (n := ((32 * (jT P - j)) + s)) (nIa (nIm (nIc 32) (Eq.refl (nI ((jT P - j))))) (Eq.refl (nI (s)))) (by omega)]
        refine J_aload_n (nx := 56) dX12_judges_55 rfl rfl ?_
        refine Jg_63_23 (nx := 59) dX12_judges_56 rfl fl_X12_311 ?_
        refine J_i2l (nx := 60) dX12_judges_59 rfl ?_
        refine J_ladd (nx := 61) dX12_judges_60 rfl ?_
        refine J_lstore (nx := 63) dX12_judges_61 rfl rfl (Nat.le_of_ble_eq_true rfl) ?_
        refine J_iload (nx := 65) dX12_judges_63 rfl rfl ?_
        refine J_if_eq (nx := 68) (tgt := 73) dX12_judges_65 rfl (by decide) (fun c_65 => ?_) (fun c_65 => ?_)
        · skip
          exact absurd c_65 (by decide)
        · refine J_lload (nx := 70) dX12_judges_68 rfl rfl ?_
          refine J_goto (nx := 81) dX12_judges_70 (by decide) ?_
          refine J_lstore (nx := 83) dX12_judges_81 rfl rfl (Nat.le_of_ble_eq_true rfl) ?_
          have hk0 : k0 = 0 := by have := nI_inj (a := j) (b := jG P) (by omega) (by omega) c_21; omega
          exact sg_m_jcell n0 Q g0 g P j k0 s true _ _ hs hj (by rw [hk0]; rfl) (by rw [hon (jT P - j) s (by omega) hs, haf]; rfl) (by rw [hon (jT P - j) s (by omega) hs, haf, hk0, show j = jG P by omega]; rfl) hJ hI hfr (fun g2 a b => ih (s + 1) g2 (by omega) a b hK)

set_option maxRecDepth 100000 in
set_option maxHeartbeats 4000000 in
theorem lp_m_jout (n0 : Nat) (g0 : GS) (P : JP) (hJ0 : JOK P g0) : ∀ (k k0 : Nat) (g : GS), k + k0 = jG P → Fr f0 aJ g0 g → JI P k0 0 g → J mX12_judges (rm 4 0 0) (RXv (fun g2 => Fr f0 aJ g0 g2 ∧ JI P (jG P) 32 g2)) n0 3 [some (.ref 63), some (.int (jjd P)), some (.int (jb P)), some (.int (nI (jG P))), some (.int (nI (k))), none, none, none, none, none, none, none] [] (Wd g) 0 0 := by
  intro k
  induction k with
  | zero =>
    intro k0 g hj hfr hI
    have hG10 : jG P ≤ 10 := hJ0.2.2.2.2.2.2.2.1
    refine J_iload (nx := 5) dX12_judges_3 rfl rfl ?_
    refine J_if_lt (nx := 8) (tgt := 334) dX12_judges_5 rfl (by decide) (fun c_5 => ?_) (fun c_5 => ?_)
    · exact absurd c_5 (by decide)
    · refine J_iconst (nx := 9) (i := 0) (v := 0) (by decide) dX12_judges_8 rfl ?_
      refine J_istore (nx := 11) dX12_judges_9 rfl rfl (Nat.le_of_ble_eq_true rfl) ?_
      refine lp_m_jin _ g0 P hJ0 0 k0 hj n0 32 0 g rfl hfr hI (fun g2 h1 h2 => ?_)
      refine J_iinc (nx := 331) dX12_judges_328 rfl rfl rfl (Nat.le_of_ble_eq_true rfl) ?_
      refine J_goto (nx := 3) dX12_judges_331 (by decide) ?_
      refine J_iload (nx := 5) dX12_judges_3 rfl rfl ?_
      refine J_if_lt (nx := 8) (tgt := 334) dX12_judges_5 rfl (by decide) (fun c_5 => ?_) (fun c_5 => ?_)
      · exact Jrv dX12_judges_334 rfl (Nat.zero_le _) (Nat.zero_le _) (RXv.of ⟨h1, by rw [show jG P = k0 by omega]; exact h2⟩)
      · exact absurd (by decide) c_5
  | succ k ih =>
    intro k0 g hj hfr hI
    have hG10 : jG P ≤ 10 := hJ0.2.2.2.2.2.2.2.1
    refine J_iload (nx := 5) dX12_judges_3 rfl rfl ?_
    refine J_if_lt (nx := 8) (tgt := 334) dX12_judges_5 rfl (by decide) (fun c_5 => ?_) (fun c_5 => ?_)
    · exact absurd (nI_ltd (a := k + 1) (b := 0) (by omega) (by omega) c_5) (by omega)
    · refine J_iconst (nx := 9) (i := 0) (v := 0) (by decide) dX12_judges_8 rfl ?_
      refine J_istore (nx := 11) dX12_judges_9 rfl rfl (Nat.le_of_ble_eq_true rfl) ?_
      refine lp_m_jin _ g0 P hJ0 (k + 1) k0 hj n0 32 0 g rfl hfr hI (fun g2 h1 h2 => ?_)
      refine J_iinc (nx := 331) dX12_judges_328 rfl rfl rfl (Nat.le_of_ble_eq_true rfl) ?_
      refine J_goto (nx := 3) dX12_judges_331 (by decide) ?_
      refine J_kill (nx := 0) 5 ?_
      rw [show (nI (k + 1) + Int32.ofInt (-1)) = nI k from (nIdc (by omega) : nI (k + 1) + Int32.ofInt (-1) = nI (k + 1 - 1))]
      exact ih (k0 + 1) g2 (by omega) h1 (fun k' s' a b c => h2 k' s' a b (by omega))

set_option maxRecDepth 100000 in
set_option maxHeartbeats 4000000 in
theorem ct_m_judges (g : GS) (P : JP) (hJ : JOK P g) : Ct mX12_judges (rm 4 0 0) [.ref 63, .int (jjd P), .int (jb P), .int (nI (jG P))] (Wd g) (RXv (fun g2 => Fr f0 aJ g g2 ∧ JI P (jG P) 32 g2)) := by
  refine Ct.of (by decide +kernel) (Nat.le_of_ble_eq_true rfl) ?_
  show J _ _ _ _ 0 [some (.ref 63), some (.int (jjd P)), some (.int (jb P)), some (.int (nI (jG P))), none, none, none, none, none, none, none, none] [] _ 0 0
  refine J_iload_n (nx := 1) dX12_judges_0 rfl rfl ?_
  refine J_istore (nx := 3) dX12_judges_1 rfl rfl (Nat.le_of_ble_eq_true rfl) ?_
  exact lp_m_jout _ g P hJ (jG P) 0 g (by omega) Fr.rf (fun k' s' a b c => absurd c (by omega))

