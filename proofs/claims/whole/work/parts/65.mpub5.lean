
/-! the Model: a new sort; means; plain judges -/
def soZ (q i : Nat) (g : GS) : GS := wU g (1106 + 34 * q + i) 0
def soG (q : Nat) (c f : Int32) (g : GS) : GS := wU (wU (itU (soZ q) 34 0 g) (1106 + 34 * q + 0) c) (1106 + 34 * q + 1) f
theorem upd_other {f : Nat → Int32} {i j : Nat} {v : Int32} (h : ¬ j = i) : upd f i v j = f j := if_neg h
theorem soZ_2 (q : Nat) : ∀ (k i : Nat) (g : GS), gA (itU (soZ q) k i g) 64 2 = gA g 64 2 := by
  intro k
  induction k with
  | zero => intro i g; rfl
  | succ k ih =>
    intro i g
    show gA (itU (soZ q) k (i + 1) (soZ q i g)) 64 2 = gA g 64 2
    rw [ih]
    exact upd_other (by omega)
theorem soG_2 (q : Nat) (c f : Int32) (g : GS) : gA (soG q c f g) 64 2 = gA g 64 2 := by
  refine (upd_other (f := gA (wU (itU (soZ q) 34 0 g) (1106 + 34 * q + 0) c) 64) (by omega)).trans ((upd_other (f := gA (itU (soZ q) 34 0 g) 64) (by omega)).trans (soZ_2 q 34 0 g))
set_option maxRecDepth 100000 in
set_option maxHeartbeats 4000000 in
theorem lp_m_sort (g0 : GS) (q : Nat) (hq : q < 6) (h2 : gA g0 64 2 = nI q) (c f : Int32) (n0 : Nat) : ∀ (k : Nat) (i : Nat) (g : GS), i + k = 34 → itU (soZ q) 34 0 g0 = itU (soZ q) k i g → J mX12_sort (rm 2 0 0) (RXi (fun x g2 => x = nI q ∧ g2 = wU (soG q c f g0) 2 (nI q + 1))) n0 75 [some (.ref 63), some (.int c), some (.int f), some (.int (nI (q))), some (.int (nI (i)))] [] (Wd g) 0 0 := by
  intro k
  induction k with
  | zero =>
    intro i g hk hr
    refine J_iload (nx := 77) dX12_sort_75 rfl rfl ?_
    refine J_bipush (nx := 79) (i := 34) (v := 34) (by decide) dX12_sort_77 rfl ?_
    refine J_icmp_ge (nx := 82) (tgt := 100) dX12_sort_79 rfl (by decide) (fun c_79 => ?_) (fun c_79 => ?_)
    · refine J_aload_n (nx := 101) dX12_sort_100 rfl rfl ?_
      refine Jg_63_1 (nx := 104) dX12_sort_101 rfl fl_X12_13 ?_
      refine J_iload_n (nx := 105) dX12_sort_104 rfl rfl ?_
      refine J_iconst (nx := 106) (i := 0) (v := 0) (by decide) dX12_sort_105 rfl ?_
      refine JcS2 (R' := rm (0) 0 0) (nx := 109) dX12_sort_106 rfl ml_X12_sortAt lk_X12_282 st_X12_sortAt ⟨(Nat.le_of_ble_eq_true rfl), (Nat.le_of_ble_eq_true rfl)⟩ (Nat.le_of_ble_eq_true rfl) ⟨rfl, rfl⟩ (ct_m_sortAt _ (q) (0)) ?_
      refine J_iload_n (nx := 110) dX12_sort_109 rfl rfl ?_
      refine Jt_64 (nx := 111) dX12_sort_110 rfl (vpE (n := (1106 + 34 * q + 0)) (Eq.refl (nI ((1106 + 34 * q + 0)))) (by omega) (by decide)) ?_
      rw [clE (n := (1106 + 34 * q + 0)) (Eq.refl (nI ((1106 + 34 * q + 0)))) (by omega)]
      refine J.gen (fun g_110 hg_110 => ?_)
      refine J_aload_n (nx := 112) dX12_sort_111 rfl rfl ?_
      refine Jg_63_1 (nx := 115) dX12_sort_112 rfl fl_X12_13 ?_
      refine J_iload_n (nx := 116) dX12_sort_115 rfl rfl ?_
      refine J_iconst (nx := 117) (i := 1) (v := 1) (by decide) dX12_sort_116 rfl ?_
      refine JcS2 (R' := rm (0) 0 0) (nx := 120) dX12_sort_117 rfl ml_X12_sortAt lk_X12_282 st_X12_sortAt ⟨(Nat.le_of_ble_eq_true rfl), (Nat.le_of_ble_eq_true rfl)⟩ (Nat.le_of_ble_eq_true rfl) ⟨rfl, rfl⟩ (ct_m_sortAt _ (q) (1)) ?_
      refine J_iload_n (nx := 121) dX12_sort_120 rfl rfl ?_
      refine Jt_64 (nx := 122) dX12_sort_121 rfl (vpE (n := (1106 + 34 * q + 1)) (Eq.refl (nI ((1106 + 34 * q + 1)))) (by omega) (by decide)) ?_
      rw [clE (n := (1106 + 34 * q + 1)) (Eq.refl (nI ((1106 + 34 * q + 1)))) (by omega)]
      refine J.gen (fun g_121 hg_121 => ?_)
      refine J_aload_n (nx := 123) dX12_sort_122 rfl rfl ?_
      refine Jg_63_1 (nx := 126) dX12_sort_123 rfl fl_X12_13 ?_
      refine J_iconst (nx := 127) (i := 2) (v := 2) (by decide) dX12_sort_126 rfl ?_
      refine J_dup2 (nx := 128) rfl rfl dX12_sort_127 rfl ?_
      refine Ja_64 (nx := 129) dX12_sort_128 rfl (vpE (n := 2) (nIc 2) (by omega) (by decide)) ?_
      rw [clE (n := 2) (nIc 2) (by omega)]
      refine J_iconst (nx := 130) (i := 1) (v := 1) (by decide) dX12_sort_129 rfl ?_
      refine J_iadd (nx := 131) dX12_sort_130 rfl ?_
      refine Jt_64 (nx := 132) dX12_sort_131 rfl (vpE (n := 2) (nIc 2) (by omega) (by decide)) ?_
      rw [clE (n := 2) (nIc 2) (by omega)]
      refine J.gen (fun g_131 hg_131 => ?_)
      refine J_iload_n (nx := 133) dX12_sort_132 rfl rfl ?_
      have e2 : gA g_121 64 2 = nI q := by
        have h1 : g_121 = soG q c f g0 := by rw [hg_121, hg_110, ← show itU (soZ q) 34 0 g0 = g from hr]; rfl
        rw [h1, soG_2, h2]
      have h1 : g_121 = soG q c f g0 := by rw [hg_121, hg_110, ← show itU (soZ q) 34 0 g0 = g from hr]; rfl
      exact Jri dX12_sort_133 rfl (Nat.zero_le _) (Nat.zero_le _) (RXi.of ⟨rfl, by rw [hg_131, h1, soG_2, h2]; rfl⟩)
    · exact absurd (show nI 34 ≤ nI i from by rw [show i = 34 by omega]; exact le_self_nI) c_79
  | succ k ih =>
    intro i g hk hr
    refine J_iload (nx := 77) dX12_sort_75 rfl rfl ?_
    refine J_bipush (nx := 79) (i := 34) (v := 34) (by decide) dX12_sort_77 rfl ?_
    refine J_icmp_ge (nx := 82) (tgt := 100) dX12_sort_79 rfl (by decide) (fun c_79 => ?_) (fun c_79 => ?_)
    · exact absurd c_79 (nlt_nI (n := 34) (by omega) (by omega))
    · have hi : i < 34 := by omega
      refine J_aload_n (nx := 83) dX12_sort_82 rfl rfl ?_
      refine Jg_63_1 (nx := 86) dX12_sort_83 rfl fl_X12_13 ?_
      refine J_iload_n (nx := 87) dX12_sort_86 rfl rfl ?_
      refine J_iload (nx := 89) dX12_sort_87 rfl rfl ?_
      refine JcS2 (R' := rm (0) 0 0) (nx := 92) dX12_sort_89 rfl ml_X12_sortAt lk_X12_282 st_X12_sortAt ⟨(Nat.le_of_ble_eq_true rfl), (Nat.le_of_ble_eq_true rfl)⟩ (Nat.le_of_ble_eq_true rfl) ⟨rfl, rfl⟩ (ct_m_sortAt _ (q) (i)) ?_
      refine J_iconst (nx := 93) (i := 0) (v := 0) (by decide) dX12_sort_92 rfl ?_
      refine Jt_64 (nx := 94) dX12_sort_93 rfl (vpE (n := (1106 + 34 * q + i)) (Eq.refl (nI ((1106 + 34 * q + i)))) (by omega) (by decide)) ?_
      rw [clE (n := (1106 + 34 * q + i)) (Eq.refl (nI ((1106 + 34 * q + i)))) (by omega)]
      refine J.gen (fun g_93 hg_93 => ?_)
      refine J_iinc (nx := 97) dX12_sort_94 rfl rfl rfl (Nat.le_of_ble_eq_true rfl) ?_
      refine J_goto (nx := 75) dX12_sort_97 (by decide) ?_
      rw [show (nI (i) + Int32.ofInt 1) = nI (i + 1) from (show nI (i) + Int32.ofInt 1 = nI (i + 1) from nI_add (i) 1)]
      exact ih (i + 1) g_93 (by omega) (hr.trans (by rw [hg_93]; rfl))

set_option maxRecDepth 100000 in
set_option maxHeartbeats 4000000 in
theorem ct_m_sort (g : GS) (gl : List TxL) (rl : Nat → List TxL) (hM : MOK (gA g 64) gl rl) (c : Int32) (f : Int32) : Ct mX12_sort (rm 2 0 0) [.ref 63, .int c, .int f] (Wd g) (PQi g [(fIn c 0 9999 && fIn f 0 100, 1), ((!(decide (gA g 64 2 = 6))), 2)] (fun x g2 => x = nI (mN (gA g 64)) ∧ g2 = wU (soG (mN (gA g 64)) c f (sF g 63 0 0)) 2 (nI (mN (gA g 64)) + 1))) := by
  have hM2 := hM
  obtain ⟨⟨hG10, hG⟩, ⟨hT1, hT60, hT⟩, ⟨hR4, hR, hrl⟩, ⟨hN6, hN⟩, hgl, hgk⟩ := hM2
  refine Ct.of (by decide +kernel) (Nat.le_of_ble_eq_true rfl) ?_
  show J _ _ _ _ 0 [some (.ref 63), some (.int c), some (.int f), none, none] [] _ 0 0
  refine J_aload_n (nx := 1) dX12_sort_0 rfl rfl ?_
  refine J_iconst (nx := 2) (i := 0) (v := 0) (by decide) dX12_sort_1 rfl ?_
  refine Jp_63_0 (nx := 5) dX12_sort_2 rfl fl_X12_3 ?_
  refine J_aload_n (nx := 6) dX12_sort_5 rfl rfl ?_
  refine J_iload_n (nx := 7) dX12_sort_6 rfl rfl ?_
  refine J_iconst (nx := 8) (i := 0) (v := 0) (by decide) dX12_sort_7 rfl ?_
  refine J_sipush (nx := 11) (i := 9999) (v := 9999) (by decide) dX12_sort_8 rfl ?_
  refine JcS3 (R' := rm (0) 0 0) (nx := 14) dX12_sort_11 rfl ml_X12_in lk_X12_77 st_X12_in ⟨(Nat.le_of_ble_eq_true rfl), (Nat.le_of_ble_eq_true rfl)⟩ (Nat.le_of_ble_eq_true rfl) ⟨rfl, rfl⟩ (ct_m_in _ _ _ _) ?_
  refine J_if_eq (nx := 17) (tgt := 27) dX12_sort_14 rfl (by decide) (fun c_14 => ?_) (fun c_14 => ?_)
  · refine J_iconst (nx := 28) (i := 1) (v := 1) (by decide) dX12_sort_27 rfl ?_
    refine J_goto (nx := 32) dX12_sort_28 (by decide) ?_
    refine J_iconst (nx := 33) (i := 1) (v := 1) (by decide) dX12_sort_32 rfl ?_
    refine J_thr (b := true) (nx := 36) dX12_sort_33 rfl lk_X12_237 ⟨(Nat.le_of_ble_eq_true rfl), (Nat.le_of_ble_eq_true rfl)⟩ (Nat.le_of_ble_eq_true rfl) (fun b_33 => ?_) (fun b_33 => ?_)
    · refine J_if_ne (nx := 39) (tgt := 63) dX12_sort_36 rfl (by decide) (fun c_36 => ?_) (fun c_36 => ?_)
      · refine J_iconst (nx := 64) (i := 0) (v := 0) (by decide) dX12_sort_63 rfl ?_
        exact Jri dX12_sort_64 rfl (Nat.zero_le _) (Nat.zero_le _) (RXi.of (Or.inl ⟨_, (by simp only [bI_is0, bI_is1, Bool.not_eq_true', Bool.not_eq_false'] at c_14; simp only [mxC, c_14, decide_true, decide_false, Bool.not_true, Bool.not_false, Bool.true_or, Bool.false_or, Bool.and_true, Bool.true_and, Bool.false_and, Bool.and_false, cond_true, cond_false]), rfl, rfl⟩))
      · exact absurd c_36 (by decide)
    · exact absurd b_33 (by decide)
  · refine J_iload_n (nx := 18) dX12_sort_17 rfl rfl ?_
    refine J_iconst (nx := 19) (i := 0) (v := 0) (by decide) dX12_sort_18 rfl ?_
    refine J_bipush (nx := 21) (i := 100) (v := 100) (by decide) dX12_sort_19 rfl ?_
    refine JcS3 (R' := rm (0) 0 0) (nx := 24) dX12_sort_21 rfl ml_X12_in lk_X12_77 st_X12_in ⟨(Nat.le_of_ble_eq_true rfl), (Nat.le_of_ble_eq_true rfl)⟩ (Nat.le_of_ble_eq_true rfl) ⟨rfl, rfl⟩ (ct_m_in _ _ _ _) ?_
    refine J_if_ne (nx := 27) (tgt := 31) dX12_sort_24 rfl (by decide) (fun c_24 => ?_) (fun c_24 => ?_)
    · refine J_iconst (nx := 32) (i := 0) (v := 0) (by decide) dX12_sort_31 rfl ?_
      refine J_iconst (nx := 33) (i := 1) (v := 1) (by decide) dX12_sort_32 rfl ?_
      refine J_thr (b := false) (nx := 36) dX12_sort_33 rfl lk_X12_237 ⟨(Nat.le_of_ble_eq_true rfl), (Nat.le_of_ble_eq_true rfl)⟩ (Nat.le_of_ble_eq_true rfl) (fun b_33 => ?_) (fun b_33 => ?_)
      · exact absurd b_33 (by decide)
      · refine J_if_ne (nx := 39) (tgt := 63) dX12_sort_36 rfl (by decide) (fun c_36 => ?_) (fun c_36 => ?_)
        · exact absurd c_36 (by decide)
        · refine J_aload_n (nx := 40) dX12_sort_39 rfl rfl ?_
          refine J_aload_n (nx := 41) dX12_sort_40 rfl rfl ?_
          refine Jg_63_1 (nx := 44) dX12_sort_41 rfl fl_X12_13 ?_
          refine J_iconst (nx := 45) (i := 2) (v := 2) (by decide) dX12_sort_44 rfl ?_
          refine Ja_64 (nx := 46) dX12_sort_45 rfl (vpE (n := 2) (nIc 2) (by omega) (by decide)) ?_
          rw [clE (n := 2) (nIc 2) (by omega)]
          rw [show gA (sF g 63 0 0) 64 2 = gA g 64 2 from rfl]
          refine J_bipush (nx := 48) (i := 6) (v := 6) (by decide) dX12_sort_46 rfl ?_
          refine J_icmp_ne (nx := 51) (tgt := 55) dX12_sort_48 rfl (by decide) (fun c_48 => ?_) (fun c_48 => ?_)
          · refine J_iconst (nx := 56) (i := 0) (v := 0) (by decide) dX12_sort_55 rfl ?_
            refine J_iconst (nx := 57) (i := 2) (v := 2) (by decide) dX12_sort_56 rfl ?_
            refine J_thr (b := false) (nx := 60) dX12_sort_57 rfl lk_X12_237 ⟨(Nat.le_of_ble_eq_true rfl), (Nat.le_of_ble_eq_true rfl)⟩ (Nat.le_of_ble_eq_true rfl) (fun b_57 => ?_) (fun b_57 => ?_)
            · exact absurd b_57 (by decide)
            · refine J_if_eq (nx := 63) (tgt := 65) dX12_sort_60 rfl (by decide) (fun c_60 => ?_) (fun c_60 => ?_)
              · have HC : mxC [(fIn c 0 9999 && fIn f 0 100, 1), ((!(decide (gA g 64 2 = 6))), 2)] = none := (by simp only [bI_is0, bI_is1, Bool.not_eq_true', Bool.not_eq_false'] at c_14 c_24 c_48; simp only [mxC, c_14, c_24, c_48, decide_true, decide_false, Bool.not_true, Bool.not_false, Bool.true_or, Bool.false_or, Bool.and_true, Bool.true_and, Bool.false_and, Bool.and_false, cond_true, cond_false])
                have HG0 := HC
                obtain ⟨hk0, HG1⟩ := gd HG0
                simp only [Bool.and_eq_true] at hk0
                obtain ⟨hk0_0, hk0_1⟩ := hk0
                obtain ⟨hk1, HG2⟩ := gd HG1
                have hk1_0 := hk1
                refine J_aload_n (nx := 66) dX12_sort_65 rfl rfl ?_
                refine Jg_63_1 (nx := 69) dX12_sort_66 rfl fl_X12_13 ?_
                refine J_iconst (nx := 70) (i := 2) (v := 2) (by decide) dX12_sort_69 rfl ?_
                refine Ja_64 (nx := 71) dX12_sort_70 rfl (vpE (n := 2) (nIc 2) (by omega) (by decide)) ?_
                rw [clE (n := 2) (nIc 2) (by omega)]
                rw [show gA (sF g 63 0 0) 64 2 = nI (mN (gA g 64)) from hN]
                refine J_istore_n (nx := 72) dX12_sort_71 rfl rfl (Nat.le_of_ble_eq_true rfl) ?_
                refine J_iconst (nx := 73) (i := 0) (v := 0) (by decide) dX12_sort_72 rfl ?_
                refine J_istore (nx := 75) dX12_sort_73 rfl rfl (Nat.le_of_ble_eq_true rfl) ?_
                have hN5 : mN (gA g 64) < 6 := by
                  have h1 : ¬ gA g 64 2 = 6 := by
                    have h3 := hk1_0
                    intro h4
                    rw [h4] at h3
                    exact absurd h3 (by decide)
                  have h2 : mN (gA g 64) ≠ 6 := fun h => h1 (by rw [hN, h]; rfl)
                  omega
                refine J.post (lp_m_sort (sF g 63 0 0) (mN (gA g 64)) hN5 hN c f _ 34 0 (sF g 63 0 0) rfl rfl) (fun r es h => ?_)
                obtain ⟨x, g2, hr, he, hx, hf⟩ := h
                exact ⟨x, g2, hr, he, Or.inr ⟨HC, hx, hf⟩⟩
              · exact absurd c_60 (by decide)
          · refine J_iconst (nx := 52) (i := 1) (v := 1) (by decide) dX12_sort_51 rfl ?_
            refine J_goto (nx := 56) dX12_sort_52 (by decide) ?_
            refine J_iconst (nx := 57) (i := 2) (v := 2) (by decide) dX12_sort_56 rfl ?_
            refine J_thr (b := true) (nx := 60) dX12_sort_57 rfl lk_X12_237 ⟨(Nat.le_of_ble_eq_true rfl), (Nat.le_of_ble_eq_true rfl)⟩ (Nat.le_of_ble_eq_true rfl) (fun b_57 => ?_) (fun b_57 => ?_)
            · refine J_if_eq (nx := 63) (tgt := 65) dX12_sort_60 rfl (by decide) (fun c_60 => ?_) (fun c_60 => ?_)
              · exact absurd c_60 (by decide)
              · refine J_iconst (nx := 64) (i := 0) (v := 0) (by decide) dX12_sort_63 rfl ?_
                exact Jri dX12_sort_64 rfl (Nat.zero_le _) (Nat.zero_le _) (RXi.of (Or.inl ⟨_, (by simp only [bI_is0, bI_is1, Bool.not_eq_true', Bool.not_eq_false'] at c_14 c_24 c_48; simp only [mxC, c_14, c_24, c_48, decide_true, decide_false, Bool.not_true, Bool.not_false, Bool.true_or, Bool.false_or, Bool.and_true, Bool.true_and, Bool.false_and, Bool.and_false, cond_true, cond_false]), rfl, rfl⟩))
            · exact absurd b_57 (by decide)
    · refine J_iconst (nx := 28) (i := 1) (v := 1) (by decide) dX12_sort_27 rfl ?_
      refine J_goto (nx := 32) dX12_sort_28 (by decide) ?_
      refine J_iconst (nx := 33) (i := 1) (v := 1) (by decide) dX12_sort_32 rfl ?_
      refine J_thr (b := true) (nx := 36) dX12_sort_33 rfl lk_X12_237 ⟨(Nat.le_of_ble_eq_true rfl), (Nat.le_of_ble_eq_true rfl)⟩ (Nat.le_of_ble_eq_true rfl) (fun b_33 => ?_) (fun b_33 => ?_)
      · refine J_if_ne (nx := 39) (tgt := 63) dX12_sort_36 rfl (by decide) (fun c_36 => ?_) (fun c_36 => ?_)
        · refine J_iconst (nx := 64) (i := 0) (v := 0) (by decide) dX12_sort_63 rfl ?_
          exact Jri dX12_sort_64 rfl (Nat.zero_le _) (Nat.zero_le _) (RXi.of (Or.inl ⟨_, (by simp only [bI_is0, bI_is1, Bool.not_eq_true', Bool.not_eq_false'] at c_14 c_24; simp only [mxC, c_14, c_24, decide_true, decide_false, Bool.not_true, Bool.not_false, Bool.true_or, Bool.false_or, Bool.and_true, Bool.true_and, Bool.false_and, Bool.and_false, cond_true, cond_false]), rfl, rfl⟩))
        · exact absurd c_36 (by decide)
      · exact absurd b_33 (by decide)

def mnT (W : Nat → Int32) (gl : List TxL) (rl : Nat → List TxL) (jd b what : Int32) (n : Nat) : Int64 :=
  (W (1106 + 34 * (n / 32) + (2 + n % 32))).toInt64 * eW W (ja (mJP W gl rl (W 6) (n / 32) (n % 32 / 4) (wTo W (n / 32)) jd b (mG W))) what (mT W) (mT W) (n % 32)
set_option maxRecDepth 100000 in
set_option maxHeartbeats 4000000 in
theorem lp_m_mn1 (Q : Res → List ME → Prop) (g : GS) (W : Nat → Int32) (gl : List TxL) (rl : Nat → List TxL) (jd b what : Int32) (hW : gA g 64 = W) (q z : Nat) (hq : q < 6) (hz : z < 8) (hA : ∀ s, s < 32 → gB g 79 s = eW W (ja (mJP W gl rl (W 6) q z (wTo W q) jd b (mG W))) what (mT W) (mT W) s) (n0 : Nat) : ∀ (k : Nat) (i : Nat), i + k = 4 → J mX12_mean (rm 6 0 0) Q n0 149 [some (.ref 63), some (.int jd), some (.int b), some (.int what), some (.long (acL 0 (mnT W gl rl jd b what) (32 * q + (4 * z + 4)))), none, some (.int (nI (q))), some (.int (nI (z))), some (.int (nI (4 * z + 4)))] [] (Wd g) 0 0 → J mX12_mean (rm 6 0 0) (Q) n0 104 [some (.ref 63), some (.int jd), some (.int b), some (.int what), some (.long (acL 0 (mnT W gl rl jd b what) (32 * q + (4 * z + i)))), none, some (.int (nI (q))), some (.int (nI (z))), some (.int (nI (4 * z + i)))] [] (Wd g) 0 0 := by
  intro k
  induction k with
  | zero =>
    intro i hk hK
    refine J_iload (nx := 106) dX12_mean_104 rfl rfl ?_
    refine J_iconst (nx := 107) (i := 4) (v := 4) (by decide) dX12_mean_106 rfl ?_
    refine J_iload (nx := 109) dX12_mean_107 rfl rfl ?_
    refine J_imul (nx := 110) dX12_mean_109 rfl ?_
    refine J_iconst (nx := 111) (i := 4) (v := 4) (by decide) dX12_mean_110 rfl ?_
    refine J_iadd (nx := 112) dX12_mean_111 rfl ?_
    rw [show (((4 : Int32) * nI (z)) + (4 : Int32)) = nI (((4 * z) + 4)) from (nIa (nIm (nIc 4) (Eq.refl (nI (z)))) (nIc 4))]
    refine J_icmp_ge (nx := 115) (tgt := 149) dX12_mean_112 rfl (by decide) (fun c_112 => ?_) (fun c_112 => ?_)
    · obtain rfl : i = 4 := by omega
      exact hK
    · exact absurd (show nI (4 * z + 4) ≤ nI (4 * z + i) from by rw [show i = 4 by omega]; exact le_self_nI) c_112
  | succ k ih =>
    intro i hk hK
    refine J_iload (nx := 106) dX12_mean_104 rfl rfl ?_
    refine J_iconst (nx := 107) (i := 4) (v := 4) (by decide) dX12_mean_106 rfl ?_
    refine J_iload (nx := 109) dX12_mean_107 rfl rfl ?_
    refine J_imul (nx := 110) dX12_mean_109 rfl ?_
    refine J_iconst (nx := 111) (i := 4) (v := 4) (by decide) dX12_mean_110 rfl ?_
    refine J_iadd (nx := 112) dX12_mean_111 rfl ?_
    rw [show (((4 : Int32) * nI (z)) + (4 : Int32)) = nI (((4 * z) + 4)) from (nIa (nIm (nIc 4) (Eq.refl (nI (z)))) (nIc 4))]
    refine J_icmp_ge (nx := 115) (tgt := 149) dX12_mean_112 rfl (by decide) (fun c_112 => ?_) (fun c_112 => ?_)
    · exact absurd c_112 (nI_le4 (by omega) hz)
    · have hi : i < 4 := by omega
      refine J_lload (nx := 117) dX12_mean_115 rfl rfl ?_
      refine J_aload_n (nx := 118) dX12_mean_117 rfl rfl ?_
      refine Jg_63_1 (nx := 121) dX12_mean_118 rfl fl_X12_13 ?_
      refine J_iload (nx := 123) dX12_mean_121 rfl rfl ?_
      refine J_iconst (nx := 124) (i := 2) (v := 2) (by decide) dX12_mean_123 rfl ?_
      refine J_iload (nx := 126) dX12_mean_124 rfl rfl ?_
      refine J_iadd (nx := 127) dX12_mean_126 rfl ?_
      rw [show ((2 : Int32) + nI ((4 * z + i))) = nI ((2 + (4 * z + i))) from (nIa (nIc 2) (Eq.refl (nI ((4 * z + i)))))]
      refine JcS2 (R' := rm (0) 0 0) (nx := 130) dX12_mean_127 rfl ml_X12_sortAt lk_X12_282 st_X12_sortAt ⟨(Nat.le_of_ble_eq_true rfl), (Nat.le_of_ble_eq_true rfl)⟩ (Nat.le_of_ble_eq_true rfl) ⟨rfl, rfl⟩ (ct_m_sortAt _ (q) ((2 + (4 * z + i)))) ?_
      refine Ja_64 (nx := 131) dX12_mean_130 rfl (vpE (n := (1106 + 34 * q + (2 + (4 * z + i)))) (Eq.refl (nI ((1106 + 34 * q + (2 + (4 * z + i)))))) (by omega) (by decide)) ?_
      rw [clE (n := (1106 + 34 * q + (2 + (4 * z + i)))) (Eq.refl (nI ((1106 + 34 * q + (2 + (4 * z + i)))))) (by omega)]
      refine J_i2l (nx := 132) dX12_mean_131 rfl ?_
      refine J_aload_n (nx := 133) dX12_mean_132 rfl rfl ?_
      refine Jg_63_33 (nx := 136) dX12_mean_133 rfl fl_X12_64 ?_
      refine J_iload (nx := 138) dX12_mean_136 rfl rfl ?_
      refine Ja_79 (nx := 139) dX12_mean_138 rfl (vpE (n := (4 * z + i)) (Eq.refl (nI ((4 * z + i)))) (by omega) (by decide)) ?_
      rw [clE (n := (4 * z + i)) (Eq.refl (nI ((4 * z + i)))) (by omega)]
      refine J_lmul (nx := 140) dX12_mean_139 rfl ?_
      refine J_ladd (nx := 141) dX12_mean_140 rfl ?_
      refine J_lstore (nx := 143) dX12_mean_141 rfl rfl (Nat.le_of_ble_eq_true rfl) ?_
      refine J_iinc (nx := 146) dX12_mean_143 rfl rfl rfl (Nat.le_of_ble_eq_true rfl) ?_
      refine J_goto (nx := 104) dX12_mean_146 (by decide) ?_
      rw [show (nI ((4 * z + i)) + Int32.ofInt 1) = nI (4 * z + (i + 1)) from (show nI ((4 * z + i)) + Int32.ofInt 1 = nI ((4 * z + i) + 1) from nI_add ((4 * z + i)) 1)]
      refine J.lv (fun v => [some (.ref 63), some (.int jd), some (.int b), some (.int what), some (.long (v)), none, some (.int (nI (q))), some (.int (nI (z))), some (.int (nI (4 * z + (i + 1))))]) ?_ (ih (i + 1) (by omega) hK)
      refine congrArg (acL 0 (mnT W gl rl jd b what) (32 * q + (4 * z + i)) + ·) ?_
      show _ = mnT W gl rl jd b what (32 * q + (4 * z + i))
      unfold mnT
      rw [show (32 * q + (4 * z + i)) / 32 = q by omega, show (32 * q + (4 * z + i)) % 32 = 4 * z + i by omega, show (4 * z + i) / 4 = z by omega, ← hA (4 * z + i) (by omega), show gA g 64 = W from hW]

set_option maxRecDepth 100000 in
set_option maxHeartbeats 4000000 in
theorem lp_m_mn2 (Q : Res → List ME → Prop) (g0 : GS) (W : Nat → Int32) (gl : List TxL) (rl : Nat → List TxL) (jd b what : Int32) (hW0 : gA g0 64 = W) (hM : MOK W gl rl) (hkd : KOK W rl) (hjd : jdOK W jd) (q : Nat) (hq : q < 6) (n0 : Nat) : ∀ (k : Nat) (z : Nat) (g : GS), z + k = 8 → Fr fA aQ g0 g → (∀ g, Fr fA aQ g0 g → J mX12_mean (rm 6 0 0) Q n0 155 [some (.ref 63), some (.int jd), some (.int b), some (.int what), some (.long (acL 0 (mnT W gl rl jd b what) (32 * q + 32))), none, some (.int (nI (q))), some (.int (nI 8)), none] [] (Wd g) 0 0) → J mX12_mean (rm 6 0 0) (Q) n0 76 [some (.ref 63), some (.int jd), some (.int b), some (.int what), some (.long (acL 0 (mnT W gl rl jd b what) (32 * q + 4 * z))), none, some (.int (nI (q))), some (.int (nI (z))), none] [] (Wd g) 0 0 := by
  intro k
  induction k with
  | zero =>
    intro z g hk hfr hK
    refine J_iload (nx := 78) dX12_mean_76 rfl rfl ?_
    refine J_bipush (nx := 80) (i := 8) (v := 8) (by decide) dX12_mean_78 rfl ?_
    refine J_icmp_ge (nx := 83) (tgt := 155) dX12_mean_80 rfl (by decide) (fun c_80 => ?_) (fun c_80 => ?_)
    · obtain rfl : z = 8 := by omega
      exact hK g hfr
    · exact absurd (show nI 8 ≤ nI z from by rw [show z = 8 by omega]; exact le_self_nI) c_80
  | succ k ih =>
    intro z g hk hfr hK
    have hM2 := hM
    obtain ⟨⟨hG10, hG⟩, ⟨hT1, hT60, hT⟩, ⟨hR4, hR, hrl⟩, ⟨hN6, hN⟩, hgl, hgk⟩ := hM2
    refine J_iload (nx := 78) dX12_mean_76 rfl rfl ?_
    refine J_bipush (nx := 80) (i := 8) (v := 8) (by decide) dX12_mean_78 rfl ?_
    refine J_icmp_ge (nx := 83) (tgt := 155) dX12_mean_80 rfl (by decide) (fun c_80 => ?_) (fun c_80 => ?_)
    · exact absurd c_80 (nlt_nI (n := 8) (by omega) (by omega))
    · have hz : z < 8 := by omega
      refine J_aload_n (nx := 84) dX12_mean_83 rfl rfl ?_
      refine J_iload_n (nx := 85) dX12_mean_84 rfl rfl ?_
      refine J_iload_n (nx := 86) dX12_mean_85 rfl rfl ?_
      refine J_iload (nx := 88) dX12_mean_86 rfl rfl ?_
      refine J_iload (nx := 90) dX12_mean_88 rfl rfl ?_
      refine JvV4 (R' := rm (5) 0 0) (nx := 93) dX12_mean_90 rfl ml_X12_asks lk_X12_347 iv_X12_asks rfl rfl ⟨(Nat.le_of_ble_eq_true rfl), (Nat.le_of_ble_eq_true rfl)⟩ (Nat.le_of_ble_eq_true rfl) ⟨rfl, rfl⟩ (ct_m_asks g W gl rl ((hfr.2.1 64 rfl).trans hW0) hM jd b q z hq hz hjd) (fun g_90 p_90 => ?_)
      refine J_aload_n (nx := 94) dX12_mean_93 rfl rfl ?_
      refine J_iload_n (nx := 95) dX12_mean_94 rfl rfl ?_
      refine JvV1 (R' := rm (4) 0 0) (nx := 98) dX12_mean_95 rfl ml_X12_tellsEnds lk_X12_395 iv_X12_tellsEnds rfl rfl ⟨(Nat.le_of_ble_eq_true rfl), (Nat.le_of_ble_eq_true rfl)⟩ (Nat.le_of_ble_eq_true rfl) ⟨rfl, rfl⟩ (ct_m_tellsEnds g_90 W (mT W) (mG W) hT hT60 hG hG10 (ja (mJP W gl rl (W 6) q z (wTo W q) jd b (mG W))) (jA_end hM hjd hkd) what p_90.2.1.1 (fun j s hj hs => p_90.2.a hj hs)) (fun g_95 p_95 => ?_)
      refine J_iconst (nx := 99) (i := 4) (v := 4) (by decide) dX12_mean_98 rfl ?_
      refine J_iload (nx := 101) dX12_mean_99 rfl rfl ?_
      refine J_imul (nx := 102) dX12_mean_101 rfl ?_
      rw [show ((4 : Int32) * nI (z)) = nI ((4 * z)) from (nIm (nIc 4) (Eq.refl (nI (z))))]
      refine J_istore (nx := 104) dX12_mean_102 rfl rfl (Nat.le_of_ble_eq_true rfl) ?_
      rw [show nI ((4 * z)) = nI (4 * z + 0) from (Eq.refl (nI ((4 * z))))]
      refine lp_m_mn1 _ g_95 W gl rl jd b what ((p_95.1.2.1 64 rfl).trans p_90.2.1.1) q z hq hz p_95.2 n0 4 0 rfl ?_
      refine J_iinc (nx := 152) dX12_mean_149 rfl rfl rfl (Nat.le_of_ble_eq_true rfl) ?_
      refine J_goto (nx := 76) dX12_mean_152 (by decide) ?_
      refine J_kill (nx := 0) 8 ?_
      rw [show (nI (z) + Int32.ofInt 1) = nI (z + 1) from (show nI (z) + Int32.ofInt 1 = nI (z + 1) from nI_add (z) 1)]
      exact ih (z + 1) g_95 (by omega) ((hfr.tr p_90.1).tr (p_95.1.mono fA_0 aQ_789)) hK

set_option maxRecDepth 100000 in
set_option maxHeartbeats 4000000 in
theorem lp_m_mn3 (g0 : GS) (W : Nat → Int32) (gl : List TxL) (rl : Nat → List TxL) (jd b what : Int32) (hW0 : gA g0 64 = W) (hM : MOK W gl rl) (hkd : KOK W rl) (hjd : jdOK W jd) (n0 : Nat) : ∀ (k : Nat) (q : Nat) (g : GS), q + k = mN W → Fr fA aQ g0 g → J mX12_mean (rm 6 0 0) (RXl (fun x g2 => x = acL 0 (mnT W gl rl jd b what) (32 * mN W) ∧ Fr fA aQ g0 g2)) n0 62 [some (.ref 63), some (.int jd), some (.int b), some (.int what), some (.long (acL 0 (mnT W gl rl jd b what) (32 * q))), none, some (.int (nI (q))), none, none] [] (Wd g) 0 0 := by
  intro k
  induction k with
  | zero =>
    intro q g hk hfr
    have hM2 := hM
    obtain ⟨⟨hG10, hG⟩, ⟨hT1, hT60, hT⟩, ⟨hR4, hR, hrl⟩, ⟨hN6, hN⟩, hgl, hgk⟩ := hM2
    refine J_iload (nx := 64) dX12_mean_62 rfl rfl ?_
    refine J_aload_n (nx := 65) dX12_mean_64 rfl rfl ?_
    refine Jg_63_1 (nx := 68) dX12_mean_65 rfl fl_X12_13 ?_
    refine J_iconst (nx := 69) (i := 2) (v := 2) (by decide) dX12_mean_68 rfl ?_
    refine Ja_64 (nx := 70) dX12_mean_69 rfl (vpE (n := 2) (nIc 2) (by omega) (by decide)) ?_
    rw [clE (n := 2) (nIc 2) (by omega)]
    rw [show gA g 64 2 = nI (mN W) from (congrFun ((hfr.2.1 64 rfl).trans hW0) 2).trans hN]
    refine J_icmp_ge (nx := 73) (tgt := 161) dX12_mean_70 rfl (by decide) (fun c_70 => ?_) (fun c_70 => ?_)
    · refine J_lload (nx := 163) dX12_mean_161 rfl rfl ?_
      exact Jrl dX12_mean_163 rfl (Nat.zero_le _) (Nat.zero_le _) (RXl.of ⟨by rw [show q = mN W by omega], hfr⟩)
    · exact absurd (show nI (mN W) ≤ nI q from by rw [show q = mN W by omega]; exact le_self_nI) c_70
  | succ k ih =>
    intro q g hk hfr
    have hM2 := hM
    obtain ⟨⟨hG10, hG⟩, ⟨hT1, hT60, hT⟩, ⟨hR4, hR, hrl⟩, ⟨hN6, hN⟩, hgl, hgk⟩ := hM2
    refine J_iload (nx := 64) dX12_mean_62 rfl rfl ?_
    refine J_aload_n (nx := 65) dX12_mean_64 rfl rfl ?_
    refine Jg_63_1 (nx := 68) dX12_mean_65 rfl fl_X12_13 ?_
    refine J_iconst (nx := 69) (i := 2) (v := 2) (by decide) dX12_mean_68 rfl ?_
    refine Ja_64 (nx := 70) dX12_mean_69 rfl (vpE (n := 2) (nIc 2) (by omega) (by decide)) ?_
    rw [clE (n := 2) (nIc 2) (by omega)]
    rw [show gA g 64 2 = nI (mN W) from (congrFun ((hfr.2.1 64 rfl).trans hW0) 2).trans hN]
    refine J_icmp_ge (nx := 73) (tgt := 161) dX12_mean_70 rfl (by decide) (fun c_70 => ?_) (fun c_70 => ?_)
    · exact absurd c_70 (nlt_nI (n := mN W) (by omega) (by omega))
    · refine J_iconst (nx := 74) (i := 0) (v := 0) (by decide) dX12_mean_73 rfl ?_
      refine J_istore (nx := 76) dX12_mean_74 rfl rfl (Nat.le_of_ble_eq_true rfl) ?_
      refine lp_m_mn2 _ g0 W gl rl jd b what hW0 hM hkd hjd q (by omega) n0 8 0 g rfl hfr (fun g hfr => ?_)
      refine J_iinc (nx := 158) dX12_mean_155 rfl rfl rfl (Nat.le_of_ble_eq_true rfl) ?_
      refine J_goto (nx := 62) dX12_mean_158 (by decide) ?_
      refine J_kill (nx := 0) 7 ?_
      rw [show (nI (q) + Int32.ofInt 1) = nI (q + 1) from (show nI (q) + Int32.ofInt 1 = nI (q + 1) from nI_add (q) 1)]
      exact ih (q + 1) g (by omega) hfr

set_option maxRecDepth 100000 in
set_option maxHeartbeats 4000000 in
theorem ct_m_mean (g : GS) (gl : List TxL) (rl : Nat → List TxL) (hM : MOK (gA g 64) gl rl) (hkd : KOK (gA g 64) rl) (jd : Int32) (b : Int32) (what : Int32) : Ct mX12_mean (rm 6 0 0) [.ref 63, .int jd, .int b, .int what] (Wd g) (PQl g [(wMj (gA g 64) jd, 1), (fMb jd b, 2), (fIn what 0 2, 3)] (fun x g2 => x = acL 0 (mnT (gA g 64) gl rl jd b what) (32 * mN (gA g 64)) ∧ QF g g2)) := by
  have hM2 := hM
  obtain ⟨⟨hG10, hG⟩, ⟨hT1, hT60, hT⟩, ⟨hR4, hR, hrl⟩, ⟨hN6, hN⟩, hgl, hgk⟩ := hM2
  refine Ct.of (by decide +kernel) (Nat.le_of_ble_eq_true rfl) ?_
  show J _ _ _ _ 0 [some (.ref 63), some (.int jd), some (.int b), some (.int what), none, none, none, none, none] [] _ 0 0
  refine J_aload_n (nx := 1) dX12_mean_0 rfl rfl ?_
  refine J_iconst (nx := 2) (i := 0) (v := 0) (by decide) dX12_mean_1 rfl ?_
  refine Jp_63_0 (nx := 5) dX12_mean_2 rfl fl_X12_3 ?_
  refine J_aload_n (nx := 6) dX12_mean_5 rfl rfl ?_
  refine J_aload_n (nx := 7) dX12_mean_6 rfl rfl ?_
  refine J_iload_n (nx := 8) dX12_mean_7 rfl rfl ?_
  refine JcV1 (R' := rm (1) 0 0) (nx := 11) dX12_mean_8 rfl ml_X12_noJudge lk_X12_335 iv_X12_noJudge rfl rfl ⟨(Nat.le_of_ble_eq_true rfl), (Nat.le_of_ble_eq_true rfl)⟩ (Nat.le_of_ble_eq_true rfl) ⟨rfl, rfl⟩ (ct_m_noJudgeW (sF g 63 0 0) (gA g 64) rfl _) ?_
  refine J_iconst (nx := 12) (i := 1) (v := 1) (by decide) dX12_mean_11 rfl ?_
  refine J_thr (nx := 15) dX12_mean_12 rfl lk_X12_237 ⟨(Nat.le_of_ble_eq_true rfl), (Nat.le_of_ble_eq_true rfl)⟩ (Nat.le_of_ble_eq_true rfl) (fun b_12 => ?_) (fun b_12 => ?_)
  · refine J_if_ne (nx := 18) (tgt := 54) dX12_mean_15 rfl (by decide) (fun c_15 => ?_) (fun c_15 => ?_)
    · refine J_lconst (nx := 55) (i := 0) (v := 0) (by decide) dX12_mean_54 rfl ?_
      exact Jrl dX12_mean_55 rfl (Nat.zero_le _) (Nat.zero_le _) (RXl.of (Or.inl ⟨_, (by simp only [bI_is0, bI_is1, Bool.not_eq_true', Bool.not_eq_false'] at b_12; simp only [mxC, b_12, decide_true, decide_false, Bool.not_true, Bool.not_false, Bool.true_or, Bool.false_or, Bool.and_true, Bool.true_and, Bool.false_and, Bool.and_false, cond_true, cond_false]), rfl, rfl⟩))
    · exact absurd c_15 (by decide)
  · refine J_if_ne (nx := 18) (tgt := 54) dX12_mean_15 rfl (by decide) (fun c_15 => ?_) (fun c_15 => ?_)
    · exact absurd c_15 (by decide)
    · refine J_aload_n (nx := 19) dX12_mean_18 rfl rfl ?_
      refine J_aload_n (nx := 20) dX12_mean_19 rfl rfl ?_
      refine J_iload_n (nx := 21) dX12_mean_20 rfl rfl ?_
      refine J_iload_n (nx := 22) dX12_mean_21 rfl rfl ?_
      refine JcV2 (R' := rm (1) 0 0) (nx := 25) dX12_mean_22 rfl ml_X12_badBar lk_X12_344 iv_X12_badBar rfl rfl ⟨(Nat.le_of_ble_eq_true rfl), (Nat.le_of_ble_eq_true rfl)⟩ (Nat.le_of_ble_eq_true rfl) ⟨rfl, rfl⟩ (ct_m_badBar _ _ _) ?_
      refine J_iconst (nx := 26) (i := 2) (v := 2) (by decide) dX12_mean_25 rfl ?_
      refine J_thr (nx := 29) dX12_mean_26 rfl lk_X12_237 ⟨(Nat.le_of_ble_eq_true rfl), (Nat.le_of_ble_eq_true rfl)⟩ (Nat.le_of_ble_eq_true rfl) (fun b_26 => ?_) (fun b_26 => ?_)
      · refine J_if_ne (nx := 32) (tgt := 54) dX12_mean_29 rfl (by decide) (fun c_29 => ?_) (fun c_29 => ?_)
        · refine J_lconst (nx := 55) (i := 0) (v := 0) (by decide) dX12_mean_54 rfl ?_
          exact Jrl dX12_mean_55 rfl (Nat.zero_le _) (Nat.zero_le _) (RXl.of (Or.inl ⟨_, (by simp only [bI_is0, bI_is1, Bool.not_eq_true', Bool.not_eq_false'] at b_12 b_26; simp only [mxC, b_12, b_26, decide_true, decide_false, Bool.not_true, Bool.not_false, Bool.true_or, Bool.false_or, Bool.and_true, Bool.true_and, Bool.false_and, Bool.and_false, cond_true, cond_false]), rfl, rfl⟩))
        · exact absurd c_29 (by decide)
      · refine J_if_ne (nx := 32) (tgt := 54) dX12_mean_29 rfl (by decide) (fun c_29 => ?_) (fun c_29 => ?_)
        · exact absurd c_29 (by decide)
        · refine J_aload_n (nx := 33) dX12_mean_32 rfl rfl ?_
          refine J_iload_n (nx := 34) dX12_mean_33 rfl rfl ?_
          refine J_iconst (nx := 35) (i := 0) (v := 0) (by decide) dX12_mean_34 rfl ?_
          refine J_iconst (nx := 36) (i := 2) (v := 2) (by decide) dX12_mean_35 rfl ?_
          refine JcS3 (R' := rm (0) 0 0) (nx := 39) dX12_mean_36 rfl ml_X12_in lk_X12_77 st_X12_in ⟨(Nat.le_of_ble_eq_true rfl), (Nat.le_of_ble_eq_true rfl)⟩ (Nat.le_of_ble_eq_true rfl) ⟨rfl, rfl⟩ (ct_m_in _ _ _ _) ?_
          refine J_if_ne (nx := 42) (tgt := 46) dX12_mean_39 rfl (by decide) (fun c_39 => ?_) (fun c_39 => ?_)
          · refine J_iconst (nx := 47) (i := 0) (v := 0) (by decide) dX12_mean_46 rfl ?_
            refine J_iconst (nx := 48) (i := 3) (v := 3) (by decide) dX12_mean_47 rfl ?_
            refine J_thr (b := false) (nx := 51) dX12_mean_48 rfl lk_X12_237 ⟨(Nat.le_of_ble_eq_true rfl), (Nat.le_of_ble_eq_true rfl)⟩ (Nat.le_of_ble_eq_true rfl) (fun b_48 => ?_) (fun b_48 => ?_)
            · exact absurd b_48 (by decide)
            · refine J_if_eq (nx := 54) (tgt := 56) dX12_mean_51 rfl (by decide) (fun c_51 => ?_) (fun c_51 => ?_)
              · have HC : mxC [(wMj (gA g 64) jd, 1), (fMb jd b, 2), (fIn what 0 2, 3)] = none := (by simp only [bI_is0, bI_is1, Bool.not_eq_true', Bool.not_eq_false'] at b_12 b_26 c_39; simp only [mxC, b_12, b_26, c_39, decide_true, decide_false, Bool.not_true, Bool.not_false, Bool.true_or, Bool.false_or, Bool.and_true, Bool.true_and, Bool.false_and, Bool.and_false, cond_true, cond_false])
                have HG0 := HC
                obtain ⟨hk0, HG1⟩ := gd HG0
                have hk0_0 := hk0
                have hjjd := wMj_ok hM hk0_0
                obtain ⟨hk1, HG2⟩ := gd HG1
                have hk1_0 := hk1
                obtain ⟨hk2, HG3⟩ := gd HG2
                have hk2_0 := hk2
                refine J_lconst (nx := 57) (i := 0) (v := 0) (by decide) dX12_mean_56 rfl ?_
                refine J_lstore (nx := 59) dX12_mean_57 rfl rfl (Nat.le_of_ble_eq_true rfl) ?_
                refine J_iconst (nx := 60) (i := 0) (v := 0) (by decide) dX12_mean_59 rfl ?_
                refine J_istore (nx := 62) dX12_mean_60 rfl rfl (Nat.le_of_ble_eq_true rfl) ?_
                refine J.post (lp_m_mn3 (sF g 63 0 0) (gA g 64) gl rl jd b what rfl hM hkd hjjd _ (mN (gA g 64)) 0 (sF g 63 0 0) (by omega) Fr.rf) (fun r es h => ?_)
                obtain ⟨x, g2, hr, he, hx, hf⟩ := h
                exact ⟨x, g2, hr, he, Or.inr ⟨HC, hx, QF.of hf⟩⟩
              · exact absurd c_51 (by decide)
          · refine J_iconst (nx := 43) (i := 1) (v := 1) (by decide) dX12_mean_42 rfl ?_
            refine J_goto (nx := 47) dX12_mean_43 (by decide) ?_
            refine J_iconst (nx := 48) (i := 3) (v := 3) (by decide) dX12_mean_47 rfl ?_
            refine J_thr (b := true) (nx := 51) dX12_mean_48 rfl lk_X12_237 ⟨(Nat.le_of_ble_eq_true rfl), (Nat.le_of_ble_eq_true rfl)⟩ (Nat.le_of_ble_eq_true rfl) (fun b_48 => ?_) (fun b_48 => ?_)
            · refine J_if_eq (nx := 54) (tgt := 56) dX12_mean_51 rfl (by decide) (fun c_51 => ?_) (fun c_51 => ?_)
              · exact absurd c_51 (by decide)
              · refine J_lconst (nx := 55) (i := 0) (v := 0) (by decide) dX12_mean_54 rfl ?_
                exact Jrl dX12_mean_55 rfl (Nat.zero_le _) (Nat.zero_le _) (RXl.of (Or.inl ⟨_, (by simp only [bI_is0, bI_is1, Bool.not_eq_true', Bool.not_eq_false'] at b_12 b_26 c_39; simp only [mxC, b_12, b_26, c_39, decide_true, decide_false, Bool.not_true, Bool.not_false, Bool.true_or, Bool.false_or, Bool.and_true, Bool.true_and, Bool.false_and, Bool.and_false, cond_true, cond_false]), rfl, rfl⟩))
            · exact absurd b_48 (by decide)

def pnS (f : Nat → Int64) : Nat → Int32 × Int64
  | 0 => (-1, 0)
  | n + 1 => if (pnS f n).1 < 0 then (nI (10 * (n / 5) + n % 5), f n) else if lg_cmp (f n) (pnS f n).2 < 0 then (nI (10 * (n / 5) + n % 5), f n) else pnS f n
set_option maxRecDepth 100000 in
set_option maxHeartbeats 4000000 in
theorem lp_m_pn1 (Q : Res → List ME → Prop) (g0 : GS) (W : Nat → Int32) (gl : List TxL) (rl : Nat → List TxL) (m : Int32) (hM : MOK W gl rl) (k0 y : Nat) (told : Int32) (hy : y < 8) (a1 a2 : Int32) (z : Nat) (hz : z < 9) (n0 : Nat) : ∀ (k : Nat) (i : Nat) (g : GS), i + k = 5 → Fr f0 aKq g0 g → LSt W gl m g → FSt W k0 y told g → (∀ g, Fr f0 aKq g0 g → LSt W gl m g → FSt W k0 y told g → J mX12_plain (rm 6 0 0) Q n0 134 [some (.ref 63), some (.int a1), some (.int a2), some (.int ((pnS (fun n => wLs (mJP W gl rl m k0 y told 3 0 (mG W)) (mJP W gl rl m k0 y told (nI (100 + 10 * (n / 5) + n % 5)) 0 (mG W)) (-1)) (5 * z + 5)).1)), some (.long ((pnS (fun n => wLs (mJP W gl rl m k0 y told 3 0 (mG W)) (mJP W gl rl m k0 y told (nI (100 + 10 * (n / 5) + n % 5)) 0 (mG W)) (-1)) (5 * z + 5)).2)), none, some (.int (nI (z))), some (.int (nI (5))), none, none] [] (Wd g) 0 0) → J mX12_plain (rm 6 0 0) (Q) n0 75 [some (.ref 63), some (.int a1), some (.int a2), some (.int ((pnS (fun n => wLs (mJP W gl rl m k0 y told 3 0 (mG W)) (mJP W gl rl m k0 y told (nI (100 + 10 * (n / 5) + n % 5)) 0 (mG W)) (-1)) (5 * z + i)).1)), some (.long ((pnS (fun n => wLs (mJP W gl rl m k0 y told 3 0 (mG W)) (mJP W gl rl m k0 y told (nI (100 + 10 * (n / 5) + n % 5)) 0 (mG W)) (-1)) (5 * z + i)).2)), none, some (.int (nI (z))), some (.int (nI (i))), none, none] [] (Wd g) 0 0 := by
  intro k
  induction k with
  | zero =>
    intro i g hk hfr hL hF hK
    refine J_iload (nx := 77) dX12_plain_75 rfl rfl ?_
    refine J_iconst (nx := 78) (i := 4) (v := 4) (by decide) dX12_plain_77 rfl ?_
    refine J_icmp_gt (nx := 81) (tgt := 134) dX12_plain_78 rfl (by decide) (fun c_78 => ?_) (fun c_78 => ?_)
    · obtain rfl : i = 5 := by omega
      exact hK g hfr hL hF
    · exact absurd (nI_ltn (a := 4) (b := i) (by omega) (by omega)) c_78
  | succ k ih =>
    intro i g hk hfr hL hF hK
    refine J_iload (nx := 77) dX12_plain_75 rfl rfl ?_
    refine J_iconst (nx := 78) (i := 4) (v := 4) (by decide) dX12_plain_77 rfl ?_
    refine J_icmp_gt (nx := 81) (tgt := 134) dX12_plain_78 rfl (by decide) (fun c_78 => ?_) (fun c_78 => ?_)
    · exact absurd (nI_ltd (a := 4) (b := i) (by omega) (by omega) c_78) (by omega)
    · refine J_aload_n (nx := 82) dX12_plain_81 rfl rfl ?_
      refine J_bipush (nx := 84) (i := 100) (v := 100) (by decide) dX12_plain_82 rfl ?_
      refine J_bipush (nx := 86) (i := 10) (v := 10) (by decide) dX12_plain_84 rfl ?_
      refine J_iload (nx := 88) dX12_plain_86 rfl rfl ?_
      refine J_imul (nx := 89) dX12_plain_88 rfl ?_
      refine J_iadd (nx := 90) dX12_plain_89 rfl ?_
      refine J_iload (nx := 92) dX12_plain_90 rfl rfl ?_
      refine J_iadd (nx := 93) dX12_plain_92 rfl ?_
      refine J_iconst (nx := 94) (i := 0) (v := 0) (by decide) dX12_plain_93 rfl ?_
      refine J_iconst (nx := 95) (i := -1) (v := -1) (by decide) dX12_plain_94 rfl ?_
      rw [show (((100 : Int32) + ((10 : Int32) * nI (z))) + nI (i)) = nI (((100 + (10 * z)) + i)) from (nIa (nIa (nIc 100) (nIm (nIc 10) (Eq.refl (nI (z))))) (Eq.refl (nI (i))))]
      refine JlV3 (R' := rm (5) 0 0) (nx := 98) dX12_plain_95 rfl ml_X12_losesAt lk_X12_355 iv_X12_losesAt rfl rfl ⟨(Nat.le_of_ble_eq_true rfl), (Nat.le_of_ble_eq_true rfl)⟩ (Nat.le_of_ble_eq_true rfl) ⟨rfl, rfl⟩ (ct_m_losesAt g W gl rl m hM hL (nI (100 + 10 * z + i)) 0 (-1) k0 y told hy hF (fun h _ => absurd (nI_ltd (a := 100 + 10 * z + i) (b := 100) (by omega) (by omega) h) (by omega))) (fun x_95 g_95 p_95 => ?_)
      refine J_lstore (nx := 100) dX12_plain_98 rfl rfl (Nat.le_of_ble_eq_true rfl) ?_
      refine J_iload_n (nx := 101) dX12_plain_100 rfl rfl ?_
      refine J_if_lt (nx := 104) (tgt := 115) dX12_plain_101 rfl (by decide) (fun c_101 => ?_) (fun c_101 => ?_)
      · refine J_bipush (nx := 117) (i := 10) (v := 10) (by decide) dX12_plain_115 rfl ?_
        refine J_iload (nx := 119) dX12_plain_117 rfl rfl ?_
        refine J_imul (nx := 120) dX12_plain_119 rfl ?_
        refine J_iload (nx := 122) dX12_plain_120 rfl rfl ?_
        refine J_iadd (nx := 123) dX12_plain_122 rfl ?_
        rw [show (((10 : Int32) * nI (z)) + nI (i)) = nI (((10 * z) + i)) from (nIa (nIm (nIc 10) (Eq.refl (nI (z)))) (Eq.refl (nI (i))))]
        refine J_istore_n (nx := 124) dX12_plain_123 rfl rfl (Nat.le_of_ble_eq_true rfl) ?_
        refine J_lload (nx := 126) dX12_plain_124 rfl rfl ?_
        refine J_lstore (nx := 128) dX12_plain_126 rfl rfl (Nat.le_of_ble_eq_true rfl) ?_
        refine J_iinc (nx := 131) dX12_plain_128 rfl rfl rfl (Nat.le_of_ble_eq_true rfl) ?_
        refine J_goto (nx := 75) dX12_plain_131 (by decide) ?_
        have hv : x_95 = (fun n => wLs (mJP W gl rl m k0 y told 3 0 (mG W)) (mJP W gl rl m k0 y told (nI (100 + 10 * (n / 5) + n % 5)) 0 (mG W)) (-1)) (5 * z + i) := by
          rw [p_95.1]
          show _ = wLs _ (mJP W gl rl m k0 y told (nI (100 + 10 * ((5 * z + i) / 5) + (5 * z + i) % 5)) 0 (mG W)) (-1)
          rw [show (5 * z + i) / 5 = z by omega, show (5 * z + i) % 5 = i by omega]
        have hj : nI (10 * ((5 * z + i) / 5) + (5 * z + i) % 5) = nI (10 * z + i) := by
          rw [show (5 * z + i) / 5 = z by omega, show (5 * z + i) % 5 = i by omega]
        have hs : pnS (fun n => wLs (mJP W gl rl m k0 y told 3 0 (mG W)) (mJP W gl rl m k0 y told (nI (100 + 10 * (n / 5) + n % 5)) 0 (mG W)) (-1)) (5 * z + (i + 1)) = (nI (10 * z + i), x_95) := by
          rw [hv, ← hj]
          first
            | exact if_pos c_101
            | exact (if_neg c_101).trans (if_pos (by rw [hv] at c_109; exact c_109))
        refine J_kill (nx := 0) 8 ?_
        rw [show (nI (i) + Int32.ofInt 1) = nI (i + 1) from (show nI (i) + Int32.ofInt 1 = nI (i + 1) from nI_add (i) 1), show nI (((10 * z) + i)) = nI (10 * z + i) from (Eq.refl (nI (((10 * z) + i))))]
        refine J.lv (fun v : Int32 × Int64 => [some (.ref 63), some (.int a1), some (.int a2), some (.int (v.1)), some (.long (v.2)), none, some (.int (nI (z))), some (.int (nI (i + 1))), none, none]) (x := (nI (10 * z + i), x_95)) hs.symm (ih (i + 1) g_95 (by omega) (hfr.tr p_95.2.1) p_95.2.2.2.1 p_95.2.2.2.2.1 hK)
      · refine J_lload (nx := 106) dX12_plain_104 rfl rfl ?_
        refine J_lload (nx := 108) dX12_plain_106 rfl rfl ?_
        refine J_lcmp (nx := 109) dX12_plain_108 rfl ?_
        refine J_if_lt (nx := 112) (tgt := 115) dX12_plain_109 rfl (by decide) (fun c_109 => ?_) (fun c_109 => ?_)
        · refine J_bipush (nx := 117) (i := 10) (v := 10) (by decide) dX12_plain_115 rfl ?_
          refine J_iload (nx := 119) dX12_plain_117 rfl rfl ?_
          refine J_imul (nx := 120) dX12_plain_119 rfl ?_
          refine J_iload (nx := 122) dX12_plain_120 rfl rfl ?_
          refine J_iadd (nx := 123) dX12_plain_122 rfl ?_
          rw [show (((10 : Int32) * nI (z)) + nI (i)) = nI (((10 * z) + i)) from (nIa (nIm (nIc 10) (Eq.refl (nI (z)))) (Eq.refl (nI (i))))]
          refine J_istore_n (nx := 124) dX12_plain_123 rfl rfl (Nat.le_of_ble_eq_true rfl) ?_
          refine J_lload (nx := 126) dX12_plain_124 rfl rfl ?_
          refine J_lstore (nx := 128) dX12_plain_126 rfl rfl (Nat.le_of_ble_eq_true rfl) ?_
          refine J_iinc (nx := 131) dX12_plain_128 rfl rfl rfl (Nat.le_of_ble_eq_true rfl) ?_
          refine J_goto (nx := 75) dX12_plain_131 (by decide) ?_
          have hv : x_95 = (fun n => wLs (mJP W gl rl m k0 y told 3 0 (mG W)) (mJP W gl rl m k0 y told (nI (100 + 10 * (n / 5) + n % 5)) 0 (mG W)) (-1)) (5 * z + i) := by
            rw [p_95.1]
            show _ = wLs _ (mJP W gl rl m k0 y told (nI (100 + 10 * ((5 * z + i) / 5) + (5 * z + i) % 5)) 0 (mG W)) (-1)
            rw [show (5 * z + i) / 5 = z by omega, show (5 * z + i) % 5 = i by omega]
          have hj : nI (10 * ((5 * z + i) / 5) + (5 * z + i) % 5) = nI (10 * z + i) := by
            rw [show (5 * z + i) / 5 = z by omega, show (5 * z + i) % 5 = i by omega]
          have hs : pnS (fun n => wLs (mJP W gl rl m k0 y told 3 0 (mG W)) (mJP W gl rl m k0 y told (nI (100 + 10 * (n / 5) + n % 5)) 0 (mG W)) (-1)) (5 * z + (i + 1)) = (nI (10 * z + i), x_95) := by
            rw [hv, ← hj]
            first
              | exact if_pos c_101
              | exact (if_neg c_101).trans (if_pos (by rw [hv] at c_109; exact c_109))
          refine J_kill (nx := 0) 8 ?_
          rw [show (nI (i) + Int32.ofInt 1) = nI (i + 1) from (show nI (i) + Int32.ofInt 1 = nI (i + 1) from nI_add (i) 1), show nI (((10 * z) + i)) = nI (10 * z + i) from (Eq.refl (nI (((10 * z) + i))))]
          refine J.lv (fun v : Int32 × Int64 => [some (.ref 63), some (.int a1), some (.int a2), some (.int (v.1)), some (.long (v.2)), none, some (.int (nI (z))), some (.int (nI (i + 1))), none, none]) (x := (nI (10 * z + i), x_95)) hs.symm (ih (i + 1) g_95 (by omega) (hfr.tr p_95.2.1) p_95.2.2.2.1 p_95.2.2.2.2.1 hK)
        · refine J_goto (nx := 128) dX12_plain_112 (by decide) ?_
          refine J_iinc (nx := 131) dX12_plain_128 rfl rfl rfl (Nat.le_of_ble_eq_true rfl) ?_
          refine J_goto (nx := 75) dX12_plain_131 (by decide) ?_
          have hv : x_95 = (fun n => wLs (mJP W gl rl m k0 y told 3 0 (mG W)) (mJP W gl rl m k0 y told (nI (100 + 10 * (n / 5) + n % 5)) 0 (mG W)) (-1)) (5 * z + i) := by
            rw [p_95.1]
            show _ = wLs _ (mJP W gl rl m k0 y told (nI (100 + 10 * ((5 * z + i) / 5) + (5 * z + i) % 5)) 0 (mG W)) (-1)
            rw [show (5 * z + i) / 5 = z by omega, show (5 * z + i) % 5 = i by omega]
          have hj : nI (10 * ((5 * z + i) / 5) + (5 * z + i) % 5) = nI (10 * z + i) := by
            rw [show (5 * z + i) / 5 = z by omega, show (5 * z + i) % 5 = i by omega]
          have hs : pnS (fun n => wLs (mJP W gl rl m k0 y told 3 0 (mG W)) (mJP W gl rl m k0 y told (nI (100 + 10 * (n / 5) + n % 5)) 0 (mG W)) (-1)) (5 * z + (i + 1)) = pnS (fun n => wLs (mJP W gl rl m k0 y told 3 0 (mG W)) (mJP W gl rl m k0 y told (nI (100 + 10 * (n / 5) + n % 5)) 0 (mG W)) (-1)) (5 * z + i) := (if_neg c_101).trans (if_neg (by rw [hv] at c_109; exact c_109))
          refine J_kill (nx := 0) 8 ?_
          rw [show (nI (i) + Int32.ofInt 1) = nI (i + 1) from (show nI (i) + Int32.ofInt 1 = nI (i + 1) from nI_add (i) 1)]
          refine J.lv (fun v : Int32 × Int64 => [some (.ref 63), some (.int a1), some (.int a2), some (.int (v.1)), some (.long (v.2)), none, some (.int (nI (z))), some (.int (nI (i + 1))), none, none]) (x := pnS (fun n => wLs (mJP W gl rl m k0 y told 3 0 (mG W)) (mJP W gl rl m k0 y told (nI (100 + 10 * (n / 5) + n % 5)) 0 (mG W)) (-1)) (5 * z + i)) hs.symm (ih (i + 1) g_95 (by omega) (hfr.tr p_95.2.1) p_95.2.2.2.1 p_95.2.2.2.2.1 hK)

set_option maxRecDepth 100000 in
set_option maxHeartbeats 4000000 in
theorem lp_m_pn2 (g0 : GS) (W : Nat → Int32) (gl : List TxL) (rl : Nat → List TxL) (m : Int32) (hM : MOK W gl rl) (k0 y : Nat) (told : Int32) (hy : y < 8) (a1 a2 : Int32) (n0 : Nat) : ∀ (k : Nat) (z : Nat) (g : GS), z + k = 9 → Fr f0 aKq g0 g → LSt W gl m g → FSt W k0 y told g → J mX12_plain (rm 6 0 0) (RXi (fun x g2 => x = (pnS (fun n => wLs (mJP W gl rl m k0 y told 3 0 (mG W)) (mJP W gl rl m k0 y told (nI (100 + 10 * (n / 5) + n % 5)) 0 (mG W)) (-1)) 45).1 ∧ Fr f0 aKq g0 g2)) n0 65 [some (.ref 63), some (.int a1), some (.int a2), some (.int ((pnS (fun n => wLs (mJP W gl rl m k0 y told 3 0 (mG W)) (mJP W gl rl m k0 y told (nI (100 + 10 * (n / 5) + n % 5)) 0 (mG W)) (-1)) (5 * z)).1)), some (.long ((pnS (fun n => wLs (mJP W gl rl m k0 y told 3 0 (mG W)) (mJP W gl rl m k0 y told (nI (100 + 10 * (n / 5) + n % 5)) 0 (mG W)) (-1)) (5 * z)).2)), none, some (.int (nI (z))), none, none, none] [] (Wd g) 0 0 := by
  intro k
  induction k with
  | zero =>
    intro z g hk hfr hL hF
    refine J_iload (nx := 67) dX12_plain_65 rfl rfl ?_
    refine J_bipush (nx := 69) (i := 8) (v := 8) (by decide) dX12_plain_67 rfl ?_
    refine J_icmp_gt (nx := 72) (tgt := 140) dX12_plain_69 rfl (by decide) (fun c_69 => ?_) (fun c_69 => ?_)
    · refine J_iload_n (nx := 141) dX12_plain_140 rfl rfl ?_
      exact Jri dX12_plain_141 rfl (Nat.zero_le _) (Nat.zero_le _) (RXi.of ⟨by rw [show z = 9 by omega], hfr⟩)
    · exact absurd (nI_ltn (a := 8) (b := z) (by omega) (by omega)) c_69
  | succ k ih =>
    intro z g hk hfr hL hF
    refine J_iload (nx := 67) dX12_plain_65 rfl rfl ?_
    refine J_bipush (nx := 69) (i := 8) (v := 8) (by decide) dX12_plain_67 rfl ?_
    refine J_icmp_gt (nx := 72) (tgt := 140) dX12_plain_69 rfl (by decide) (fun c_69 => ?_) (fun c_69 => ?_)
    · exact absurd (nI_ltd (a := 8) (b := z) (by omega) (by omega) c_69) (by omega)
    · refine J_iconst (nx := 73) (i := 0) (v := 0) (by decide) dX12_plain_72 rfl ?_
      refine J_istore (nx := 75) dX12_plain_73 rfl rfl (Nat.le_of_ble_eq_true rfl) ?_
      refine lp_m_pn1 _ g0 W gl rl m hM k0 y told hy a1 a2 z (by omega) n0 5 0 g rfl hfr hL hF (fun g hfr hL hF => ?_)
      refine J_iinc (nx := 137) dX12_plain_134 rfl rfl rfl (Nat.le_of_ble_eq_true rfl) ?_
      refine J_goto (nx := 65) dX12_plain_137 (by decide) ?_
      refine J_kill (nx := 0) 7 ?_
      rw [show (nI (z) + Int32.ofInt 1) = nI (z + 1) from (show nI (z) + Int32.ofInt 1 = nI (z + 1) from nI_add (z) 1)]
      exact ih (z + 1) g (by omega) hfr hL hF

set_option maxRecDepth 100000 in
set_option maxHeartbeats 4000000 in
theorem ct_m_plain (g : GS) (gl : List TxL) (rl : Nat → List TxL) (hM : MOK (gA g 64) gl rl) (k : Int32) (z : Int32) : Ct mX12_plain (rm 6 0 0) [.ref 63, .int k, .int z] (Wd g) (PQi g [(wMs (gA g 64) k && fIn z 0 7, 1)] (fun x g2 => x = (pnS (fun n => wLs (mJP (gA g 64) gl rl (gA g 64 6) (nN k) (nN z) (wTo (gA g 64) (nN k)) 3 0 (mG (gA g 64))) (mJP (gA g 64) gl rl (gA g 64 6) (nN k) (nN z) (wTo (gA g 64) (nN k)) (nI (100 + 10 * (n / 5) + n % 5)) 0 (mG (gA g 64))) (-1)) 45).1 ∧ QF g g2)) := by
  have hM2 := hM
  obtain ⟨⟨hG10, hG⟩, ⟨hT1, hT60, hT⟩, ⟨hR4, hR, hrl⟩, ⟨hN6, hN⟩, hgl, hgk⟩ := hM2
  refine Ct.of (by decide +kernel) (Nat.le_of_ble_eq_true rfl) ?_
  show J _ _ _ _ 0 [some (.ref 63), some (.int k), some (.int z), none, none, none, none, none, none, none] [] _ 0 0
  refine J_aload_n (nx := 1) dX12_plain_0 rfl rfl ?_
  refine J_iconst (nx := 2) (i := 0) (v := 0) (by decide) dX12_plain_1 rfl ?_
  refine Jp_63_0 (nx := 5) dX12_plain_2 rfl fl_X12_3 ?_
  refine J_aload_n (nx := 6) dX12_plain_5 rfl rfl ?_
  refine J_aload_n (nx := 7) dX12_plain_6 rfl rfl ?_
  refine J_iload_n (nx := 8) dX12_plain_7 rfl rfl ?_
  refine JcV1 (R' := rm (1) 0 0) (nx := 11) dX12_plain_8 rfl ml_X12_noSort lk_X12_317 iv_X12_noSort rfl rfl ⟨(Nat.le_of_ble_eq_true rfl), (Nat.le_of_ble_eq_true rfl)⟩ (Nat.le_of_ble_eq_true rfl) ⟨rfl, rfl⟩ (ct_m_noSortW (sF g 63 0 0) (gA g 64) rfl _) ?_
  refine J_if_ne (nx := 14) (tgt := 21) dX12_plain_11 rfl (by decide) (fun c_11 => ?_) (fun c_11 => ?_)
  · refine J_iconst (nx := 22) (i := 1) (v := 1) (by decide) dX12_plain_21 rfl ?_
    refine J_goto (nx := 26) dX12_plain_22 (by decide) ?_
    refine J_iconst (nx := 27) (i := 1) (v := 1) (by decide) dX12_plain_26 rfl ?_
    refine J_thr (b := true) (nx := 30) dX12_plain_27 rfl lk_X12_237 ⟨(Nat.le_of_ble_eq_true rfl), (Nat.le_of_ble_eq_true rfl)⟩ (Nat.le_of_ble_eq_true rfl) (fun b_27 => ?_) (fun b_27 => ?_)
    · refine J_if_eq (nx := 33) (tgt := 35) dX12_plain_30 rfl (by decide) (fun c_30 => ?_) (fun c_30 => ?_)
      · exact absurd c_30 (by decide)
      · refine J_iconst (nx := 34) (i := 0) (v := 0) (by decide) dX12_plain_33 rfl ?_
        exact Jri dX12_plain_34 rfl (Nat.zero_le _) (Nat.zero_le _) (RXi.of (Or.inl ⟨_, (by simp only [bI_is0, bI_is1, Bool.not_eq_true', Bool.not_eq_false'] at c_11; simp only [mxC, c_11, decide_true, decide_false, Bool.not_true, Bool.not_false, Bool.true_or, Bool.false_or, Bool.and_true, Bool.true_and, Bool.false_and, Bool.and_false, cond_true, cond_false]), rfl, rfl⟩))
    · exact absurd b_27 (by decide)
  · refine J_iload_n (nx := 15) dX12_plain_14 rfl rfl ?_
    refine JcS1 (R' := rm (1) 0 0) (nx := 18) dX12_plain_15 rfl ml_X12_noZone lk_X12_254 st_X12_noZone ⟨(Nat.le_of_ble_eq_true rfl), (Nat.le_of_ble_eq_true rfl)⟩ (Nat.le_of_ble_eq_true rfl) ⟨rfl, rfl⟩ (ct_m_noZone _ _) ?_
    refine J_if_eq (nx := 21) (tgt := 25) dX12_plain_18 rfl (by decide) (fun c_18 => ?_) (fun c_18 => ?_)
    · refine J_iconst (nx := 26) (i := 0) (v := 0) (by decide) dX12_plain_25 rfl ?_
      refine J_iconst (nx := 27) (i := 1) (v := 1) (by decide) dX12_plain_26 rfl ?_
      refine J_thr (b := false) (nx := 30) dX12_plain_27 rfl lk_X12_237 ⟨(Nat.le_of_ble_eq_true rfl), (Nat.le_of_ble_eq_true rfl)⟩ (Nat.le_of_ble_eq_true rfl) (fun b_27 => ?_) (fun b_27 => ?_)
      · exact absurd b_27 (by decide)
      · refine J_if_eq (nx := 33) (tgt := 35) dX12_plain_30 rfl (by decide) (fun c_30 => ?_) (fun c_30 => ?_)
        · have HC : mxC [(wMs (gA g 64) k && fIn z 0 7, 1)] = none := (by simp only [bI_is0, bI_is1, Bool.not_eq_true', Bool.not_eq_false'] at c_11 c_18; simp only [mxC, c_11, c_18, decide_true, decide_false, Bool.not_true, Bool.not_false, Bool.true_or, Bool.false_or, Bool.and_true, Bool.true_and, Bool.false_and, Bool.and_false, cond_true, cond_false])
          have HG0 := HC
          obtain ⟨hk0, HG1⟩ := gd HG0
          simp only [Bool.and_eq_true] at hk0
          obtain ⟨hk0_0, hk0_1⟩ := hk0
          obtain ⟨qk, hqk, rfl⟩ := wMs_nat hM hk0_0
          try rw [nN_nI (n := qk) (by omega)]
          obtain ⟨qz, hqz, rfl⟩ := fIn_nat (n := 7) (by omega) hk0_1
          try rw [nN_nI (n := qz) (by omega)]
          refine J_aload_n (nx := 36) dX12_plain_35 rfl rfl ?_
          refine J_aload_n (nx := 37) dX12_plain_36 rfl rfl ?_
          refine Jg_63_1 (nx := 40) dX12_plain_37 rfl fl_X12_13 ?_
          refine J_bipush (nx := 42) (i := 6) (v := 6) (by decide) dX12_plain_40 rfl ?_
          refine Ja_64 (nx := 43) dX12_plain_42 rfl (vpE (n := 6) (nIc 6) (by omega) (by decide)) ?_
          rw [clE (n := 6) (nIc 6) (by omega)]
          rw [show gA (sF g 63 0 0) 64 6 = gA g 64 6 from rfl]
          refine JvV1 (R' := rm (4) 0 0) (nx := 46) dX12_plain_43 rfl ml_X12_letsOn lk_X12_296 iv_X12_letsOn rfl rfl ⟨(Nat.le_of_ble_eq_true rfl), (Nat.le_of_ble_eq_true rfl)⟩ (Nat.le_of_ble_eq_true rfl) ⟨rfl, rfl⟩ (ct_m_letsOn (sF g 63 0 0) (gA g 64) (gA g 64 6) gl rfl hgl hgk) (fun g_43 p_43 => ?_)
          have hL : LSt (gA g 64) gl (gA g 64 6) g_43 := LOK.ls (show gA (sF g 63 0 0) 64 = gA g 64 from rfl) p_43
          have hfr1 : Fr fA aQ (sF g 63 0 0) g_43 := Fr.rf.LO p_43.1
          refine J_aload_n (nx := 47) dX12_plain_46 rfl rfl ?_
          refine J_iload_n (nx := 48) dX12_plain_47 rfl rfl ?_
          refine J_iload_n (nx := 49) dX12_plain_48 rfl rfl ?_
          refine J_aload_n (nx := 50) dX12_plain_49 rfl rfl ?_
          refine J_iload_n (nx := 51) dX12_plain_50 rfl rfl ?_
          refine JcV1 (R' := rm (1) 0 0) (nx := 54) dX12_plain_51 rfl ml_X12_toldCard lk_X12_320 iv_X12_toldCard rfl rfl ⟨(Nat.le_of_ble_eq_true rfl), (Nat.le_of_ble_eq_true rfl)⟩ (Nat.le_of_ble_eq_true rfl) ⟨rfl, rfl⟩ (ct_m_toldCard _ (qk) (by omega)) ?_
          rw [show mSo g_43 qk 0 = wTo (gA g 64) qk from congrFun hL.1 _]
          refine JcV3 (R' := rm (3) 0 0) (nx := 57) dX12_plain_54 rfl ml_X12_fouls lk_X12_323 iv_X12_fouls rfl rfl ⟨(Nat.le_of_ble_eq_true rfl), (Nat.le_of_ble_eq_true rfl)⟩ (Nat.le_of_ble_eq_true rfl) ⟨rfl, rfl⟩ (ct_m_fouls g_43 qk qz (by omega) (by omega) (wTo (gA g 64) qk)) ?_
          obtain ⟨gf, hgf⟩ : ∃ gf, gf = mFo g_43 qk qz (wTo (gA g 64) qk) := ⟨_, rfl⟩
          rw [← hgf]
          have hL2 : LSt (gA g 64) gl (gA g 64 6) gf := by rw [hgf]; exact hL.Fo
          have hF2 : FSt (gA g 64) qk qz (wTo (gA g 64) qk) gf := by rw [hgf]; exact FSt.Fo hL.1
          have hfr2 : Fr fA aQ (sF g 63 0 0) gf := by rw [hgf]; exact Fr.mFo hfr1
          refine J_iconst (nx := 58) (i := -1) (v := -1) (by decide) dX12_plain_57 rfl ?_
          refine J_istore_n (nx := 59) dX12_plain_58 rfl rfl (Nat.le_of_ble_eq_true rfl) ?_
          refine J_lconst (nx := 60) (i := 0) (v := 0) (by decide) dX12_plain_59 rfl ?_
          refine J_lstore (nx := 62) dX12_plain_60 rfl rfl (Nat.le_of_ble_eq_true rfl) ?_
          refine J_iconst (nx := 63) (i := 0) (v := 0) (by decide) dX12_plain_62 rfl ?_
          refine J_istore (nx := 65) dX12_plain_63 rfl rfl (Nat.le_of_ble_eq_true rfl) ?_
          refine J.post (lp_m_pn2 gf (gA g 64) gl rl (gA g 64 6) hM qk qz (wTo (gA g 64) qk) (by omega) _ _ _ 9 0 gf rfl Fr.rf hL2 hF2) (fun r es h => ?_)
          obtain ⟨x, g2, hr, he, hx, hf⟩ := h
          exact ⟨x, g2, hr, he, Or.inr ⟨HC, hx, QF.of (hfr2.K hf)⟩⟩
        · exact absurd c_30 (by decide)
    · refine J_iconst (nx := 22) (i := 1) (v := 1) (by decide) dX12_plain_21 rfl ?_
      refine J_goto (nx := 26) dX12_plain_22 (by decide) ?_
      refine J_iconst (nx := 27) (i := 1) (v := 1) (by decide) dX12_plain_26 rfl ?_
      refine J_thr (b := true) (nx := 30) dX12_plain_27 rfl lk_X12_237 ⟨(Nat.le_of_ble_eq_true rfl), (Nat.le_of_ble_eq_true rfl)⟩ (Nat.le_of_ble_eq_true rfl) (fun b_27 => ?_) (fun b_27 => ?_)
      · refine J_if_eq (nx := 33) (tgt := 35) dX12_plain_30 rfl (by decide) (fun c_30 => ?_) (fun c_30 => ?_)
        · exact absurd c_30 (by decide)
        · refine J_iconst (nx := 34) (i := 0) (v := 0) (by decide) dX12_plain_33 rfl ?_
          exact Jri dX12_plain_34 rfl (Nat.zero_le _) (Nat.zero_le _) (RXi.of (Or.inl ⟨_, (by simp only [bI_is0, bI_is1, Bool.not_eq_true', Bool.not_eq_false'] at c_11 c_18; simp only [mxC, c_11, c_18, decide_true, decide_false, Bool.not_true, Bool.not_false, Bool.true_or, Bool.false_or, Bool.and_true, Bool.true_and, Bool.false_and, Bool.and_false, cond_true, cond_false]), rfl, rfl⟩))
      · exact absurd b_27 (by decide)

