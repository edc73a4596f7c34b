
/-! the Model: facts, goals, rules -/
theorem lt_nle {a b : Int32} (h : a < b) : ¬ b ≤ a := by
  rw [Int32.lt_iff_toInt_lt] at h; rw [Int32.le_iff_toInt_le]; omega
def fq (g : GS) (i : Nat) (x : Int32) : GS := sA g 70 (upd (gA g 70) i x)
def sfG (g : GS) (m : Int32) : GS := fq (fq (fq g 0 m) 1 (mxI 0 (gA g 64 7))) 2 (mxI 0 (-(gA g 64 7)))
def f0 (_ _ : Nat) : Bool := false
def a7 (c : Nat) : Bool := Nat.beq c 70 || Nat.beq c 71
abbrev TxL : Type := Int32 × Int32 × Int32 × List SP
def MLn (W : Nat → Int32) (t n : Nat) (l : TxL) : Prop :=
  W (1310 + 861 * t + 1 + 5 * n) = l.1 ∧ W (1310 + 861 * t + 1 + 5 * n + 1) = l.2.1 ∧ W (1310 + 861 * t + 1 + 5 * n + 2) = l.2.2.1 ∧ ∃ b, MLine W t n b l.2.2.2
def MTx (W : Nat → Int32) (t : Nat) (ls : List TxL) : Prop :=
  W (1310 + 861 * t) = nI ls.length ∧ ls.length ≤ 12 ∧ ∀ q, q < ls.length → MLn W t q (ls.getD q (0, 0, 0, []))
def FOK (ls : List TxL) : Prop := ∀ l, l ∈ ls → l.2.2.1 < 0 ∨ ∃ f, f < 8 ∧ l.2.2.1 = nI f
def mlV (F : Nat → Int32) (l : TxL) : Int64 := l.2.1.toInt64 * (if 0 ≤ l.2.2.1 then F l.2.2.1.toNatClampNeg else 1).toInt64
def mGS (F : Nat → Int32) : List TxL → Int64 → Int64
  | [], a => a
  | l :: r, a => mGS F r (if txH F l.2.2.2 = false then a else a + (if ¬ l.1 = 0 then -(mlV F l) else mlV F l))
def txDo (F : Nat → Int32) : List TxL → Int32
  | [] => 2
  | l :: r => if txH F l.2.2.2 = false then txDo F r else l.1
def mGw (g : GS) (m : Int32) (ls : List TxL) : Int32 := if gA g 64 3 = 0 then 10000 else (mxL 0 (mnL 30000 (mGS (gA (sfG g m) 70) ls 0))).toInt32
def syG (g : GS) (s j : Nat) : GS :=
  fq (fq (fq (fq (fq (sfG g (gF g 63 21)) 3 (nI s / 4)) 4 (nI s - nI s / 4 * 4)) 5 (nI j)) 6 (gA g 64 (10 + gF g 63 24).toNatClampNeg)) 7 (if gF g 63 25 = 0 then 0 else 1)
theorem fr_fq {g g' : GS} {i : Nat} {x : Int32} (h : Fr f0 a7 g g') : Fr f0 a7 g (fq g' i x) := h.sA rfl
theorem fr_sfG {g g' : GS} {m : Int32} (h : Fr f0 a7 g g') : Fr f0 a7 g (sfG g' m) := fr_fq (fr_fq (fr_fq h))
theorem fr_syG {g g' : GS} {s j : Nat} (h : Fr f0 a7 g g') : Fr f0 a7 g (syG g' s j) := fr_fq (fr_fq (fr_fq (fr_fq (fr_fq (fr_sfG h)))))

set_option maxRecDepth 100000 in
set_option maxHeartbeats 4000000 in
theorem ct_m_setsFacts (g : GS) (m : Int32) : Ct mX12_setsFacts (rm 1 0 0) [.ref 63, .int m] (Wd g) (RR (.inl none) (sfG g m)) := by
  refine Ct.of (by decide +kernel) (Nat.le_of_ble_eq_true rfl) ?_
  show J _ _ _ _ 0 [some (.ref 63), some (.int m)] [] _ 0 0
  refine J_aload_n (nx := 1) dX12_setsFacts_0 rfl rfl ?_
  refine Jg_63_17 (nx := 4) dX12_setsFacts_1 rfl fl_X12_36 ?_
  refine J_iconst (nx := 5) (i := 0) (v := 0) (by decide) dX12_setsFacts_4 rfl ?_
  refine J_iload_n (nx := 6) dX12_setsFacts_5 rfl rfl ?_
  refine Jt_70 (nx := 7) dX12_setsFacts_6 rfl (vpE (n := 0) (nIc 0) (by omega) (by decide)) ?_
  rw [clE (n := 0) (nIc 0) (by omega)]
  refine J_aload_n (nx := 8) dX12_setsFacts_7 rfl rfl ?_
  refine Jg_63_17 (nx := 11) dX12_setsFacts_8 rfl fl_X12_36 ?_
  refine J_iconst (nx := 12) (i := 1) (v := 1) (by decide) dX12_setsFacts_11 rfl ?_
  refine J_iconst (nx := 13) (i := 0) (v := 0) (by decide) dX12_setsFacts_12 rfl ?_
  refine J_aload_n (nx := 14) dX12_setsFacts_13 rfl rfl ?_
  refine Jg_63_1 (nx := 17) dX12_setsFacts_14 rfl fl_X12_13 ?_
  refine J_bipush (nx := 19) (i := 7) (v := 7) (by decide) dX12_setsFacts_17 rfl ?_
  refine Ja_64 (nx := 20) dX12_setsFacts_19 rfl (vpE (n := 7) (nIc 7) (by omega) (by decide)) ?_
  rw [clE (n := 7) (nIc 7) (by omega)]
  refine JcS2 (R' := rm (0) 0 0) (nx := 23) dX12_setsFacts_20 rfl ml_J9_max_7cf53 lk_X12_257 st_J9_max_7cf53 ⟨(Nat.le_of_ble_eq_true rfl), (Nat.le_of_ble_eq_true rfl)⟩ (Nat.le_of_ble_eq_true rfl) ⟨rfl, rfl⟩ (ct_max _ _ _) ?_
  refine Jt_70 (nx := 24) dX12_setsFacts_23 rfl (vpE (n := 1) (nIc 1) (by omega) (by decide)) ?_
  rw [clE (n := 1) (nIc 1) (by omega)]
  refine J_aload_n (nx := 25) dX12_setsFacts_24 rfl rfl ?_
  refine Jg_63_17 (nx := 28) dX12_setsFacts_25 rfl fl_X12_36 ?_
  refine J_iconst (nx := 29) (i := 2) (v := 2) (by decide) dX12_setsFacts_28 rfl ?_
  refine J_iconst (nx := 30) (i := 0) (v := 0) (by decide) dX12_setsFacts_29 rfl ?_
  refine J_aload_n (nx := 31) dX12_setsFacts_30 rfl rfl ?_
  refine Jg_63_1 (nx := 34) dX12_setsFacts_31 rfl fl_X12_13 ?_
  refine J_bipush (nx := 36) (i := 7) (v := 7) (by decide) dX12_setsFacts_34 rfl ?_
  refine Ja_64 (nx := 37) dX12_setsFacts_36 rfl (vpE (n := 7) (nIc 7) (by omega) (by decide)) ?_
  rw [clE (n := 7) (nIc 7) (by omega)]
  refine J_ineg (nx := 38) dX12_setsFacts_37 rfl ?_
  refine JcS2 (R' := rm (0) 0 0) (nx := 41) dX12_setsFacts_38 rfl ml_J9_max_7cf53 lk_X12_257 st_J9_max_7cf53 ⟨(Nat.le_of_ble_eq_true rfl), (Nat.le_of_ble_eq_true rfl)⟩ (Nat.le_of_ble_eq_true rfl) ⟨rfl, rfl⟩ (ct_max _ _ _) ?_
  refine Jt_70 (nx := 42) dX12_setsFacts_41 rfl (vpE (n := 2) (nIc 2) (by omega) (by decide)) ?_
  rw [clE (n := 2) (nIc 2) (by omega)]
  exact Jrv dX12_setsFacts_42 rfl (Nat.zero_le _) (Nat.zero_le _) ⟨rfl, rfl⟩

def mxI32 (a : Int64) : Int32 := (mxL 0 (mnL 30000 a)).toInt32
theorem fr_val {f : Nat → Nat → Bool} {a : Nat → Bool} {g g' : GS} {V : Nat → Int32} (h : Fr f a g g') (ha : a 71 = true) : Fr f a g (sA g' 71 V) := h.sA ha

set_option maxRecDepth 100000 in
set_option maxHeartbeats 4000000 in
theorem lp_m_goalIn (g0 : GS) (m : Int32) (W F : Nat → Int32) (N : Nat) (hN12 : N ≤ 12) (r : Int32) (n0 : Nat) : ∀ (k : Nat) (n : Nat) (a : Int64) (g1 : GS) (ls : List TxL), ls.length = k → N = n + ls.length → (∀ q, q < ls.length → MLn W 4 (n + q) (ls.getD q (0, 0, 0, []))) → FOK ls → Fr f0 a7 g0 g1 → gA g1 64 = W → gA g1 70 = F → gA g1 64 (1310 + 861 * 4) = nI N → r = mxI32 (mGS F ls a) → J mX12_goalIn (rm 3 0 0) (RXi (fun x g2 => x = r ∧ Fr f0 a7 g0 g2)) n0 23 [some (.ref 63), some (.int m), some (.long a), none, some (.int (nI (n))), none, none, none] [] (Wd g1) 0 0 := by
  intro k
  induction k with
  | zero =>
    intro n a g1 ls hk hnk hl hfo hf hW hF hN hr
    have hls : ls = [] := List.eq_nil_of_length_eq_zero hk
    refine J_iload (nx := 25) dX12_goalIn_23 rfl rfl ?_
    refine J_aload_n (nx := 26) dX12_goalIn_25 rfl rfl ?_
    refine J_iconst (nx := 27) (i := 4) (v := 4) (by decide) dX12_goalIn_26 rfl ?_
    refine JcV1 (R' := rm (1) 0 0) (nx := 30) dX12_goalIn_27 rfl ml_X12_lines lk_X12_265 iv_X12_lines rfl rfl ⟨(Nat.le_of_ble_eq_true rfl), (Nat.le_of_ble_eq_true rfl)⟩ (Nat.le_of_ble_eq_true rfl) ⟨rfl, rfl⟩ (ct_m_lines _ 4 (by decide)) ?_
    refine J_icmp_ge (nx := 33) (tgt := 125) dX12_goalIn_30 rfl (by decide) (fun c_30 => ?_) (fun c_30 => ?_)
    · refine J_lconst (nx := 126) (i := 0) (v := 0) (by decide) dX12_goalIn_125 rfl ?_
      refine J_ldc2 (nx := 129) cn_X12_271 dX12_goalIn_126 rfl ?_
      refine J_lload_n (nx := 130) dX12_goalIn_129 rfl rfl ?_
      refine JcS2 (R' := rm (0) 0 0) (nx := 133) dX12_goalIn_130 rfl ml_J9_min_f86c9 lk_X12_273 st_J9_min_f86c9 ⟨(Nat.le_of_ble_eq_true rfl), (Nat.le_of_ble_eq_true rfl)⟩ (Nat.le_of_ble_eq_true rfl) ⟨rfl, rfl⟩ (ct_minL _ _ _) ?_
      refine JcS2 (R' := rm (0) 0 0) (nx := 136) dX12_goalIn_133 rfl ml_J9_max_f86c9 lk_X12_277 st_J9_max_f86c9 ⟨(Nat.le_of_ble_eq_true rfl), (Nat.le_of_ble_eq_true rfl)⟩ (Nat.le_of_ble_eq_true rfl) ⟨rfl, rfl⟩ (ct_maxL _ _ _) ?_
      refine J_l2i (nx := 137) dX12_goalIn_136 rfl ?_
      exact Jri dX12_goalIn_137 rfl (Nat.zero_le _) (Nat.zero_le _) (RXi.of ⟨by rw [hr, hls]; rfl, hf⟩)
    · exact absurd (show nI N ≤ nI n from by rw [show n = N by omega]; exact le_self_nI) (by rw [show gA g1 64 (1310 + 861 * 4) = nI N from hN] at c_30; exact c_30)
  | succ k ih =>
    intro n a g1 ls hk hnk hl hfo hf hW hF hN hr
    obtain ⟨l, ls, rfl⟩ : ∃ p r, ls = p :: r := by
      cases ls with
      | nil => exact absurd hk (by simp)
      | cons p r => exact ⟨p, r, rfl⟩
    have hk2 : ls.length = k := by simpa using hk
    have hl0 : MLn (gA g1 64) 4 n l := by
      have z := hl 0 (by simp)
      rw [hW]; exact z
    obtain ⟨w0, w1, w2, b4, hb4⟩ := hl0
    have hl2 : ∀ q, q < ls.length → MLn W 4 (n + 1 + q) (ls.getD q (0, 0, 0, [])) := fun q hq => by
      have z := hl (q + 1) (by simp; omega)
      rw [show n + (q + 1) = n + 1 + q by omega] at z
      exact z
    have hfo2 : FOK ls := fun l hl => hfo l (List.mem_cons_of_mem _ hl)
    have hN12 : N = n + 1 + ls.length := by rw [hnk]; simp; omega
    refine J_iload (nx := 25) dX12_goalIn_23 rfl rfl ?_
    refine J_aload_n (nx := 26) dX12_goalIn_25 rfl rfl ?_
    refine J_iconst (nx := 27) (i := 4) (v := 4) (by decide) dX12_goalIn_26 rfl ?_
    refine JcV1 (R' := rm (1) 0 0) (nx := 30) dX12_goalIn_27 rfl ml_X12_lines lk_X12_265 iv_X12_lines rfl rfl ⟨(Nat.le_of_ble_eq_true rfl), (Nat.le_of_ble_eq_true rfl)⟩ (Nat.le_of_ble_eq_true rfl) ⟨rfl, rfl⟩ (ct_m_lines _ 4 (by decide)) ?_
    refine J_icmp_ge (nx := 33) (tgt := 125) dX12_goalIn_30 rfl (by decide) (fun c_30 => ?_) (fun c_30 => ?_)
    · exact absurd (show nI N ≤ nI n from by rw [show gA g1 64 (1310 + 861 * 4) = nI N from hN] at c_30; exact c_30) (nlt_nI (by omega) (by omega))
    · refine J_aload_n (nx := 34) dX12_goalIn_33 rfl rfl ?_
      refine J_iconst (nx := 35) (i := 4) (v := 4) (by decide) dX12_goalIn_34 rfl ?_
      refine J_iload (nx := 37) dX12_goalIn_35 rfl rfl ?_
      refine JiV2 (R' := rm (2) 0 0) (nx := 40) dX12_goalIn_37 rfl ml_X12_holdsLine lk_X12_268 iv_X12_holdsLine rfl rfl ⟨(Nat.le_of_ble_eq_true rfl), (Nat.le_of_ble_eq_true rfl)⟩ (Nat.le_of_ble_eq_true rfl) ⟨rfl, rfl⟩ (ct_m_holdsLine g1 4 n b4 l.2.2.2 (by decide) (by omega) hb4) (fun x_37 g_37 p_37 => ?_)
      obtain ⟨e37, V37, hV37⟩ := p_37
      subst hV37
      refine J_if_ne (nx := 43) (tgt := 46) dX12_goalIn_40 rfl (by decide) (fun c_40 => ?_) (fun c_40 => ?_)
      · have e40 : ¬ txH F l.2.2.2 = false := by rw [← hF]; exact fun z => c_40 (by rw [e37, z]; rfl)
        refine J_iconst (nx := 47) (i := 4) (v := 4) (by decide) dX12_goalIn_46 rfl ?_
        refine J_iload (nx := 49) dX12_goalIn_47 rfl rfl ?_
        refine JcS2 (R' := rm (1) 0 0) (nx := 52) dX12_goalIn_49 rfl ml_X12_lineAt lk_X12_218 st_X12_lineAt ⟨(Nat.le_of_ble_eq_true rfl), (Nat.le_of_ble_eq_true rfl)⟩ (Nat.le_of_ble_eq_true rfl) ⟨rfl, rfl⟩ (ct_m_lineAt _ (4) (n)) ?_
        refine J_istore (nx := 54) dX12_goalIn_52 rfl rfl (Nat.le_of_ble_eq_true rfl) ?_
        refine J_aload_n (nx := 55) dX12_goalIn_54 rfl rfl ?_
        refine Jg_63_1 (nx := 58) dX12_goalIn_55 rfl fl_X12_13 ?_
        refine J_iload (nx := 60) dX12_goalIn_58 rfl rfl ?_
        refine J_iconst (nx := 61) (i := 1) (v := 1) (by decide) dX12_goalIn_60 rfl ?_
        refine J_iadd (nx := 62) dX12_goalIn_61 rfl ?_
        refine Ja_64 (nx := 63) dX12_goalIn_62 rfl (vpE (n := (1310 + 861 * 4 + 1 + 5 * n + 1)) (nIa (Eq.refl (nI (1310 + 861 * 4 + 1 + 5 * n))) (nIc 1)) (by omega) (by decide)) ?_
        rw [clE (n := (1310 + 861 * 4 + 1 + 5 * n + 1)) (nIa (Eq.refl (nI (1310 + 861 * 4 + 1 + 5 * n))) (nIc 1)) (by omega)]
        refine J_i2l (nx := 64) dX12_goalIn_63 rfl ?_
        refine J_aload_n (nx := 65) dX12_goalIn_64 rfl rfl ?_
        refine Jg_63_1 (nx := 68) dX12_goalIn_65 rfl fl_X12_13 ?_
        refine J_iload (nx := 70) dX12_goalIn_68 rfl rfl ?_
        refine J_iconst (nx := 71) (i := 2) (v := 2) (by decide) dX12_goalIn_70 rfl ?_
        refine J_iadd (nx := 72) dX12_goalIn_71 rfl ?_
        refine Ja_64 (nx := 73) dX12_goalIn_72 rfl (vpE (n := (1310 + 861 * 4 + 1 + 5 * n + 2)) (nIa (Eq.refl (nI (1310 + 861 * 4 + 1 + 5 * n))) (nIc 2)) (by omega) (by decide)) ?_
        rw [clE (n := (1310 + 861 * 4 + 1 + 5 * n + 2)) (nIa (Eq.refl (nI (1310 + 861 * 4 + 1 + 5 * n))) (nIc 2)) (by omega)]
        refine J_if_ge (nx := 76) (tgt := 80) dX12_goalIn_73 rfl (by decide) (fun c_73 => ?_) (fun c_73 => ?_)
        · refine J_aload_n (nx := 81) dX12_goalIn_80 rfl rfl ?_
          refine Jg_63_17 (nx := 84) dX12_goalIn_81 rfl fl_X12_36 ?_
          refine J_aload_n (nx := 85) dX12_goalIn_84 rfl rfl ?_
          refine Jg_63_1 (nx := 88) dX12_goalIn_85 rfl fl_X12_13 ?_
          refine J_iload (nx := 90) dX12_goalIn_88 rfl rfl ?_
          refine J_iconst (nx := 91) (i := 2) (v := 2) (by decide) dX12_goalIn_90 rfl ?_
          refine J_iadd (nx := 92) dX12_goalIn_91 rfl ?_
          refine Ja_64 (nx := 93) dX12_goalIn_92 rfl (vpE (n := (1310 + 861 * 4 + 1 + 5 * n + 2)) (nIa (Eq.refl (nI (1310 + 861 * 4 + 1 + 5 * n))) (nIc 2)) (by omega) (by decide)) ?_
          rw [clE (n := (1310 + 861 * 4 + 1 + 5 * n + 2)) (nIa (Eq.refl (nI (1310 + 861 * 4 + 1 + 5 * n))) (nIc 2)) (by omega)]
          have hix : vp_in (gA g1 64 (1310 + 861 * 4 + 1 + 5 * n + 2)) 8 := by
            rw [w2]
            rcases hfo l (List.mem_cons_self ..) with z | ⟨f, hf8, z⟩
            · exact absurd (show 0 ≤ l.2.2.1 from w2 ▸ c_73) (lt_nle z)
            · rw [z]; exact vp_in_nI hf8 (by decide)
          refine Ja_70 (nx := 94) dX12_goalIn_93 rfl hix ?_
          refine J_i2l (nx := 95) dX12_goalIn_94 rfl ?_
          refine J_lmul (nx := 96) dX12_goalIn_95 rfl ?_
          refine J_lstore (nx := 98) dX12_goalIn_96 rfl rfl (Nat.le_of_ble_eq_true rfl) ?_
          refine J_lload_n (nx := 99) dX12_goalIn_98 rfl rfl ?_
          refine J_aload_n (nx := 100) dX12_goalIn_99 rfl rfl ?_
          refine Jg_63_1 (nx := 103) dX12_goalIn_100 rfl fl_X12_13 ?_
          refine J_iload (nx := 105) dX12_goalIn_103 rfl rfl ?_
          refine Ja_64 (nx := 106) dX12_goalIn_105 rfl (vpE (n := 1310 + 861 * 4 + 1 + 5 * n) (Eq.refl (nI (1310 + 861 * 4 + 1 + 5 * n))) (by omega) (by decide)) ?_
          rw [clE (n := 1310 + 861 * 4 + 1 + 5 * n) (Eq.refl (nI (1310 + 861 * 4 + 1 + 5 * n))) (by omega)]
          refine J_if_ne (nx := 109) (tgt := 114) dX12_goalIn_106 rfl (by decide) (fun c_106 => ?_) (fun c_106 => ?_)
          · refine J_lload (nx := 116) dX12_goalIn_114 rfl rfl ?_
            refine J_lneg (nx := 117) dX12_goalIn_116 rfl ?_
            refine J_ladd (nx := 118) dX12_goalIn_117 rfl ?_
            refine J_lstore_n (nx := 119) dX12_goalIn_118 rfl rfl (Nat.le_of_ble_eq_true rfl) ?_
            refine J_iinc (nx := 122) dX12_goalIn_119 rfl rfl rfl (Nat.le_of_ble_eq_true rfl) ?_
            refine J_goto (nx := 23) dX12_goalIn_122 (by decide) ?_
            rw [show (nI (n) + Int32.ofInt 1) = nI (n + 1) from (show nI (n) + Int32.ofInt 1 = nI (n + 1) from nI_add (n) 1)]
            refine J_kill (nx := 0) 5 ?_
            refine J_kill (nx := 0) 6 ?_
            refine ih (n + 1) _ _ ls hk2 (by omega) hl2 hfo2 (fr_val hf rfl) hW hF hN ?_
            rw [hr]
            show mxI32 (mGS F ls (if txH F l.2.2.2 = false then a else _)) = _
            rw [if_neg e40, ← hF]
            congr 2
            unfold mlV
            rw [← w0, ← w1, ← w2]
            first
            | rw [if_pos (show ¬ gA g1 64 (1310 + 861 * 4 + 1 + 5 * n) = 0 from c_106), if_pos (show 0 ≤ gA g1 64 (1310 + 861 * 4 + 1 + 5 * n + 2) from c_73)]
            | rw [if_pos (show ¬ gA g1 64 (1310 + 861 * 4 + 1 + 5 * n) = 0 from c_106), if_neg (show ¬ 0 ≤ gA g1 64 (1310 + 861 * 4 + 1 + 5 * n + 2) from c_73)]
            | rw [if_neg (show ¬ ¬ gA g1 64 (1310 + 861 * 4 + 1 + 5 * n) = 0 from fun z => z c_106), if_pos (show 0 ≤ gA g1 64 (1310 + 861 * 4 + 1 + 5 * n + 2) from c_73)]
            | rw [if_neg (show ¬ ¬ gA g1 64 (1310 + 861 * 4 + 1 + 5 * n) = 0 from fun z => z c_106), if_neg (show ¬ 0 ≤ gA g1 64 (1310 + 861 * 4 + 1 + 5 * n + 2) from c_73)]
            rfl
          · refine J_lload (nx := 111) dX12_goalIn_109 rfl rfl ?_
            refine J_goto (nx := 117) dX12_goalIn_111 (by decide) ?_
            refine J_ladd (nx := 118) dX12_goalIn_117 rfl ?_
            refine J_lstore_n (nx := 119) dX12_goalIn_118 rfl rfl (Nat.le_of_ble_eq_true rfl) ?_
            refine J_iinc (nx := 122) dX12_goalIn_119 rfl rfl rfl (Nat.le_of_ble_eq_true rfl) ?_
            refine J_goto (nx := 23) dX12_goalIn_122 (by decide) ?_
            rw [show (nI (n) + Int32.ofInt 1) = nI (n + 1) from (show nI (n) + Int32.ofInt 1 = nI (n + 1) from nI_add (n) 1)]
            refine J_kill (nx := 0) 5 ?_
            refine J_kill (nx := 0) 6 ?_
            refine ih (n + 1) _ _ ls hk2 (by omega) hl2 hfo2 (fr_val hf rfl) hW hF hN ?_
            rw [hr]
            show mxI32 (mGS F ls (if txH F l.2.2.2 = false then a else _)) = _
            rw [if_neg e40, ← hF]
            congr 2
            unfold mlV
            rw [← w0, ← w1, ← w2]
            first
            | rw [if_pos (show ¬ gA g1 64 (1310 + 861 * 4 + 1 + 5 * n) = 0 from c_106), if_pos (show 0 ≤ gA g1 64 (1310 + 861 * 4 + 1 + 5 * n + 2) from c_73)]
            | rw [if_pos (show ¬ gA g1 64 (1310 + 861 * 4 + 1 + 5 * n) = 0 from c_106), if_neg (show ¬ 0 ≤ gA g1 64 (1310 + 861 * 4 + 1 + 5 * n + 2) from c_73)]
            | rw [if_neg (show ¬ ¬ gA g1 64 (1310 + 861 * 4 + 1 + 5 * n) = 0 from fun z => z c_106), if_pos (show 0 ≤ gA g1 64 (1310 + 861 * 4 + 1 + 5 * n + 2) from c_73)]
            | rw [if_neg (show ¬ ¬ gA g1 64 (1310 + 861 * 4 + 1 + 5 * n) = 0 from fun z => z c_106), if_neg (show ¬ 0 ≤ gA g1 64 (1310 + 861 * 4 + 1 + 5 * n + 2) from c_73)]
            rfl
        · refine J_iconst (nx := 77) (i := 1) (v := 1) (by decide) dX12_goalIn_76 rfl ?_
          refine J_goto (nx := 94) dX12_goalIn_77 (by decide) ?_
          refine J_i2l (nx := 95) dX12_goalIn_94 rfl ?_
          refine J_lmul (nx := 96) dX12_goalIn_95 rfl ?_
          refine J_lstore (nx := 98) dX12_goalIn_96 rfl rfl (Nat.le_of_ble_eq_true rfl) ?_
          refine J_lload_n (nx := 99) dX12_goalIn_98 rfl rfl ?_
          refine J_aload_n (nx := 100) dX12_goalIn_99 rfl rfl ?_
          refine Jg_63_1 (nx := 103) dX12_goalIn_100 rfl fl_X12_13 ?_
          refine J_iload (nx := 105) dX12_goalIn_103 rfl rfl ?_
          refine Ja_64 (nx := 106) dX12_goalIn_105 rfl (vpE (n := 1310 + 861 * 4 + 1 + 5 * n) (Eq.refl (nI (1310 + 861 * 4 + 1 + 5 * n))) (by omega) (by decide)) ?_
          rw [clE (n := 1310 + 861 * 4 + 1 + 5 * n) (Eq.refl (nI (1310 + 861 * 4 + 1 + 5 * n))) (by omega)]
          refine J_if_ne (nx := 109) (tgt := 114) dX12_goalIn_106 rfl (by decide) (fun c_106 => ?_) (fun c_106 => ?_)
          · refine J_lload (nx := 116) dX12_goalIn_114 rfl rfl ?_
            refine J_lneg (nx := 117) dX12_goalIn_116 rfl ?_
            refine J_ladd (nx := 118) dX12_goalIn_117 rfl ?_
            refine J_lstore_n (nx := 119) dX12_goalIn_118 rfl rfl (Nat.le_of_ble_eq_true rfl) ?_
            refine J_iinc (nx := 122) dX12_goalIn_119 rfl rfl rfl (Nat.le_of_ble_eq_true rfl) ?_
            refine J_goto (nx := 23) dX12_goalIn_122 (by decide) ?_
            rw [show (nI (n) + Int32.ofInt 1) = nI (n + 1) from (show nI (n) + Int32.ofInt 1 = nI (n + 1) from nI_add (n) 1)]
            refine J_kill (nx := 0) 5 ?_
            refine J_kill (nx := 0) 6 ?_
            refine ih (n + 1) _ _ ls hk2 (by omega) hl2 hfo2 (fr_val hf rfl) hW hF hN ?_
            rw [hr]
            show mxI32 (mGS F ls (if txH F l.2.2.2 = false then a else _)) = _
            rw [if_neg e40, ← hF]
            congr 2
            unfold mlV
            rw [← w0, ← w1, ← w2]
            first
            | rw [if_pos (show ¬ gA g1 64 (1310 + 861 * 4 + 1 + 5 * n) = 0 from c_106), if_pos (show 0 ≤ gA g1 64 (1310 + 861 * 4 + 1 + 5 * n + 2) from c_73)]
            | rw [if_pos (show ¬ gA g1 64 (1310 + 861 * 4 + 1 + 5 * n) = 0 from c_106), if_neg (show ¬ 0 ≤ gA g1 64 (1310 + 861 * 4 + 1 + 5 * n + 2) from c_73)]
            | rw [if_neg (show ¬ ¬ gA g1 64 (1310 + 861 * 4 + 1 + 5 * n) = 0 from fun z => z c_106), if_pos (show 0 ≤ gA g1 64 (1310 + 861 * 4 + 1 + 5 * n + 2) from c_73)]
            | rw [if_neg (show ¬ ¬ gA g1 64 (1310 + 861 * 4 + 1 + 5 * n) = 0 from fun z => z c_106), if_neg (show ¬ 0 ≤ gA g1 64 (1310 + 861 * 4 + 1 + 5 * n + 2) from c_73)]
            rfl
          · refine J_lload (nx := 111) dX12_goalIn_109 rfl rfl ?_
            refine J_goto (nx := 117) dX12_goalIn_111 (by decide) ?_
            refine J_ladd (nx := 118) dX12_goalIn_117 rfl ?_
            refine J_lstore_n (nx := 119) dX12_goalIn_118 rfl rfl (Nat.le_of_ble_eq_true rfl) ?_
            refine J_iinc (nx := 122) dX12_goalIn_119 rfl rfl rfl (Nat.le_of_ble_eq_true rfl) ?_
            refine J_goto (nx := 23) dX12_goalIn_122 (by decide) ?_
            rw [show (nI (n) + Int32.ofInt 1) = nI (n + 1) from (show nI (n) + Int32.ofInt 1 = nI (n + 1) from nI_add (n) 1)]
            refine J_kill (nx := 0) 5 ?_
            refine J_kill (nx := 0) 6 ?_
            refine ih (n + 1) _ _ ls hk2 (by omega) hl2 hfo2 (fr_val hf rfl) hW hF hN ?_
            rw [hr]
            show mxI32 (mGS F ls (if txH F l.2.2.2 = false then a else _)) = _
            rw [if_neg e40, ← hF]
            congr 2
            unfold mlV
            rw [← w0, ← w1, ← w2]
            first
            | rw [if_pos (show ¬ gA g1 64 (1310 + 861 * 4 + 1 + 5 * n) = 0 from c_106), if_pos (show 0 ≤ gA g1 64 (1310 + 861 * 4 + 1 + 5 * n + 2) from c_73)]
            | rw [if_pos (show ¬ gA g1 64 (1310 + 861 * 4 + 1 + 5 * n) = 0 from c_106), if_neg (show ¬ 0 ≤ gA g1 64 (1310 + 861 * 4 + 1 + 5 * n + 2) from c_73)]
            | rw [if_neg (show ¬ ¬ gA g1 64 (1310 + 861 * 4 + 1 + 5 * n) = 0 from fun z => z c_106), if_pos (show 0 ≤ gA g1 64 (1310 + 861 * 4 + 1 + 5 * n + 2) from c_73)]
            | rw [if_neg (show ¬ ¬ gA g1 64 (1310 + 861 * 4 + 1 + 5 * n) = 0 from fun z => z c_106), if_neg (show ¬ 0 ≤ gA g1 64 (1310 + 861 * 4 + 1 + 5 * n + 2) from c_73)]
            rfl
      · have e40 : txH F l.2.2.2 = false := by rw [← hF]; exact bI_0.mp (by rw [← e37]; exact c_40)
        refine J_goto (nx := 119) dX12_goalIn_43 (by decide) ?_
        refine J_iinc (nx := 122) dX12_goalIn_119 rfl rfl rfl (Nat.le_of_ble_eq_true rfl) ?_
        refine J_goto (nx := 23) dX12_goalIn_122 (by decide) ?_
        rw [show (nI (n) + Int32.ofInt 1) = nI (n + 1) from (show nI (n) + Int32.ofInt 1 = nI (n + 1) from nI_add (n) 1)]
        refine ih (n + 1) _ _ ls hk2 (by omega) hl2 hfo2 (fr_val hf rfl) hW hF hN ?_
        rw [hr]
        show mxI32 (mGS F ls (if txH F l.2.2.2 = false then a else _)) = _
        rw [if_pos e40]

set_option maxRecDepth 100000 in
set_option maxHeartbeats 4000000 in
theorem ct_m_goalIn (g : GS) (m : Int32) (ls : List TxL) (h : ¬ gA g 64 3 = 0 → MTx (gA g 64) 4 ls) (hfo : FOK ls) : Ct mX12_goalIn (rm 3 0 0) [.ref 63, .int m] (Wd g) (RXi (fun x g2 => x = mGw g m ls ∧ Fr f0 a7 g g2)) := by
  refine Ct.of (by decide +kernel) (Nat.le_of_ble_eq_true rfl) ?_
  show J _ _ _ _ 0 [some (.ref 63), some (.int m), none, none, none, none, none, none] [] _ 0 0
  refine J_aload_n (nx := 1) dX12_goalIn_0 rfl rfl ?_
  refine Jg_63_1 (nx := 4) dX12_goalIn_1 rfl fl_X12_13 ?_
  refine J_iconst (nx := 5) (i := 3) (v := 3) (by decide) dX12_goalIn_4 rfl ?_
  refine Ja_64 (nx := 6) dX12_goalIn_5 rfl (vpE (n := 3) (nIc 3) (by omega) (by decide)) ?_
  rw [clE (n := 3) (nIc 3) (by omega)]
  refine J_if_ne (nx := 9) (tgt := 13) dX12_goalIn_6 rfl (by decide) (fun c_6 => ?_) (fun c_6 => ?_)
  · have h := h c_6
    refine J_aload_n (nx := 14) dX12_goalIn_13 rfl rfl ?_
    refine J_iload_n (nx := 15) dX12_goalIn_14 rfl rfl ?_
    refine JcV1 (R' := rm (1) 0 0) (nx := 18) dX12_goalIn_15 rfl ml_X12_setsFacts lk_X12_262 iv_X12_setsFacts rfl rfl ⟨(Nat.le_of_ble_eq_true rfl), (Nat.le_of_ble_eq_true rfl)⟩ (Nat.le_of_ble_eq_true rfl) ⟨rfl, rfl⟩ (ct_m_setsFacts _ _) ?_
    refine J_lconst (nx := 19) (i := 0) (v := 0) (by decide) dX12_goalIn_18 rfl ?_
    refine J_lstore_n (nx := 20) dX12_goalIn_19 rfl rfl (Nat.le_of_ble_eq_true rfl) ?_
    refine J_iconst (nx := 21) (i := 0) (v := 0) (by decide) dX12_goalIn_20 rfl ?_
    refine J_istore (nx := 23) dX12_goalIn_21 rfl rfl (Nat.le_of_ble_eq_true rfl) ?_
    obtain ⟨r, hr⟩ : ∃ r, r = mGw g m ls := ⟨_, rfl⟩
    rw [← hr]
    obtain ⟨h1, h2, h3⟩ := h
    exact lp_m_goalIn g m (gA g 64) (gA (sfG g m) 70) ls.length h2 r _ ls.length 0 0 (sfG g m) ls rfl (by omega) (fun q hq => by rw [Nat.zero_add]; exact h3 q hq) hfo (fr_sfG Fr.rf) rfl rfl h1 (hr.trans (by unfold mGw; rw [if_neg c_6]; rfl))
  · refine J_sipush (nx := 12) (i := 10000) (v := 10000) (by decide) dX12_goalIn_9 rfl ?_
    exact Jri dX12_goalIn_12 rfl (Nat.zero_le _) (Nat.zero_le _) (RXi.of ⟨by unfold mGw; rw [if_pos c_6], Fr.rf⟩)

set_option maxRecDepth 100000 in
set_option maxHeartbeats 4000000 in
theorem lp_m_says (g0 : GS) (t s j : Nat) (W F : Nat → Int32) (N : Nat) (ht : t < 4) (hN12 : N ≤ 12) (r : Int32) (n0 : Nat) : ∀ (k : Nat) (n : Nat) (g1 : GS) (ls : List TxL), ls.length = k → N = n + ls.length → (∀ q, q < ls.length → MLn W t (n + q) (ls.getD q (0, 0, 0, []))) → Fr f0 a7 g0 g1 → gA g1 64 = W → gA g1 70 = F → gA g1 64 (1310 + 861 * t) = nI N → r = txDo F ls → J mX12_says (rm 3 0 0) (RXi (fun x g2 => x = r ∧ Fr f0 a7 g0 g2)) n0 74 [some (.ref 63), some (.int (nI (t))), some (.int (nI (s))), some (.int (nI (j))), some (.int (nI (n)))] [] (Wd g1) 0 0 := by
  intro k
  induction k with
  | zero =>
    intro n g1 ls hk hnk hl hf hW hF hN hr
    have hls : ls = [] := List.eq_nil_of_length_eq_zero hk
    refine J_iload (nx := 76) dX12_says_74 rfl rfl ?_
    refine J_aload_n (nx := 77) dX12_says_76 rfl rfl ?_
    refine J_iload_n (nx := 78) dX12_says_77 rfl rfl ?_
    refine JcV1 (R' := rm (1) 0 0) (nx := 81) dX12_says_78 rfl ml_X12_lines lk_X12_265 iv_X12_lines rfl rfl ⟨(Nat.le_of_ble_eq_true rfl), (Nat.le_of_ble_eq_true rfl)⟩ (Nat.le_of_ble_eq_true rfl) ⟨rfl, rfl⟩ (ct_m_lines _ t (by omega)) ?_
    refine J_icmp_ge (nx := 84) (tgt := 112) dX12_says_81 rfl (by decide) (fun c_81 => ?_) (fun c_81 => ?_)
    · refine J_iconst (nx := 113) (i := 2) (v := 2) (by decide) dX12_says_112 rfl ?_
      exact Jri dX12_says_113 rfl (Nat.zero_le _) (Nat.zero_le _) (RXi.of ⟨by rw [hr, hls]; rfl, hf⟩)
    · exact absurd (show nI N ≤ nI n from by rw [show n = N by omega]; exact le_self_nI) (by rw [show gA g1 64 (1310 + 861 * t) = nI N from hN] at c_81; exact c_81)
  | succ k ih =>
    intro n g1 ls hk hnk hl hf hW hF hN hr
    obtain ⟨l, ls, rfl⟩ : ∃ p r, ls = p :: r := by
      cases ls with
      | nil => exact absurd hk (by simp)
      | cons p r => exact ⟨p, r, rfl⟩
    have hk2 : ls.length = k := by simpa using hk
    have hl0 : MLn (gA g1 64) t n l := by
      have z := hl 0 (by simp)
      rw [hW]; exact z
    obtain ⟨w0, w1, w2, b4, hb4⟩ := hl0
    have hl2 : ∀ q, q < ls.length → MLn W t (n + 1 + q) (ls.getD q (0, 0, 0, [])) := fun q hq => by
      have z := hl (q + 1) (by simp; omega)
      rw [show n + (q + 1) = n + 1 + q by omega] at z
      exact z
    have hN12 : N = n + 1 + ls.length := by rw [hnk]; simp; omega
    refine J_iload (nx := 76) dX12_says_74 rfl rfl ?_
    refine J_aload_n (nx := 77) dX12_says_76 rfl rfl ?_
    refine J_iload_n (nx := 78) dX12_says_77 rfl rfl ?_
    refine JcV1 (R' := rm (1) 0 0) (nx := 81) dX12_says_78 rfl ml_X12_lines lk_X12_265 iv_X12_lines rfl rfl ⟨(Nat.le_of_ble_eq_true rfl), (Nat.le_of_ble_eq_true rfl)⟩ (Nat.le_of_ble_eq_true rfl) ⟨rfl, rfl⟩ (ct_m_lines _ t (by omega)) ?_
    refine J_icmp_ge (nx := 84) (tgt := 112) dX12_says_81 rfl (by decide) (fun c_81 => ?_) (fun c_81 => ?_)
    · exact absurd (show nI N ≤ nI n from by rw [show gA g1 64 (1310 + 861 * t) = nI N from hN] at c_81; exact c_81) (nlt_nI (by omega) (by omega))
    · refine J_aload_n (nx := 85) dX12_says_84 rfl rfl ?_
      refine J_iload_n (nx := 86) dX12_says_85 rfl rfl ?_
      refine J_iload (nx := 88) dX12_says_86 rfl rfl ?_
      refine JiV2 (R' := rm (2) 0 0) (nx := 91) dX12_says_88 rfl ml_X12_holdsLine lk_X12_268 iv_X12_holdsLine rfl rfl ⟨(Nat.le_of_ble_eq_true rfl), (Nat.le_of_ble_eq_true rfl)⟩ (Nat.le_of_ble_eq_true rfl) ⟨rfl, rfl⟩ (ct_m_holdsLine g1 t n b4 l.2.2.2 (by omega) (by omega) hb4) (fun x_88 g_88 p_88 => ?_)
      obtain ⟨e37, V37, hV37⟩ := p_88
      subst hV37
      refine J_if_eq (nx := 94) (tgt := 106) dX12_says_91 rfl (by decide) (fun c_91 => ?_) (fun c_91 => ?_)
      · refine J_iinc (nx := 109) dX12_says_106 rfl rfl rfl (Nat.le_of_ble_eq_true rfl) ?_
        refine J_goto (nx := 74) dX12_says_109 (by decide) ?_
        rw [show nI (n) + Int32.ofInt 1 = nI (n + 1) from nI_add n 1]
        refine ih (n + 1) _ ls hk2 (by omega) hl2 (fr_val hf rfl) hW hF hN ?_
        rw [hr]
        show (if txH F l.2.2.2 = false then txDo F ls else _) = _
        rw [if_pos (by rw [← hF]; exact bI_0.mp (by rw [← e37]; exact c_91))]
      · refine J_aload_n (nx := 95) dX12_says_94 rfl rfl ?_
        refine Jg_63_1 (nx := 98) dX12_says_95 rfl fl_X12_13 ?_
        refine J_iload_n (nx := 99) dX12_says_98 rfl rfl ?_
        refine J_iload (nx := 101) dX12_says_99 rfl rfl ?_
        refine JcS2 (R' := rm (1) 0 0) (nx := 104) dX12_says_101 rfl ml_X12_lineAt lk_X12_218 st_X12_lineAt ⟨(Nat.le_of_ble_eq_true rfl), (Nat.le_of_ble_eq_true rfl)⟩ (Nat.le_of_ble_eq_true rfl) ⟨rfl, rfl⟩ (ct_m_lineAt _ (t) (n)) ?_
        refine Ja_64 (nx := 105) dX12_says_104 rfl (vpE (n := 1310 + 861 * t + 1 + 5 * n) (Eq.refl (nI (1310 + 861 * t + 1 + 5 * n))) (by omega) (by decide)) ?_
        rw [clE (n := 1310 + 861 * t + 1 + 5 * n) (Eq.refl (nI (1310 + 861 * t + 1 + 5 * n))) (by omega)]
        exact Jri dX12_says_105 rfl (Nat.zero_le _) (Nat.zero_le _) (RXi.of ⟨by rw [hr]; show _ = (if txH F l.2.2.2 = false then txDo F ls else l.1); rw [if_neg (by rw [← hF]; exact fun z => c_91 (by rw [e37, z]; rfl))]; exact w0, fr_val hf rfl⟩)

set_option maxRecDepth 100000 in
set_option maxHeartbeats 4000000 in
theorem ct_m_says (g : GS) (t s j z : Nat) (ht : t < 4) (hs : s < 32) (hz : gF g 63 24 = nI z) (hz8 : z < 8) (ls : List TxL) (h : MTx (gA g 64) t ls) : Ct mX12_says (rm 3 0 0) [.ref 63, .int (nI (t)), .int (nI (s)), .int (nI (j))] (Wd g) (RXi (fun x g2 => x = txDo (gA (syG g s j) 70) ls ∧ Fr f0 a7 g g2)) := by
  refine Ct.of (by decide +kernel) (Nat.le_of_ble_eq_true rfl) ?_
  show J _ _ _ _ 0 [some (.ref 63), some (.int (nI (t))), some (.int (nI (s))), some (.int (nI (j))), none] [] _ 0 0
  refine J_aload_n (nx := 1) dX12_says_0 rfl rfl ?_
  refine J_aload_n (nx := 2) dX12_says_1 rfl rfl ?_
  refine Jg_63_21 (nx := 5) dX12_says_2 rfl fl_X12_285 ?_
  refine JcV1 (R' := rm (1) 0 0) (nx := 8) dX12_says_5 rfl ml_X12_setsFacts lk_X12_262 iv_X12_setsFacts rfl rfl ⟨(Nat.le_of_ble_eq_true rfl), (Nat.le_of_ble_eq_true rfl)⟩ (Nat.le_of_ble_eq_true rfl) ⟨rfl, rfl⟩ (ct_m_setsFacts _ _) ?_
  refine J_aload_n (nx := 9) dX12_says_8 rfl rfl ?_
  refine Jg_63_17 (nx := 12) dX12_says_9 rfl fl_X12_36 ?_
  refine J_iconst (nx := 13) (i := 3) (v := 3) (by decide) dX12_says_12 rfl ?_
  refine J_iload_n (nx := 14) dX12_says_13 rfl rfl ?_
  refine J_iconst (nx := 15) (i := 4) (v := 4) (by decide) dX12_says_14 rfl ?_
  refine J_idiv (nx := 16) (by decide) dX12_says_15 rfl ?_
  refine Jt_70 (nx := 17) dX12_says_16 rfl (vpE (n := 3) (nIc 3) (by omega) (by decide)) ?_
  rw [clE (n := 3) (nIc 3) (by omega)]
  refine J_aload_n (nx := 18) dX12_says_17 rfl rfl ?_
  refine Jg_63_17 (nx := 21) dX12_says_18 rfl fl_X12_36 ?_
  refine J_iconst (nx := 22) (i := 4) (v := 4) (by decide) dX12_says_21 rfl ?_
  refine J_iload_n (nx := 23) dX12_says_22 rfl rfl ?_
  refine J_iconst (nx := 24) (i := 4) (v := 4) (by decide) dX12_says_23 rfl ?_
  refine J_irem (nx := 25) (by decide) dX12_says_24 rfl ?_
  refine Jt_70 (nx := 26) dX12_says_25 rfl (vpE (n := 4) (nIc 4) (by omega) (by decide)) ?_
  rw [clE (n := 4) (nIc 4) (by omega)]
  refine J_aload_n (nx := 27) dX12_says_26 rfl rfl ?_
  refine Jg_63_17 (nx := 30) dX12_says_27 rfl fl_X12_36 ?_
  refine J_iconst (nx := 31) (i := 5) (v := 5) (by decide) dX12_says_30 rfl ?_
  refine J_iload_n (nx := 32) dX12_says_31 rfl rfl ?_
  refine Jt_70 (nx := 33) dX12_says_32 rfl (vpE (n := 5) (nIc 5) (by omega) (by decide)) ?_
  rw [clE (n := 5) (nIc 5) (by omega)]
  refine J_aload_n (nx := 34) dX12_says_33 rfl rfl ?_
  refine Jg_63_17 (nx := 37) dX12_says_34 rfl fl_X12_36 ?_
  refine J_bipush (nx := 39) (i := 6) (v := 6) (by decide) dX12_says_37 rfl ?_
  refine J_aload_n (nx := 40) dX12_says_39 rfl rfl ?_
  refine Jg_63_1 (nx := 43) dX12_says_40 rfl fl_X12_13 ?_
  refine J_bipush (nx := 45) (i := 10) (v := 10) (by decide) dX12_says_43 rfl ?_
  refine J_aload_n (nx := 46) dX12_says_45 rfl rfl ?_
  refine Jg_63_24 (nx := 49) dX12_says_46 rfl fl_X12_305 ?_
  refine J_iadd (nx := 50) dX12_says_49 rfl ?_
  refine Ja_64 (nx := 51) dX12_says_50 rfl (show vp_in (10 + gF g 63 24) 6476 from by rw [hz, show (10 : Int32) = nI 10 from rfl, nI_add]; exact vp_in_nI (by omega) (by decide)) ?_
  refine Jt_70 (nx := 52) dX12_says_51 rfl (vpE (n := 6) (nIc 6) (by omega) (by decide)) ?_
  rw [clE (n := 6) (nIc 6) (by omega)]
  refine J_aload_n (nx := 53) dX12_says_52 rfl rfl ?_
  refine Jg_63_17 (nx := 56) dX12_says_53 rfl fl_X12_36 ?_
  refine J_bipush (nx := 58) (i := 7) (v := 7) (by decide) dX12_says_56 rfl ?_
  refine J_aload_n (nx := 59) dX12_says_58 rfl rfl ?_
  refine Jg_63_25 (nx := 62) dX12_says_59 rfl fl_X12_314 ?_
  refine J_if_eq (nx := 65) (tgt := 69) dX12_says_62 rfl (by decide) (fun c_62 => ?_) (fun c_62 => ?_)
  · refine J_iconst (nx := 70) (i := 0) (v := 0) (by decide) dX12_says_69 rfl ?_
    refine Jt_70 (nx := 71) dX12_says_70 rfl (vpE (n := 7) (nIc 7) (by omega) (by decide)) ?_
    rw [clE (n := 7) (nIc 7) (by omega)]
    refine J_iconst (nx := 72) (i := 0) (v := 0) (by decide) dX12_says_71 rfl ?_
    refine J_istore (nx := 74) dX12_says_72 rfl rfl (Nat.le_of_ble_eq_true rfl) ?_
    obtain ⟨h1, h2, h3⟩ := h
    refine J.es (es1 := Wd (syG g s j)) (congrArg Wd (?_ : _ = syG g s j)) (lp_m_says g t s j (gA g 64) (gA (syG g s j) 70) ls.length ht h2 _ _ ls.length 0 (syG g s j) ls rfl (by omega) (fun q hq => by rw [Nat.zero_add]; exact h3 q hq) (fr_syG Fr.rf) rfl rfl h1 rfl)
    unfold syG
    first | (rw [if_pos (show gF g 63 25 = 0 from c_62)]; rfl) | (rw [if_neg (show ¬ gF g 63 25 = 0 from c_62)]; rfl)
  · refine J_iconst (nx := 66) (i := 1) (v := 1) (by decide) dX12_says_65 rfl ?_
    refine J_goto (nx := 70) dX12_says_66 (by decide) ?_
    refine Jt_70 (nx := 71) dX12_says_70 rfl (vpE (n := 7) (nIc 7) (by omega) (by decide)) ?_
    rw [clE (n := 7) (nIc 7) (by omega)]
    refine J_iconst (nx := 72) (i := 0) (v := 0) (by decide) dX12_says_71 rfl ?_
    refine J_istore (nx := 74) dX12_says_72 rfl rfl (Nat.le_of_ble_eq_true rfl) ?_
    obtain ⟨h1, h2, h3⟩ := h
    refine J.es (es1 := Wd (syG g s j)) (congrArg Wd (?_ : _ = syG g s j)) (lp_m_says g t s j (gA g 64) (gA (syG g s j) 70) ls.length ht h2 _ _ ls.length 0 (syG g s j) ls rfl (by omega) (fun q hq => by rw [Nat.zero_add]; exact h3 q hq) (fr_syG Fr.rf) rfl rfl h1 rfl)
    unfold syG
    first | (rw [if_pos (show gF g 63 25 = 0 from c_62)]; rfl) | (rw [if_neg (show ¬ gF g 63 25 = 0 from c_62)]; rfl)

