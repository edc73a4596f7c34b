
set_option maxRecDepth 100000 in
set_option maxHeartbeats 4000000 in
theorem ct_ruleOf (g : GS) (i c : Nat) (hi : i < 4) (hp : gP g 29 i = some c) : Ct mX1_ruleOf (rm 0 0 0) [.ref 20, .int (nI i)] (Wd g) (RR (.inl (some (.ref c))) g) := by
  refine Ct.of (by decide +kernel) (Nat.le_of_ble_eq_true rfl) ?_
  show J _ _ _ _ 0 [some (.ref 20), some (.int (nI i))] [] _ 0 0
  refine J_iload_n (nx := 1) dX1_ruleOf_0 rfl rfl ?_
  refine J_if_lt (nx := 4) (tgt := 22) dX1_ruleOf_1 rfl (by decide) (fun c1 => absurd c1 (nI_pos (by omega))) (fun c1 => ?_)
  refine J_iload_n (nx := 5) dX1_ruleOf_4 rfl rfl ?_
  refine J_aload_n (nx := 6) dX1_ruleOf_5 rfl rfl ?_
  refine Jg_20_6 (nx := 9) dX1_ruleOf_6 rfl fl_X1_34 ?_
  refine Jn_29 (nx := 10) dX1_ruleOf_9 rfl ?_
  refine J_icmp_ge (nx := 13) (tgt := 22) dX1_ruleOf_10 rfl (by decide) (fun c2 => absurd c2 (nlt_nI hi (by decide))) (fun c2 => ?_)
  refine J_aload_n (nx := 14) dX1_ruleOf_13 rfl rfl ?_
  refine Jg_20_6 (nx := 17) dX1_ruleOf_14 rfl fl_X1_34 ?_
  refine J_iload_n (nx := 18) dX1_ruleOf_17 rfl rfl ?_
  refine Ja_29 (nx := 19) dX1_ruleOf_18 rfl (vp_in_nI hi (by decide)) ?_
  rw [nI_clamp (by omega), hp]
  refine J_ifnonnullR (nx := 0) (tgt := 27) dX1_ruleOf_19 (by decide) ?_
  refine J_aload_n (nx := 28) dX1_ruleOf_27 rfl rfl ?_
  refine Jg_20_6 (nx := 31) dX1_ruleOf_28 rfl fl_X1_34 ?_
  refine J_iload_n (nx := 32) dX1_ruleOf_31 rfl rfl ?_
  refine Ja_29 (nx := 33) dX1_ruleOf_32 rfl (vp_in_nI hi (by decide)) ?_
  rw [nI_clamp (by omega), hp]
  exact Jra dX1_ruleOf_33 rfl (Or.inl ⟨_, rfl⟩) (Or.inr ⟨_, rfl⟩) (Nat.zero_le _) (Nat.zero_le _) ⟨rfl, rfl⟩
def dcOn (g : GS) (j s : Int32) : Int32 := ltI g s (gF g 20 13 - j) + gF g 40 15
def dcWt (g : GS) (j s : Int32) : Int32 := if gF g 40 12 ≤ j then dcOn g j s else mixI g 352 (gA g 51) s ((j + 1) * 32) (gF g 40 13 + gF g 40 15) (gF g 40 14)
def dcF (g : GS) (j s : Int32) : GS := fput (fput (fput g 0 (s / 4)) 1 (s - s / 4 * 4)) 2 j
def dcD (g : GS) (j s on wt : Int32) : Option CD → Int32
  | none => wsI g j s on wt
  | some cd => (cdD cd (gA (dcF g j s) 48) cd.1 0 (gA (dcF g j s) 49)).1
def dcG (g : GS) (j s : Int32) : Option CD → GS
  | none => g
  | some cd => sA (dcF g j s) 49 (cdD cd (gA (dcF g j s) 48) cd.1 0 (gA (dcF g j s) 49)).2
def dcE1 (g : GS) (j s d : Int32) : GS := sA g 52 (rPut 352 (gA g 52) (j * 32 + s) d)
def dcE2 (g : GS) (j s on wt d : Int32) : GS := sA (dcE1 g j s d) 51 (rPut 352 (gA (dcE1 g j s d) 51) (j * 32 + s) (if d = 0 then gF (dcE1 g j s d) 40 14 else if d = 1 then on else wt))
def dcE (g : GS) (j s on wt d : Int32) : GS := dcE2 g j s on wt (if d = 2 then (if j < gF g 40 12 then d else 1) else d)
def dcAll (g : GS) (j s : Int32) (q : Option CD) : GS := dcE (dcG g j s q) j s (dcOn g j s) (dcWt g j s) (dcD g j s (dcOn g j s) (dcWt g j s) q)
/-- the JUDGE that is seated: none of the RULES, or a RULE's Code -/
def JudgeAt (g : GS) : Option CD → Prop
  | none => gF g 40 8 < 5
  | some cd => ¬ gF g 40 8 < 5 ∧ ∃ (i c : Nat), i < 4 ∧ gF g 40 8 - 5 = nI i ∧ gP g 29 i = some c ∧ CodeT (gT g) c cd

set_option maxRecDepth 100000 in
set_option maxHeartbeats 4000000 in
theorem sg_157 (g : GS) (j s on wt d : Int32) (n0 : Nat) : J mX0_decide (rm 3 0 0) (RR (.inl none) (dcE2 g j s on wt d)) n0 157 [some (.ref 40), some (.int j), some (.int s), some (.int on), some (.int wt), some (.int d)] [] (Wd g) 0 0 := by
  refine J_aload_n (nx := 158) dX0_decide_157 rfl rfl ?_
  refine Jg_40_6 (nx := 161) dX0_decide_158 rfl fl_X0_31 ?_
  refine J_iload_n (nx := 162) dX0_decide_161 rfl rfl ?_
  refine J_bipush (nx := 164) (i := 32) (v := 32) (by decide) dX0_decide_162 rfl ?_
  refine J_imul (nx := 165) dX0_decide_164 rfl ?_
  refine J_iload_n (nx := 166) dX0_decide_165 rfl rfl ?_
  refine J_iadd (nx := 167) dX0_decide_166 rfl ?_
  refine J_iload (nx := 169) dX0_decide_167 rfl rfl ?_
  refine JcS3 (R' := rm 0 0 0) (nx := 172) dX0_decide_169 rfl ml_X6_put lk_X0_41 st_X6_put ⟨(Nat.le_of_ble_eq_true rfl), (Nat.le_of_ble_eq_true rfl)⟩ (Nat.le_of_ble_eq_true rfl) ⟨rfl, rfl⟩ (ct_put _ 52 352 _ _ rfl (fun _ => rfl) (by decide)) ?_
  refine J.gen (fun g_169 hg_169 => ?_)
  refine J_aload_n (nx := 173) dX0_decide_172 rfl rfl ?_
  refine Jg_40_5 (nx := 176) dX0_decide_173 rfl fl_X0_28 ?_
  refine J_iload_n (nx := 177) dX0_decide_176 rfl rfl ?_
  refine J_bipush (nx := 179) (i := 32) (v := 32) (by decide) dX0_decide_177 rfl ?_
  refine J_imul (nx := 180) dX0_decide_179 rfl ?_
  refine J_iload_n (nx := 181) dX0_decide_180 rfl rfl ?_
  refine J_iadd (nx := 182) dX0_decide_181 rfl ?_
  refine J_iload (nx := 184) dX0_decide_182 rfl rfl ?_
  refine J_if_ne (nx := 187) (tgt := 194) dX0_decide_184 rfl (by decide) (fun c_184 => ?_) (fun c_184 => ?_)
  · refine J_iload (nx := 196) dX0_decide_194 rfl rfl ?_
    refine J_iconst (nx := 197) (i := 1) (v := 1) (by decide) dX0_decide_196 rfl ?_
    refine J_icmp_ne (nx := 200) (tgt := 204) dX0_decide_197 rfl (by decide) (fun c_197 => ?_) (fun c_197 => ?_)
    · refine J_iload (nx := 206) dX0_decide_204 rfl rfl ?_
      refine JcS3 (R' := rm 0 0 0) (nx := 209) dX0_decide_206 rfl ml_X6_put lk_X0_41 st_X6_put ⟨(Nat.le_of_ble_eq_true rfl), (Nat.le_of_ble_eq_true rfl)⟩ (Nat.le_of_ble_eq_true rfl) ⟨rfl, rfl⟩ (ct_put _ 51 352 _ _ rfl (fun _ => rfl) (by decide)) ?_
      refine J.gen (fun g_206 hg_206 => ?_)
      subst hg_206
      subst hg_169
      exact Jrv dX0_decide_209 rfl (Nat.zero_le _) (Nat.zero_le _) ⟨rfl, by unfold dcE2 dcE1; first | (rw [if_pos c_184]) | (rw [if_neg c_184, if_pos c_197]) | (rw [if_neg c_184, if_neg c_197])⟩
    · refine J_iload_n (nx := 201) dX0_decide_200 rfl rfl ?_
      refine J_goto (nx := 206) dX0_decide_201 (by decide) ?_
      refine JcS3 (R' := rm 0 0 0) (nx := 209) dX0_decide_206 rfl ml_X6_put lk_X0_41 st_X6_put ⟨(Nat.le_of_ble_eq_true rfl), (Nat.le_of_ble_eq_true rfl)⟩ (Nat.le_of_ble_eq_true rfl) ⟨rfl, rfl⟩ (ct_put _ 51 352 _ _ rfl (fun _ => rfl) (by decide)) ?_
      refine J.gen (fun g_206 hg_206 => ?_)
      subst hg_206
      subst hg_169
      exact Jrv dX0_decide_209 rfl (Nat.zero_le _) (Nat.zero_le _) ⟨rfl, by unfold dcE2 dcE1; first | (rw [if_pos c_184]) | (rw [if_neg c_184, if_pos c_197]) | (rw [if_neg c_184, if_neg c_197])⟩
  · refine J_aload_n (nx := 188) dX0_decide_187 rfl rfl ?_
    refine Jg_40_14 (nx := 191) dX0_decide_188 rfl fl_X0_119 ?_
    refine J_goto (nx := 206) dX0_decide_191 (by decide) ?_
    refine JcS3 (R' := rm 0 0 0) (nx := 209) dX0_decide_206 rfl ml_X6_put lk_X0_41 st_X6_put ⟨(Nat.le_of_ble_eq_true rfl), (Nat.le_of_ble_eq_true rfl)⟩ (Nat.le_of_ble_eq_true rfl) ⟨rfl, rfl⟩ (ct_put _ 51 352 _ _ rfl (fun _ => rfl) (by decide)) ?_
    refine J.gen (fun g_206 hg_206 => ?_)
    subst hg_206
    subst hg_169
    exact Jrv dX0_decide_209 rfl (Nat.zero_le _) (Nat.zero_le _) ⟨rfl, by unfold dcE2 dcE1; first | (rw [if_pos c_184]) | (rw [if_neg c_184, if_pos c_197]) | (rw [if_neg c_184, if_neg c_197])⟩

set_option maxRecDepth 100000 in
set_option maxHeartbeats 4000000 in
theorem sg_140 (g : GS) (j s on wt d : Int32) (n0 : Nat) : J mX0_decide (rm 3 0 0) (RR (.inl none) (dcE g j s on wt d)) n0 140 [some (.ref 40), some (.int j), some (.int s), some (.int on), some (.int wt), some (.int d)] [] (Wd g) 0 0 := by
  refine J_iload (nx := 142) dX0_decide_140 rfl rfl ?_
  refine J_iconst (nx := 143) (i := 2) (v := 2) (by decide) dX0_decide_142 rfl ?_
  refine J_icmp_ne (nx := 146) (tgt := 157) dX0_decide_143 rfl (by decide) (fun c_143 => ?_) (fun c_143 => ?_)
  · unfold dcE
    first
      | (rw [if_neg c_143]; exact sg_157 g j s on wt _ _)
      | (rw [if_pos c_143, if_pos c_151]; exact sg_157 g j s on wt _ _)
      | (rw [if_pos c_143, if_neg c_151]; exact sg_157 g j s on wt _ _)
  · refine J_iload_n (nx := 147) dX0_decide_146 rfl rfl ?_
    refine J_aload_n (nx := 148) dX0_decide_147 rfl rfl ?_
    refine Jg_40_12 (nx := 151) dX0_decide_148 rfl fl_X0_86 ?_
    refine J_icmp_lt (nx := 154) (tgt := 157) dX0_decide_151 rfl (by decide) (fun c_151 => ?_) (fun c_151 => ?_)
    · unfold dcE
      first
        | (rw [if_neg c_143]; exact sg_157 g j s on wt _ _)
        | (rw [if_pos c_143, if_pos c_151]; exact sg_157 g j s on wt _ _)
        | (rw [if_pos c_143, if_neg c_151]; exact sg_157 g j s on wt _ _)
    · refine J_iconst (nx := 155) (i := 1) (v := 1) (by decide) dX0_decide_154 rfl ?_
      refine J_istore (nx := 157) dX0_decide_155 rfl rfl (Nat.le_of_ble_eq_true rfl) ?_
      unfold dcE
      first
        | (rw [if_neg c_143]; exact sg_157 g j s on wt _ _)
        | (rw [if_pos c_143, if_pos c_151]; exact sg_157 g j s on wt _ _)
        | (rw [if_pos c_143, if_neg c_151]; exact sg_157 g j s on wt _ _)

set_option maxRecDepth 100000 in
set_option maxHeartbeats 4000000 in
theorem sg_64n (g : GS) (j s on wt : Int32) (h : gF g 40 8 < 5) (n0 : Nat) : J mX0_decide (rm 3 0 0) (RR (.inl none) (dcE (dcG g j s none) j s on wt (dcD g j s on wt none))) n0 64 [some (.ref 40), some (.int j), some (.int s), some (.int on), some (.int wt), none] [] (Wd g) 0 0 := by
  refine J_aload_n (nx := 65) dX0_decide_64 rfl rfl ?_
  refine J_iload_n (nx := 66) dX0_decide_65 rfl rfl ?_
  refine J_iload_n (nx := 67) dX0_decide_66 rfl rfl ?_
  refine J_iload_n (nx := 68) dX0_decide_67 rfl rfl ?_
  refine J_iload (nx := 70) dX0_decide_68 rfl rfl ?_
  refine JcV4 (R' := rm 0 0 0) (nx := 73) dX0_decide_70 rfl ml_X0_wish lk_X0_143 iv_X0_wish rfl rfl ⟨(Nat.le_of_ble_eq_true rfl), (Nat.le_of_ble_eq_true rfl)⟩ (Nat.le_of_ble_eq_true rfl) ⟨rfl, rfl⟩ (ct_wish _ _ _ _ _) ?_
  refine J_istore (nx := 75) dX0_decide_73 rfl rfl (Nat.le_of_ble_eq_true rfl) ?_
  refine J_aload_n (nx := 76) dX0_decide_75 rfl rfl ?_
  refine Jg_40_8 (nx := 79) dX0_decide_76 rfl fl_X0_104 ?_
  refine J_iconst (nx := 80) (i := 5) (v := 5) (by decide) dX0_decide_79 rfl ?_
  refine J_icmp_lt (nx := 83) (tgt := 140) dX0_decide_80 rfl (by decide) (fun c_80 => ?_) (fun c_80 => ?_)
  · exact sg_140 g j s on wt _ _
  · exact absurd h c_80

set_option maxRecDepth 100000 in
set_option maxHeartbeats 4000000 in
theorem sg_64s (g : GS) (j s on wt : Int32) (i c : Nat) (cd : CD) (h : ¬ gF g 40 8 < 5) (hi : i < 4) (hji : gF g 40 8 - 5 = nI i) (hp : gP g 29 i = some c) (hc : CodeT (gT g) c cd) (n0 : Nat) : J mX0_decide (rm 3 0 0) (RR (.inl none) (dcE (dcG g j s (some cd)) j s on wt (dcD g j s on wt (some cd)))) n0 64 [some (.ref 40), some (.int j), some (.int s), some (.int on), some (.int wt), none] [] (Wd g) 0 0 := by
  refine J_aload_n (nx := 65) dX0_decide_64 rfl rfl ?_
  refine J_iload_n (nx := 66) dX0_decide_65 rfl rfl ?_
  refine J_iload_n (nx := 67) dX0_decide_66 rfl rfl ?_
  refine J_iload_n (nx := 68) dX0_decide_67 rfl rfl ?_
  refine J_iload (nx := 70) dX0_decide_68 rfl rfl ?_
  refine JcV4 (R' := rm 0 0 0) (nx := 73) dX0_decide_70 rfl ml_X0_wish lk_X0_143 iv_X0_wish rfl rfl ⟨(Nat.le_of_ble_eq_true rfl), (Nat.le_of_ble_eq_true rfl)⟩ (Nat.le_of_ble_eq_true rfl) ⟨rfl, rfl⟩ (ct_wish _ _ _ _ _) ?_
  refine J_istore (nx := 75) dX0_decide_73 rfl rfl (Nat.le_of_ble_eq_true rfl) ?_
  refine J_aload_n (nx := 76) dX0_decide_75 rfl rfl ?_
  refine Jg_40_8 (nx := 79) dX0_decide_76 rfl fl_X0_104 ?_
  refine J_iconst (nx := 80) (i := 5) (v := 5) (by decide) dX0_decide_79 rfl ?_
  refine J_icmp_lt (nx := 83) (tgt := 140) dX0_decide_80 rfl (by decide) (fun c_80 => ?_) (fun c_80 => ?_)
  · exact absurd c_80 h
  · refine J_aload_n (nx := 84) dX0_decide_83 rfl rfl ?_
    refine Jg_40_2 (nx := 87) dX0_decide_84 rfl fl_X0_18 ?_
    refine J_iconst (nx := 88) (i := 0) (v := 0) (by decide) dX0_decide_87 rfl ?_
    refine J_iload_n (nx := 89) dX0_decide_88 rfl rfl ?_
    refine J_iconst (nx := 90) (i := 4) (v := 4) (by decide) dX0_decide_89 rfl ?_
    refine J_idiv (nx := 91) (by decide) dX0_decide_90 rfl ?_
    refine JcS3 (R' := rm 0 0 0) (nx := 94) dX0_decide_91 rfl ml_X6_put lk_X0_41 st_X6_put ⟨(Nat.le_of_ble_eq_true rfl), (Nat.le_of_ble_eq_true rfl)⟩ (Nat.le_of_ble_eq_true rfl) ⟨rfl, rfl⟩ (ct_put _ 48 8 _ _ rfl (fun _ => rfl) (by decide)) ?_
    refine J.gen (fun g_91 hg_91 => ?_)
    refine J_aload_n (nx := 95) dX0_decide_94 rfl rfl ?_
    refine Jg_40_2 (nx := 98) dX0_decide_95 rfl fl_X0_18 ?_
    refine J_iconst (nx := 99) (i := 1) (v := 1) (by decide) dX0_decide_98 rfl ?_
    refine J_iload_n (nx := 100) dX0_decide_99 rfl rfl ?_
    refine J_iconst (nx := 101) (i := 4) (v := 4) (by decide) dX0_decide_100 rfl ?_
    refine J_irem (nx := 102) (by decide) dX0_decide_101 rfl ?_
    refine JcS3 (R' := rm 0 0 0) (nx := 105) dX0_decide_102 rfl ml_X6_put lk_X0_41 st_X6_put ⟨(Nat.le_of_ble_eq_true rfl), (Nat.le_of_ble_eq_true rfl)⟩ (Nat.le_of_ble_eq_true rfl) ⟨rfl, rfl⟩ (ct_put _ 48 8 _ _ rfl (fun _ => rfl) (by decide)) ?_
    refine J.gen (fun g_102 hg_102 => ?_)
    refine J_aload_n (nx := 106) dX0_decide_105 rfl rfl ?_
    refine Jg_40_2 (nx := 109) dX0_decide_106 rfl fl_X0_18 ?_
    refine J_iconst (nx := 110) (i := 2) (v := 2) (by decide) dX0_decide_109 rfl ?_
    refine J_iload_n (nx := 111) dX0_decide_110 rfl rfl ?_
    refine JcS3 (R' := rm 0 0 0) (nx := 114) dX0_decide_111 rfl ml_X6_put lk_X0_41 st_X6_put ⟨(Nat.le_of_ble_eq_true rfl), (Nat.le_of_ble_eq_true rfl)⟩ (Nat.le_of_ble_eq_true rfl) ⟨rfl, rfl⟩ (ct_put _ 48 8 _ _ rfl (fun _ => rfl) (by decide)) ?_
    refine J.gen (fun g_111 hg_111 => ?_)
    refine J_aload_n (nx := 115) dX0_decide_114 rfl rfl ?_
    refine Jg_40_0 (nx := 118) dX0_decide_115 rfl fl_X0_37 ?_
    refine J_aload_n (nx := 119) dX0_decide_118 rfl rfl ?_
    refine Jg_40_8 (nx := 122) dX0_decide_119 rfl fl_X0_104 ?_
    refine J_iconst (nx := 123) (i := 5) (v := 5) (by decide) dX0_decide_122 rfl ?_
    refine J_isub (nx := 124) dX0_decide_123 rfl ?_
    rw [show gF g_111 40 8 - 5 = nI i from by rw [hg_111, hg_102, hg_91]; exact hji]
    refine JcV1 (R' := rm 0 0 0) (nx := 127) dX0_decide_124 rfl ml_X1_ruleOf lk_X0_147 iv_X1_ruleOf rfl rfl ⟨(Nat.le_of_ble_eq_true rfl), (Nat.le_of_ble_eq_true rfl)⟩ (Nat.le_of_ble_eq_true rfl) ⟨rfl, rfl⟩ (ct_ruleOf _ i c hi (by rw [hg_111, hg_102, hg_91]; exact hp)) ?_
    refine J_aload_n (nx := 128) dX0_decide_127 rfl rfl ?_
    refine Jg_40_2 (nx := 131) dX0_decide_128 rfl fl_X0_18 ?_
    refine J_aload_n (nx := 132) dX0_decide_131 rfl rfl ?_
    refine Jg_40_3 (nx := 135) dX0_decide_132 rfl fl_X0_22 ?_
    refine JcV2 (R' := rm 2 0 0) (nx := 138) dX0_decide_135 rfl ml_X2_deed lk_X0_151 iv_X2_deed rfl (hc.oo (by rw [hg_111, hg_102, hg_91]; rfl)) ⟨(Nat.le_of_ble_eq_true rfl), (Nat.le_of_ble_eq_true rfl)⟩ (Nat.le_of_ble_eq_true rfl) ⟨rfl, rfl⟩ (ct_X2_deed _ c cd (by rw [hg_111, hg_102, hg_91]; exact hc)) ?_
    refine J.gen (fun g_135 hg_135 => ?_)
    refine J_istore (nx := 140) dX0_decide_138 rfl rfl (Nat.le_of_ble_eq_true rfl) ?_
    subst hg_135
    subst hg_111
    subst hg_102
    subst hg_91
    exact sg_140 _ j s on wt _ _

theorem sg_64 (g : GS) (j s on wt : Int32) (q : Option CD) (h : JudgeAt g q) (n0 : Nat) : J mX0_decide (rm 3 0 0) (RR (.inl none) (dcE (dcG g j s q) j s on wt (dcD g j s on wt q))) n0 64 [some (.ref 40), some (.int j), some (.int s), some (.int on), some (.int wt), none] [] (Wd g) 0 0 := by
  cases q with
  | none => exact sg_64n g j s on wt h n0
  | some cd =>
    obtain ⟨h, i, c, hi, hji, hp, hc⟩ := h
    exact sg_64s g j s on wt i c cd h hi hji hp hc n0

set_option maxRecDepth 100000 in
set_option maxHeartbeats 4000000 in
theorem ct_decide (g : GS) (j s : Int32) (q : Option CD) (h : JudgeAt g q) : Ct mX0_decide (rm 3 0 0) [.ref 40, .int j, .int s] (Wd g) (RR (.inl none) (dcAll g j s q)) := by
  refine Ct.of (by decide +kernel) (Nat.le_of_ble_eq_true rfl) ?_
  show J _ _ _ _ 0 [some (.ref 40), some (.int j), some (.int s), none, none, none] [] _ 0 0
  refine J_aload_n (nx := 1) dX0_decide_0 rfl rfl ?_
  refine J_iload_n (nx := 2) dX0_decide_1 rfl rfl ?_
  refine J_aload_n (nx := 3) dX0_decide_2 rfl rfl ?_
  refine Jg_40_0 (nx := 6) dX0_decide_3 rfl fl_X0_37 ?_
  refine Jg_20_13 (nx := 9) dX0_decide_6 rfl fl_X0_137 ?_
  refine J_iload_n (nx := 10) dX0_decide_9 rfl rfl ?_
  refine J_isub (nx := 11) dX0_decide_10 rfl ?_
  refine JcV2 (R' := rm 1 0 0) (nx := 14) dX0_decide_11 rfl ml_X0_lettingOn lk_X0_140 iv_X0_lettingOn rfl rfl ⟨(Nat.le_of_ble_eq_true rfl), (Nat.le_of_ble_eq_true rfl)⟩ (Nat.le_of_ble_eq_true rfl) ⟨rfl, rfl⟩ (ct_lettingOn _ _ _) ?_
  refine J_aload_n (nx := 15) dX0_decide_14 rfl rfl ?_
  refine Jg_40_15 (nx := 18) dX0_decide_15 rfl fl_X0_124 ?_
  refine J_iadd (nx := 19) dX0_decide_18 rfl ?_
  refine J_istore_n (nx := 20) dX0_decide_19 rfl rfl (Nat.le_of_ble_eq_true rfl) ?_
  refine J_iload_n (nx := 21) dX0_decide_20 rfl rfl ?_
  refine J_istore (nx := 23) dX0_decide_21 rfl rfl (Nat.le_of_ble_eq_true rfl) ?_
  refine J_iload_n (nx := 24) dX0_decide_23 rfl rfl ?_
  refine J_aload_n (nx := 25) dX0_decide_24 rfl rfl ?_
  refine Jg_40_12 (nx := 28) dX0_decide_25 rfl fl_X0_86 ?_
  refine J_icmp_ge (nx := 31) (tgt := 64) dX0_decide_28 rfl (by decide) (fun c_28 => ?_) (fun c_28 => ?_)
  · unfold dcAll
    first
      | (rw [show dcWt g j s = _ from if_pos c_28]; exact sg_64 g j s _ _ q h _)
      | (rw [show dcWt g j s = _ from if_neg c_28]; exact sg_64 g j s _ _ q h _)
  · refine J_aload_n (nx := 32) dX0_decide_31 rfl rfl ?_
    refine Jg_40_1 (nx := 35) dX0_decide_32 rfl fl_X0_12 ?_
    refine J_iload_n (nx := 36) dX0_decide_35 rfl rfl ?_
    refine J_aload_n (nx := 37) dX0_decide_36 rfl rfl ?_
    refine Jg_40_5 (nx := 40) dX0_decide_37 rfl fl_X0_28 ?_
    refine J_iload_n (nx := 41) dX0_decide_40 rfl rfl ?_
    refine J_iconst (nx := 42) (i := 1) (v := 1) (by decide) dX0_decide_41 rfl ?_
    refine J_iadd (nx := 43) dX0_decide_42 rfl ?_
    refine J_bipush (nx := 45) (i := 32) (v := 32) (by decide) dX0_decide_43 rfl ?_
    refine J_imul (nx := 46) dX0_decide_45 rfl ?_
    refine J_aload_n (nx := 47) dX0_decide_46 rfl rfl ?_
    refine Jg_40_13 (nx := 50) dX0_decide_47 rfl fl_X0_80 ?_
    refine J_aload_n (nx := 51) dX0_decide_50 rfl rfl ?_
    refine Jg_40_15 (nx := 54) dX0_decide_51 rfl fl_X0_124 ?_
    refine J_iadd (nx := 55) dX0_decide_54 rfl ?_
    refine J_aload_n (nx := 56) dX0_decide_55 rfl rfl ?_
    refine Jg_40_14 (nx := 59) dX0_decide_56 rfl fl_X0_119 ?_
    refine JcV5 (R' := rm 1 0 0) (nx := 62) dX0_decide_59 rfl ml_X9_mix lk_X0_96 iv_X9_mix rfl rfl ⟨(Nat.le_of_ble_eq_true rfl), (Nat.le_of_ble_eq_true rfl)⟩ (Nat.le_of_ble_eq_true rfl) ⟨rfl, rfl⟩ (ct_mix _ 51 352 _ _ _ _ _ rfl (by decide)) ?_
    refine J_istore (nx := 64) dX0_decide_62 rfl rfl (Nat.le_of_ble_eq_true rfl) ?_
    unfold dcAll
    first
      | (rw [show dcWt g j s = _ from if_pos c_28]; exact sg_64 g j s _ _ q h _)
      | (rw [show dcWt g j s = _ from if_neg c_28]; exact sg_64 g j s _ _ q h _)

