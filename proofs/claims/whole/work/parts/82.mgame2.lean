
/-! the Model: a game taken -/
def a68 (c : Nat) : Bool := Nat.beq c 68
def a69 (c : Nat) : Bool := Nat.beq c 69
def gmS (ch : Nat → Int32) (s : Nat) : Int32 := sI (fun k => ch (34 * s + k)) 34
set_option maxRecDepth 100000 in
set_option maxHeartbeats 4000000 in
theorem lp_m_gm1 (Q : Res → List ME → Prop) (g0 : GS) (n0 : Nat) : ∀ (k : Nat) (i : Nat) (g : GS), i + k = 1088 → Fr f0 a68 g0 g → (∀ x, x < i → gA g 68 x = gA g0 64 (18 + x)) → (∀ g, Fr f0 a68 g0 g → (∀ x, x < 1088 → gA g 68 x = gA g0 64 (18 + x)) → J mX12_game (rm 43 0 0) Q n0 30 [some (.ref 63), some (.int (nI (1088))), none, none, none] [] (Wd g) 0 0) → J mX12_game (rm 43 0 0) (Q) n0 2 [some (.ref 63), some (.int (nI (i))), none, none, none] [] (Wd g) 0 0 := by
  intro k
  induction k with
  | zero =>
    intro i g hk hfr hI hK
    refine J_iload_n (nx := 3) dX12_game_2 rfl rfl ?_
    refine J_sipush (nx := 6) (i := 1088) (v := 1088) (by decide) dX12_game_3 rfl ?_
    refine J_icmp_ge (nx := 9) (tgt := 30) dX12_game_6 rfl (by decide) (fun c_6 => ?_) (fun c_6 => ?_)
    · obtain rfl : i = 1088 := by omega
      exact hK g hfr hI
    · exact absurd (show nI 1088 ≤ nI i from by rw [show i = 1088 by omega]; exact le_self_nI) c_6
  | succ k ih =>
    intro i g hk hfr hI hK
    refine J_iload_n (nx := 3) dX12_game_2 rfl rfl ?_
    refine J_sipush (nx := 6) (i := 1088) (v := 1088) (by decide) dX12_game_3 rfl ?_
    refine J_icmp_ge (nx := 9) (tgt := 30) dX12_game_6 rfl (by decide) (fun c_6 => ?_) (fun c_6 => ?_)
    · exact absurd c_6 (nlt_nI (n := 1088) (by omega) (by omega))
    · have hi : i < 1088 := by omega
      refine J_aload_n (nx := 10) dX12_game_9 rfl rfl ?_
      refine Jg_63_14 (nx := 13) dX12_game_10 rfl fl_X12_30 ?_
      refine J_iload_n (nx := 14) dX12_game_13 rfl rfl ?_
      refine J_aload_n (nx := 15) dX12_game_14 rfl rfl ?_
      refine Jg_63_1 (nx := 18) dX12_game_15 rfl fl_X12_13 ?_
      refine J_bipush (nx := 20) (i := 18) (v := 18) (by decide) dX12_game_18 rfl ?_
      refine J_iload_n (nx := 21) dX12_game_20 rfl rfl ?_
      refine J_iadd (nx := 22) dX12_game_21 rfl ?_
      refine Ja_64 (nx := 23) dX12_game_22 rfl (vpE (n := (18 + i)) (nIa (nIc 18) (Eq.refl (nI (i)))) (by omega) (by decide)) ?_
      rw [clE (n := (18 + i)) (nIa (nIc 18) (Eq.refl (nI (i)))) (by omega)]
      refine Jt_68 (nx := 24) dX12_game_23 rfl (vpE (n := i) (Eq.refl (nI (i))) (by omega) (by decide)) ?_
      rw [clE (n := i) (Eq.refl (nI (i))) (by omega)]
      refine J.gen (fun g_23 hg_23 => ?_)
      refine J_iinc (nx := 27) dX12_game_24 rfl rfl rfl (Nat.le_of_ble_eq_true rfl) ?_
      refine J_goto (nx := 2) dX12_game_27 (by decide) ?_
      rw [show (nI (i) + Int32.ofInt 1) = nI (i + 1) from (show nI (i) + Int32.ofInt 1 = nI (i + 1) from nI_add (i) 1)]
      refine ih (i + 1) g_23 (by omega) (by rw [hg_23]; exact hfr.sA rfl) (fun x hx => ?_) hK
      rw [hg_23]
      show upd (gA g 68) i (gA g 64 (18 + i)) x = gA g0 64 (18 + x)
      by_cases e : x = i
      · rw [e]; exact (if_pos rfl).trans (congrFun (hfr.2.1 64 rfl) _)
      · exact (if_neg e).trans (hI x (by omega))

set_option maxRecDepth 100000 in
set_option maxHeartbeats 4000000 in
theorem lp_m_gm2 (Q : Res → List ME → Prop) (g0 : GS) (n0 : Nat) : ∀ (k : Nat) (i : Nat) (g : GS), i + k = 8 → Fr f0 a69 g0 g → (∀ x, x < i → gA g 69 x = gA g0 64 (10 + x)) → (∀ g, Fr f0 a69 g0 g → (∀ x, x < 8 → gA g 69 x = gA g0 64 (10 + x)) → J mX12_game (rm 43 0 0) Q n0 59 [some (.ref 63), some (.int (nI (8))), none, none, none] [] (Wd g) 0 0) → J mX12_game (rm 43 0 0) (Q) n0 32 [some (.ref 63), some (.int (nI (i))), none, none, none] [] (Wd g) 0 0 := by
  intro k
  induction k with
  | zero =>
    intro i g hk hfr hI hK
    refine J_iload_n (nx := 33) dX12_game_32 rfl rfl ?_
    refine J_bipush (nx := 35) (i := 8) (v := 8) (by decide) dX12_game_33 rfl ?_
    refine J_icmp_ge (nx := 38) (tgt := 59) dX12_game_35 rfl (by decide) (fun c_35 => ?_) (fun c_35 => ?_)
    · obtain rfl : i = 8 := by omega
      exact hK g hfr hI
    · exact absurd (show nI 8 ≤ nI i from by rw [show i = 8 by omega]; exact le_self_nI) c_35
  | succ k ih =>
    intro i g hk hfr hI hK
    refine J_iload_n (nx := 33) dX12_game_32 rfl rfl ?_
    refine J_bipush (nx := 35) (i := 8) (v := 8) (by decide) dX12_game_33 rfl ?_
    refine J_icmp_ge (nx := 38) (tgt := 59) dX12_game_35 rfl (by decide) (fun c_35 => ?_) (fun c_35 => ?_)
    · exact absurd c_35 (nlt_nI (n := 8) (by omega) (by omega))
    · have hi : i < 8 := by omega
      refine J_aload_n (nx := 39) dX12_game_38 rfl rfl ?_
      refine Jg_63_15 (nx := 42) dX12_game_39 rfl fl_X12_33 ?_
      refine J_iload_n (nx := 43) dX12_game_42 rfl rfl ?_
      refine J_aload_n (nx := 44) dX12_game_43 rfl rfl ?_
      refine Jg_63_1 (nx := 47) dX12_game_44 rfl fl_X12_13 ?_
      refine J_bipush (nx := 49) (i := 10) (v := 10) (by decide) dX12_game_47 rfl ?_
      refine J_iload_n (nx := 50) dX12_game_49 rfl rfl ?_
      refine J_iadd (nx := 51) dX12_game_50 rfl ?_
      refine Ja_64 (nx := 52) dX12_game_51 rfl (vpE (n := (10 + i)) (nIa (nIc 10) (Eq.refl (nI (i)))) (by omega) (by decide)) ?_
      rw [clE (n := (10 + i)) (nIa (nIc 10) (Eq.refl (nI (i)))) (by omega)]
      refine Jt_69 (nx := 53) dX12_game_52 rfl (vpE (n := i) (Eq.refl (nI (i))) (by omega) (by decide)) ?_
      rw [clE (n := i) (Eq.refl (nI (i))) (by omega)]
      refine J.gen (fun g_52 hg_52 => ?_)
      refine J_iinc (nx := 56) dX12_game_53 rfl rfl rfl (Nat.le_of_ble_eq_true rfl) ?_
      refine J_goto (nx := 32) dX12_game_56 (by decide) ?_
      rw [show (nI (i) + Int32.ofInt 1) = nI (i + 1) from (show nI (i) + Int32.ofInt 1 = nI (i + 1) from nI_add (i) 1)]
      refine ih (i + 1) g_52 (by omega) (by rw [hg_52]; exact hfr.sA rfl) (fun x hx => ?_) hK
      rw [hg_52]
      show upd (gA g 69) i (gA g 64 (10 + i)) x = gA g0 64 (10 + x)
      by_cases e : x = i
      · rw [e]; exact (if_pos rfl).trans (congrFun (hfr.2.1 64 rfl) _)
      · exact (if_neg e).trans (hI x (by omega))

set_option maxRecDepth 100000 in
set_option maxHeartbeats 4000000 in
theorem lp_m_gm4 (Q : Res → List ME → Prop) (g0 : GS) (n0 : Nat) : ∀ (k : Nat) (i : Nat) (g : GS), i + k = 1088 → Fr f0 a64o g0 g → (∀ x, gA g 64 x = if 18 ≤ x ∧ x < 18 + i then gA g0 68 (x - 18) else gA g0 64 x) → (∀ g, Fr f0 a64o g0 g → (∀ x, gA g 64 x = if 18 ≤ x ∧ x < 18 + 1088 then gA g0 68 (x - 18) else gA g0 64 x) → J mX12_game (rm 43 0 0) Q n0 215 [some (.ref 63), some (.int 1), some (.int (nI (1088))), none, none] [] (Wd g) 0 0) → J mX12_game (rm 43 0 0) (Q) n0 187 [some (.ref 63), some (.int 1), some (.int (nI (i))), none, none] [] (Wd g) 0 0 := by
  intro k
  induction k with
  | zero =>
    intro i g hk hfr hI hK
    refine J_iload_n (nx := 188) dX12_game_187 rfl rfl ?_
    refine J_sipush (nx := 191) (i := 1088) (v := 1088) (by decide) dX12_game_188 rfl ?_
    refine J_icmp_ge (nx := 194) (tgt := 215) dX12_game_191 rfl (by decide) (fun c_191 => ?_) (fun c_191 => ?_)
    · obtain rfl : i = 1088 := by omega
      exact hK g hfr hI
    · exact absurd (show nI 1088 ≤ nI i from by rw [show i = 1088 by omega]; exact le_self_nI) c_191
  | succ k ih =>
    intro i g hk hfr hI hK
    refine J_iload_n (nx := 188) dX12_game_187 rfl rfl ?_
    refine J_sipush (nx := 191) (i := 1088) (v := 1088) (by decide) dX12_game_188 rfl ?_
    refine J_icmp_ge (nx := 194) (tgt := 215) dX12_game_191 rfl (by decide) (fun c_191 => ?_) (fun c_191 => ?_)
    · exact absurd c_191 (nlt_nI (n := 1088) (by omega) (by omega))
    · have hi : i < 1088 := by omega
      refine J_aload_n (nx := 195) dX12_game_194 rfl rfl ?_
      refine Jg_63_1 (nx := 198) dX12_game_195 rfl fl_X12_13 ?_
      refine J_bipush (nx := 200) (i := 18) (v := 18) (by decide) dX12_game_198 rfl ?_
      refine J_iload_n (nx := 201) dX12_game_200 rfl rfl ?_
      refine J_iadd (nx := 202) dX12_game_201 rfl ?_
      refine J_aload_n (nx := 203) dX12_game_202 rfl rfl ?_
      refine Jg_63_14 (nx := 206) dX12_game_203 rfl fl_X12_30 ?_
      refine J_iload_n (nx := 207) dX12_game_206 rfl rfl ?_
      refine Ja_68 (nx := 208) dX12_game_207 rfl (vpE (n := i) (Eq.refl (nI (i))) (by omega) (by decide)) ?_
      rw [clE (n := i) (Eq.refl (nI (i))) (by omega)]
      refine Jt_64 (nx := 209) dX12_game_208 rfl (vpE (n := (18 + i)) (nIa (nIc 18) (Eq.refl (nI (i)))) (by omega) (by decide)) ?_
      rw [clE (n := (18 + i)) (nIa (nIc 18) (Eq.refl (nI (i)))) (by omega)]
      refine J.gen (fun g_208 hg_208 => ?_)
      refine J_iinc (nx := 212) dX12_game_209 rfl rfl rfl (Nat.le_of_ble_eq_true rfl) ?_
      refine J_goto (nx := 187) dX12_game_212 (by decide) ?_
      rw [show (nI (i) + Int32.ofInt 1) = nI (i + 1) from (show nI (i) + Int32.ofInt 1 = nI (i + 1) from nI_add (i) 1)]
      refine ih (i + 1) g_208 (by omega) (by rw [hg_208]; exact hfr.sA rfl) (fun x => ?_) hK
      rw [hg_208]
      show (if x = 18 + i then gA g 68 i else gA g 64 x) = _
      rw [show gA g 68 = gA g0 68 from hfr.2.1 68 rfl]
      by_cases e1 : x = 18 + i
      · rw [if_pos e1, if_pos (by omega), e1, show 18 + i - 18 = i by omega]
      · rw [if_neg e1, hI x]
        by_cases e2 : 18 ≤ x ∧ x < 18 + i
        · rw [if_pos e2, if_pos (by omega)]
        · rw [if_neg e2, if_neg (by omega)]

set_option maxRecDepth 100000 in
set_option maxHeartbeats 4000000 in
theorem lp_m_gm5 (Q : Res → List ME → Prop) (g0 : GS) (n0 : Nat) : ∀ (k : Nat) (i : Nat) (g : GS), i + k = 8 → Fr f0 a64o g0 g → (∀ x, gA g 64 x = if 10 ≤ x ∧ x < 10 + i then gA g0 69 (x - 10) else gA g0 64 x) → (∀ g, Fr f0 a64o g0 g → (∀ x, gA g 64 x = if 10 ≤ x ∧ x < 10 + 8 then gA g0 69 (x - 10) else gA g0 64 x) → J mX12_game (rm 43 0 0) Q n0 244 [some (.ref 63), some (.int 1), some (.int (nI (8))), none, none] [] (Wd g) 0 0) → J mX12_game (rm 43 0 0) (Q) n0 217 [some (.ref 63), some (.int 1), some (.int (nI (i))), none, none] [] (Wd g) 0 0 := by
  intro k
  induction k with
  | zero =>
    intro i g hk hfr hI hK
    refine J_iload_n (nx := 218) dX12_game_217 rfl rfl ?_
    refine J_bipush (nx := 220) (i := 8) (v := 8) (by decide) dX12_game_218 rfl ?_
    refine J_icmp_ge (nx := 223) (tgt := 244) dX12_game_220 rfl (by decide) (fun c_220 => ?_) (fun c_220 => ?_)
    · obtain rfl : i = 8 := by omega
      exact hK g hfr hI
    · exact absurd (show nI 8 ≤ nI i from by rw [show i = 8 by omega]; exact le_self_nI) c_220
  | succ k ih =>
    intro i g hk hfr hI hK
    refine J_iload_n (nx := 218) dX12_game_217 rfl rfl ?_
    refine J_bipush (nx := 220) (i := 8) (v := 8) (by decide) dX12_game_218 rfl ?_
    refine J_icmp_ge (nx := 223) (tgt := 244) dX12_game_220 rfl (by decide) (fun c_220 => ?_) (fun c_220 => ?_)
    · exact absurd c_220 (nlt_nI (n := 8) (by omega) (by omega))
    · have hi : i < 8 := by omega
      refine J_aload_n (nx := 224) dX12_game_223 rfl rfl ?_
      refine Jg_63_1 (nx := 227) dX12_game_224 rfl fl_X12_13 ?_
      refine J_bipush (nx := 229) (i := 10) (v := 10) (by decide) dX12_game_227 rfl ?_
      refine J_iload_n (nx := 230) dX12_game_229 rfl rfl ?_
      refine J_iadd (nx := 231) dX12_game_230 rfl ?_
      refine J_aload_n (nx := 232) dX12_game_231 rfl rfl ?_
      refine Jg_63_15 (nx := 235) dX12_game_232 rfl fl_X12_33 ?_
      refine J_iload_n (nx := 236) dX12_game_235 rfl rfl ?_
      refine Ja_69 (nx := 237) dX12_game_236 rfl (vpE (n := i) (Eq.refl (nI (i))) (by omega) (by decide)) ?_
      rw [clE (n := i) (Eq.refl (nI (i))) (by omega)]
      refine Jt_64 (nx := 238) dX12_game_237 rfl (vpE (n := (10 + i)) (nIa (nIc 10) (Eq.refl (nI (i)))) (by omega) (by decide)) ?_
      rw [clE (n := (10 + i)) (nIa (nIc 10) (Eq.refl (nI (i)))) (by omega)]
      refine J.gen (fun g_237 hg_237 => ?_)
      refine J_iinc (nx := 241) dX12_game_238 rfl rfl rfl (Nat.le_of_ble_eq_true rfl) ?_
      refine J_goto (nx := 217) dX12_game_241 (by decide) ?_
      rw [show (nI (i) + Int32.ofInt 1) = nI (i + 1) from (show nI (i) + Int32.ofInt 1 = nI (i + 1) from nI_add (i) 1)]
      refine ih (i + 1) g_237 (by omega) (by rw [hg_237]; exact hfr.sA rfl) (fun x => ?_) hK
      rw [hg_237]
      show (if x = 10 + i then gA g 69 i else gA g 64 x) = _
      rw [show gA g 69 = gA g0 69 from hfr.2.1 69 rfl]
      by_cases e1 : x = 10 + i
      · rw [if_pos e1, if_pos (by omega), e1, show 10 + i - 10 = i by omega]
      · rw [if_neg e1, hI x]
        by_cases e2 : 10 ≤ x ∧ x < 10 + i
        · rw [if_pos e2, if_pos (by omega)]
        · rw [if_neg e2, if_neg (by omega)]

set_option maxRecDepth 100000 in
set_option maxHeartbeats 4000000 in
theorem lp_m_gmi (Q : Res → List ME → Prop) (g : GS) (s : Nat) (hs : s < 32) (n0 : Nat) : ∀ (k : Nat) (i : Nat), i + k = 34 → J mX12_game (rm 43 0 0) Q n0 120 [some (.ref 63), some (.int 1), some (.int (nI (s))), some (.int (gmS (gA g 68) s)), some (.int (nI (34)))] [] (Wd g) 0 0 → J mX12_game (rm 43 0 0) (Q) n0 92 [some (.ref 63), some (.int 1), some (.int (nI (s))), some (.int (sI (fun k => gA g 68 (34 * s + k)) i)), some (.int (nI (i)))] [] (Wd g) 0 0 := by
  intro k
  induction k with
  | zero =>
    intro i hk hK
    refine J_iload (nx := 94) dX12_game_92 rfl rfl ?_
    refine J_bipush (nx := 96) (i := 34) (v := 34) (by decide) dX12_game_94 rfl ?_
    refine J_icmp_ge (nx := 99) (tgt := 120) dX12_game_96 rfl (by decide) (fun c_96 => ?_) (fun c_96 => ?_)
    · obtain rfl : i = 34 := by omega
      exact hK
    · exact absurd (show nI 34 ≤ nI i from by rw [show i = 34 by omega]; exact le_self_nI) c_96
  | succ k ih =>
    intro i hk hK
    refine J_iload (nx := 94) dX12_game_92 rfl rfl ?_
    refine J_bipush (nx := 96) (i := 34) (v := 34) (by decide) dX12_game_94 rfl ?_
    refine J_icmp_ge (nx := 99) (tgt := 120) dX12_game_96 rfl (by decide) (fun c_96 => ?_) (fun c_96 => ?_)
    · exact absurd c_96 (nlt_nI (n := 34) (by omega) (by omega))
    · have hi : i < 34 := by omega
      refine J_iload_n (nx := 100) dX12_game_99 rfl rfl ?_
      refine J_aload_n (nx := 101) dX12_game_100 rfl rfl ?_
      refine Jg_63_14 (nx := 104) dX12_game_101 rfl fl_X12_30 ?_
      refine J_bipush (nx := 106) (i := 34) (v := 34) (by decide) dX12_game_104 rfl ?_
      refine J_iload_n (nx := 107) dX12_game_106 rfl rfl ?_
      refine J_imul (nx := 108) dX12_game_107 rfl ?_
      refine J_iload (nx := 110) dX12_game_108 rfl rfl ?_
      refine J_iadd (nx := 111) dX12_game_110 rfl ?_
      refine Ja_68 (nx := 112) dX12_game_111 rfl (vpE (n := ((34 * s) + i)) (nIa (nIm (nIc 34) (Eq.refl (nI (s)))) (Eq.refl (nI (i)))) (by omega) (by decide)) ?_
      rw [clE (n := ((34 * s) + i)) (nIa (nIm (nIc 34) (Eq.refl (nI (s)))) (Eq.refl (nI (i)))) (by omega)]
      refine J_iadd (nx := 113) dX12_game_112 rfl ?_
      refine J_istore_n (nx := 114) dX12_game_113 rfl rfl (Nat.le_of_ble_eq_true rfl) ?_
      refine J_iinc (nx := 117) dX12_game_114 rfl rfl rfl (Nat.le_of_ble_eq_true rfl) ?_
      refine J_goto (nx := 92) dX12_game_117 (by decide) ?_
      rw [show (nI (i) + Int32.ofInt 1) = nI (i + 1) from (show nI (i) + Int32.ofInt 1 = nI (i + 1) from nI_add (i) 1)]
      exact ih (i + 1) (by omega) hK

set_option maxRecDepth 100000 in
set_option maxHeartbeats 4000000 in
theorem lp_m_gm3 (Q : Res → List ME → Prop) (g : GS) (n0 : Nat) : ∀ (k : Nat) (s : Nat), s + k = 32 → (∀ q, q < s → gmS (gA g 68) q ≤ 100) → ((∀ q, q < 32 → gmS (gA g 68) q ≤ 100) → J mX12_game (rm 43 0 0) Q n0 142 [some (.ref 63), some (.int 1), none, none, none] [] (Wd g) 0 0) → (∀ q, q < 32 → 100 < gmS (gA g 68) q → J mX12_game (rm 43 0 0) Q n0 142 [some (.ref 63), some (.int 0), none, none, none] [] (Wd (sF g 63 10 (gF g 63 7))) 0 0) → J mX12_game (rm 43 0 0) (Q) n0 77 [some (.ref 63), some (.int 1), some (.int (nI s)), none, none] [] (Wd g) 0 0 := by
  intro k
  induction k with
  | zero =>
    intro s hk hI hG hB
    refine J_iload_n (nx := 78) dX12_game_77 rfl rfl ?_
    refine J_bipush (nx := 80) (i := 32) (v := 32) (by decide) dX12_game_78 rfl ?_
    refine J_icmp_ge (nx := 83) (tgt := 142) dX12_game_80 rfl (by decide) (fun c_80 => ?_) (fun c_80 => ?_)
    · refine J_kill (nx := 0) 2 ?_
      refine J_kill (nx := 0) 3 ?_
      refine J_kill (nx := 0) 4 ?_
      exact hG (fun q hq => hI q (by omega))
    · exact absurd (show nI 32 ≤ nI s from by rw [show s = 32 by omega]; exact le_self_nI) c_80
  | succ k ih =>
    intro s hk hI hG hB
    refine J_iload_n (nx := 78) dX12_game_77 rfl rfl ?_
    refine J_bipush (nx := 80) (i := 32) (v := 32) (by decide) dX12_game_78 rfl ?_
    refine J_icmp_ge (nx := 83) (tgt := 142) dX12_game_80 rfl (by decide) (fun c_80 => ?_) (fun c_80 => ?_)
    · exact absurd c_80 (nlt_nI (n := 32) (by omega) (by omega))
    · have hs : s < 32 := by omega
      refine J_iload_n (nx := 84) dX12_game_83 rfl rfl ?_
      refine J_if_eq (nx := 87) (tgt := 142) dX12_game_84 rfl (by decide) (fun c_84 => ?_) (fun c_84 => ?_)
      · exact absurd c_84 (by decide)
      · refine J_iconst (nx := 88) (i := 0) (v := 0) (by decide) dX12_game_87 rfl ?_
        refine J_istore_n (nx := 89) dX12_game_88 rfl rfl (Nat.le_of_ble_eq_true rfl) ?_
        refine J_iconst (nx := 90) (i := 0) (v := 0) (by decide) dX12_game_89 rfl ?_
        refine J_istore (nx := 92) dX12_game_90 rfl rfl (Nat.le_of_ble_eq_true rfl) ?_
        refine lp_m_gmi _ g s hs n0 34 0 rfl ?_
        refine J_iload_n (nx := 121) dX12_game_120 rfl rfl ?_
        refine J_bipush (nx := 123) (i := 100) (v := 100) (by decide) dX12_game_121 rfl ?_
        refine J_icmp_le (nx := 126) (tgt := 136) dX12_game_123 rfl (by decide) (fun c_123 => ?_) (fun c_123 => ?_)
        · refine J_iinc (nx := 139) dX12_game_136 rfl rfl rfl (Nat.le_of_ble_eq_true rfl) ?_
          refine J_goto (nx := 77) dX12_game_139 (by decide) ?_
          rw [show (nI (s) + Int32.ofInt 1) = nI (s + 1) from (show nI (s) + Int32.ofInt 1 = nI (s + 1) from nI_add (s) 1)]
          refine J_kill (nx := 0) 3 ?_
          refine J_kill (nx := 0) 4 ?_
          exact ih (s + 1) (by omega) (fun q hq => by
            by_cases e : q = s
            · rw [e]; exact c_123
            · exact hI q (by omega)) hG hB
        · refine J_iconst (nx := 127) (i := 0) (v := 0) (by decide) dX12_game_126 rfl ?_
          refine J_istore_n (nx := 128) dX12_game_127 rfl rfl (Nat.le_of_ble_eq_true rfl) ?_
          refine J_aload_n (nx := 129) dX12_game_128 rfl rfl ?_
          refine J_aload_n (nx := 130) dX12_game_129 rfl rfl ?_
          refine Jg_63_7 (nx := 133) dX12_game_130 rfl fl_X12_87 ?_
          refine Jp_63_10 (nx := 136) dX12_game_133 rfl fl_X12_24 ?_
          refine J.gen (fun g_133 hg_133 => ?_)
          refine J_iinc (nx := 139) dX12_game_136 rfl rfl rfl (Nat.le_of_ble_eq_true rfl) ?_
          refine J_goto (nx := 77) dX12_game_139 (by decide) ?_
          refine J_iload_n (nx := 78) dX12_game_77 rfl rfl ?_
          refine J_bipush (nx := 80) (i := 32) (v := 32) (by decide) dX12_game_78 rfl ?_
          refine J_icmp_ge (nx := 83) (tgt := 142) dX12_game_80 rfl (by decide) (fun c_80 => ?_) (fun c_80 => ?_)
          · refine J_kill (nx := 0) 2 ?_
            refine J_kill (nx := 0) 3 ?_
            refine J_kill (nx := 0) 4 ?_
            rw [hg_133]
            exact hB s hs (nle_lt c_123)
          · refine J_iload_n (nx := 84) dX12_game_83 rfl rfl ?_
            refine J_if_eq (nx := 87) (tgt := 142) dX12_game_84 rfl (by decide) (fun c_84 => ?_) (fun c_84 => ?_)
            · refine J_kill (nx := 0) 2 ?_
              refine J_kill (nx := 0) 3 ?_
              refine J_kill (nx := 0) 4 ?_
              rw [hg_133]
              exact hB s hs (nle_lt c_123)
            · exact absurd c_84 (by decide)

set_option maxRecDepth 100000 in
set_option maxHeartbeats 4000000 in
theorem sg_m_gmB (n0 : Nat) (g : GS) (P : Int32 → GS → Prop) (hP : P 0 (sF g 63 0 1)) : J mX12_game (rm 43 0 0) (RXi P) n0 142 [some (.ref 63), some (.int 0), none, none, none] [] (Wd g) 0 0 := by
  refine J_aload_n (nx := 143) dX12_game_142 rfl rfl ?_
  refine J_iload_n (nx := 144) dX12_game_143 rfl rfl ?_
  skip
  refine J_if_ne (nx := 147) (tgt := 151) dX12_game_144 rfl (by decide) (fun c_144 => ?_) (fun c_144 => ?_)
  · exact absurd c_144 (by decide)
  · refine J_iconst (nx := 148) (i := 1) (v := 1) (by decide) dX12_game_147 rfl ?_
    refine J_goto (nx := 152) dX12_game_148 (by decide) ?_
    refine J_iconst (nx := 153) (i := 1) (v := 1) (by decide) dX12_game_152 rfl ?_
    refine J_thr (b := true) (nx := 156) dX12_game_153 rfl lk_X12_237 ⟨(Nat.le_of_ble_eq_true rfl), (Nat.le_of_ble_eq_true rfl)⟩ (Nat.le_of_ble_eq_true rfl) (fun b_153 => ?_) (fun b_153 => ?_)
    · refine J_if_ne (nx := 159) (tgt := 183) dX12_game_156 rfl (by decide) (fun c_156 => ?_) (fun c_156 => ?_)
      · refine J_iconst (nx := 184) (i := 0) (v := 0) (by decide) dX12_game_183 rfl ?_
        exact Jri dX12_game_184 rfl (Nat.zero_le _) (Nat.zero_le _) (RXi.of hP)
      · exact absurd c_156 (by decide)
    · exact absurd b_153 (by decide)

def MGf (GC : Nat) (g1 g2 : GS) : Prop := Fr f0 a64o g1 g2 ∧ ∀ i, gA g2 64 i = if i = 0 then nI (GC + 1) else if i = 4 then gF g1 63 16 else if 10 ≤ i ∧ i < 10 + 8 then gA g1 69 (i - 10) else if 18 ≤ i ∧ i < 18 + 1088 then gA g1 68 (i - 18) else gA g1 64 i
set_option maxRecDepth 100000 in
set_option maxHeartbeats 4000000 in
theorem sg_m_gmG (n0 : Nat) (g : GS) (GC : Nat) (hGC : gA g 64 0 = nI GC) (hG12 : GC ≤ 12) (P : Int32 → GS → Prop) (h2 : GC = 12 → P 0 (sF g 63 0 2)) (h3 : ∀ g2, ¬ GC = 12 → MGf GC g g2 → P (nI (GC + 1)) g2) : J mX12_game (rm 43 0 0) (RXi P) n0 142 [some (.ref 63), some (.int 1), none, none, none] [] (Wd g) 0 0 := by
  refine J_aload_n (nx := 143) dX12_game_142 rfl rfl ?_
  refine J_iload_n (nx := 144) dX12_game_143 rfl rfl ?_
  refine J_if_ne (nx := 147) (tgt := 151) dX12_game_144 rfl (by decide) (fun c_144 => ?_) (fun c_144 => ?_)
  · refine J_iconst (nx := 152) (i := 0) (v := 0) (by decide) dX12_game_151 rfl ?_
    refine J_iconst (nx := 153) (i := 1) (v := 1) (by decide) dX12_game_152 rfl ?_
    refine J_thr (b := false) (nx := 156) dX12_game_153 rfl lk_X12_237 ⟨(Nat.le_of_ble_eq_true rfl), (Nat.le_of_ble_eq_true rfl)⟩ (Nat.le_of_ble_eq_true rfl) (fun b_153 => ?_) (fun b_153 => ?_)
    · exact absurd b_153 (by decide)
    · refine J_if_ne (nx := 159) (tgt := 183) dX12_game_156 rfl (by decide) (fun c_156 => ?_) (fun c_156 => ?_)
      · exact absurd c_156 (by decide)
      · refine J_aload_n (nx := 160) dX12_game_159 rfl rfl ?_
        refine J_aload_n (nx := 161) dX12_game_160 rfl rfl ?_
        refine Jg_63_1 (nx := 164) dX12_game_161 rfl fl_X12_13 ?_
        refine J_iconst (nx := 165) (i := 0) (v := 0) (by decide) dX12_game_164 rfl ?_
        refine Ja_64 (nx := 166) dX12_game_165 rfl (vpE (n := 0) (nIc 0) (by omega) (by decide)) ?_
        rw [clE (n := 0) (nIc 0) (by omega)]
        rw [hGC]
        refine J_bipush (nx := 168) (i := 12) (v := 12) (by decide) dX12_game_166 rfl ?_
        refine J_icmp_ne (nx := 171) (tgt := 175) dX12_game_168 rfl (by decide) (fun c_168 => ?_) (fun c_168 => ?_)
        · refine J_iconst (nx := 176) (i := 0) (v := 0) (by decide) dX12_game_175 rfl ?_
          refine J_iconst (nx := 177) (i := 2) (v := 2) (by decide) dX12_game_176 rfl ?_
          refine J_thr (b := false) (nx := 180) dX12_game_177 rfl lk_X12_237 ⟨(Nat.le_of_ble_eq_true rfl), (Nat.le_of_ble_eq_true rfl)⟩ (Nat.le_of_ble_eq_true rfl) (fun b_177 => ?_) (fun b_177 => ?_)
          · exact absurd b_177 (by decide)
          · refine J_if_eq (nx := 183) (tgt := 185) dX12_game_180 rfl (by decide) (fun c_180 => ?_) (fun c_180 => ?_)
            · refine J_iconst (nx := 186) (i := 0) (v := 0) (by decide) dX12_game_185 rfl ?_
              refine J_istore_n (nx := 187) dX12_game_186 rfl rfl (Nat.le_of_ble_eq_true rfl) ?_
              have hG12 : ¬ GC = 12 := fun z => c_168 (by rw [z]; rfl)
              refine lp_m_gm4 _ g _ 1088 0 g rfl Fr.rf (fun x => by rw [if_neg (by omega)]) (fun ga hfa hIa => ?_)
              refine J_iconst (nx := 216) (i := 0) (v := 0) (by decide) dX12_game_215 rfl ?_
              refine J_istore_n (nx := 217) dX12_game_216 rfl rfl (Nat.le_of_ble_eq_true rfl) ?_
              refine lp_m_gm5 _ ga _ 8 0 ga rfl Fr.rf (fun x => by rw [if_neg (by omega)]) (fun gb hfb hIb => ?_)
              refine J_aload_n (nx := 245) dX12_game_244 rfl rfl ?_
              refine Jg_63_1 (nx := 248) dX12_game_245 rfl fl_X12_13 ?_
              refine J_iconst (nx := 249) (i := 4) (v := 4) (by decide) dX12_game_248 rfl ?_
              refine J_aload_n (nx := 250) dX12_game_249 rfl rfl ?_
              refine Jg_63_16 (nx := 253) dX12_game_250 rfl fl_X12_187 ?_
              refine Jt_64 (nx := 254) dX12_game_253 rfl (vpE (n := 4) (nIc 4) (by omega) (by decide)) ?_
              rw [clE (n := 4) (nIc 4) (by omega)]
              refine J.gen (fun g_253 hg_253 => ?_)
              refine J_aload_n (nx := 255) dX12_game_254 rfl rfl ?_
              refine Jg_63_1 (nx := 258) dX12_game_255 rfl fl_X12_13 ?_
              refine J_iconst (nx := 259) (i := 0) (v := 0) (by decide) dX12_game_258 rfl ?_
              refine J_dup2 (nx := 260) rfl rfl dX12_game_259 rfl ?_
              refine Ja_64 (nx := 261) dX12_game_260 rfl (vpE (n := 0) (nIc 0) (by omega) (by decide)) ?_
              rw [clE (n := 0) (nIc 0) (by omega)]
              have e0 : gA g_253 64 0 = nI GC := by
                rw [hg_253]
                show gA (wU gb 4 (gF gb 63 16)) 64 0 = _
                rw [wU_ne (by decide), hIb 0, if_neg (by omega), hIa 0, if_neg (by omega)]
                exact hGC
              rw [e0]
              refine J_iconst (nx := 262) (i := 1) (v := 1) (by decide) dX12_game_261 rfl ?_
              refine J_iadd (nx := 263) dX12_game_262 rfl ?_
              refine Jt_64 (nx := 264) dX12_game_263 rfl (vpE (n := 0) (nIc 0) (by omega) (by decide)) ?_
              rw [clE (n := 0) (nIc 0) (by omega)]
              refine J.gen (fun g_263 hg_263 => ?_)
              refine J_aload_n (nx := 265) dX12_game_264 rfl rfl ?_
              refine Jg_63_1 (nx := 268) dX12_game_265 rfl fl_X12_13 ?_
              refine J_iconst (nx := 269) (i := 0) (v := 0) (by decide) dX12_game_268 rfl ?_
              refine Ja_64 (nx := 270) dX12_game_269 rfl (vpE (n := 0) (nIc 0) (by omega) (by decide)) ?_
              rw [clE (n := 0) (nIc 0) (by omega)]
              exact Jri dX12_game_270 rfl (Nat.zero_le _) (Nat.zero_le _) (RXi.of (by
  have ex : gA g_263 64 0 = nI (GC + 1) := by
    rw [hg_263]
    show gA (wU g_253 0 (nI GC + 1)) 64 0 = _
    rw [wU_at]
    exact nI_add GC 1
  rw [ex]
  refine h3 g_263 hG12 ⟨by rw [hg_263, hg_253]; exact ((hfa.tr hfb).sA rfl).sA rfl, fun i => ?_⟩
  by_cases c0 : i = 0
  · rw [c0, if_pos rfl]; exact ex
  · rw [if_neg c0, hg_263]
    refine (show gA (wU g_253 0 _) 64 i = _ from wU_ne c0).trans ?_
    rw [hg_253]
    by_cases c4 : i = 4
    · rw [c4, if_pos rfl]
      show gA (wU gb 4 (gF gb 63 16)) 64 4 = _
      rw [wU_at]
      exact (hfb.1 63 16 rfl).trans (hfa.1 63 16 rfl)
    · rw [if_neg c4]
      refine (show gA (wU gb 4 _) 64 i = _ from wU_ne c4).trans ?_
      rw [hIb i]
      by_cases c10 : 10 ≤ i ∧ i < 10 + 8
      · rw [if_pos c10, if_pos c10, hfa.2.1 69 rfl]
      · rw [if_neg c10, if_neg c10]
        exact hIa i))
            · exact absurd c_180 (by decide)
        · refine J_iconst (nx := 172) (i := 1) (v := 1) (by decide) dX12_game_171 rfl ?_
          refine J_goto (nx := 176) dX12_game_172 (by decide) ?_
          refine J_iconst (nx := 177) (i := 2) (v := 2) (by decide) dX12_game_176 rfl ?_
          refine J_thr (b := true) (nx := 180) dX12_game_177 rfl lk_X12_237 ⟨(Nat.le_of_ble_eq_true rfl), (Nat.le_of_ble_eq_true rfl)⟩ (Nat.le_of_ble_eq_true rfl) (fun b_177 => ?_) (fun b_177 => ?_)
          · refine J_if_eq (nx := 183) (tgt := 185) dX12_game_180 rfl (by decide) (fun c_180 => ?_) (fun c_180 => ?_)
            · exact absurd c_180 (by decide)
            · refine J_iconst (nx := 184) (i := 0) (v := 0) (by decide) dX12_game_183 rfl ?_
              exact Jri dX12_game_184 rfl (Nat.zero_le _) (Nat.zero_le _) (RXi.of (h2 (nI_inj (a := GC) (b := 12) (by omega) (by omega) c_168)))
          · exact absurd b_177 (by decide)
  · exact absurd c_144 (by decide)

def MGa (n GC : Nat) (g : GS) (x : Int32) (g2 : GS) : Prop := ∃ (g3 : GS) (x1 : Int32) (g4 : GS),
  (Fr fGm aGm g g3 ∧ (∀ i, i < 1088 → gA g3 68 i = gA g 64 (18 + i)) ∧ (∀ z, z < 8 → gA g3 69 z = gA g 64 (10 + z)) ∧ gF g3 63 16 = gA g 64 4) ∧
  PRd n (IGr n (gA g 66)) (rdM 0 n g3) (pRead (obT n (gA g 66)) (gaLine (obT n (gA g 66))) (sk n (gA g 66) 0) (drM g3)) x1 g4 ∧
  ((x1 = 0 ∧ x = 0 ∧ g2 = sF g4 63 0 1) ∨
   (x1 = 1 ∧ (∃ q, q < 32 ∧ 100 < gmS (gA g4 68) q) ∧ x = 0 ∧ g2 = sF (sF g4 63 10 (gF g4 63 7)) 63 0 1) ∨
   (x1 = 1 ∧ (∀ q, q < 32 → gmS (gA g4 68) q ≤ 100) ∧ GC = 12 ∧ x = 0 ∧ g2 = sF g4 63 0 2) ∨
   (x1 = 1 ∧ (∀ q, q < 32 → gmS (gA g4 68) q ≤ 100) ∧ ¬ GC = 12 ∧ x = nI (GC + 1) ∧ MGf GC g4 g2))
theorem aGm_68 (c : Nat) (h : aGm c = false) : a68 c = false := by unfold aGm at h; unfold a68; revert h; cases Nat.beq c 68 <;> simp
theorem aGm_69 (c : Nat) (h : aGm c = false) : a69 c = false := by unfold aGm at h; unfold a69; revert h; cases Nat.beq c 68 <;> cases Nat.beq c 69 <;> simp
theorem PRd.x {α : Type} {n : Nat} {I : GS → Nat → Nat → α → Prop} {g0 g2 : GS} {r : Nat ⊕ α} {x : Int32} (h : PRd n I g0 r x g2) : (x = 0 ∨ x = 1) ∧ ∀ i, i < lC 0 - 1 → gA g2 64 i = gA g0 64 i := by
  obtain ⟨g1, ln, hT, hl, h2⟩ := h
  cases r with
  | inl e => exact ⟨Or.inl h2.1, fun i hi => by rw [h2.2]; exact (wU_ne (by unfold lC at hi; omega)).trans (hT.2 i (by omega))⟩
  | inr s => exact ⟨Or.inr h2.1, fun i hi => by rw [h2.2.1]; exact (wU_ne (by unfold lC at hi; omega)).trans (hT.2 i (by omega))⟩
set_option maxRecDepth 100000 in
set_option maxHeartbeats 4000000 in
theorem ct_m_game (g : GS) (n : Nat) (hn : gF g 63 5 = nI n) (hn4 : n ≤ 400) (GC : Nat) (hGC : gA g 64 0 = nI GC) (hG12 : GC ≤ 12) : Ct mX12_game (rm 43 0 0) [.ref 63] (Wd g) (RXi (MGa n GC g)) := by
  refine Ct.of (by decide +kernel) (Nat.le_of_ble_eq_true rfl) ?_
  show J _ _ _ _ 0 [some (.ref 63), none, none, none, none] [] _ 0 0
  refine J_iconst (nx := 1) (i := 0) (v := 0) (by decide) dX12_game_0 rfl ?_
  refine J_istore_n (nx := 2) dX12_game_1 rfl rfl (Nat.le_of_ble_eq_true rfl) ?_
  refine lp_m_gm1 _ g _ 1088 0 g rfl Fr.rf (fun x h => absurd h (Nat.not_lt_zero _)) (fun ga hfa hIa => ?_)
  refine J_iconst (nx := 31) (i := 0) (v := 0) (by decide) dX12_game_30 rfl ?_
  refine J_istore_n (nx := 32) dX12_game_31 rfl rfl (Nat.le_of_ble_eq_true rfl) ?_
  refine lp_m_gm2 _ ga _ 8 0 ga rfl Fr.rf (fun x h => absurd h (Nat.not_lt_zero _)) (fun gb hfb hIb => ?_)
  refine J_aload_n (nx := 60) dX12_game_59 rfl rfl ?_
  refine J_aload_n (nx := 61) dX12_game_60 rfl rfl ?_
  refine Jg_63_1 (nx := 64) dX12_game_61 rfl fl_X12_13 ?_
  refine J_iconst (nx := 65) (i := 4) (v := 4) (by decide) dX12_game_64 rfl ?_
  refine Ja_64 (nx := 66) dX12_game_65 rfl (vpE (n := 4) (nIc 4) (by omega) (by decide)) ?_
  rw [clE (n := 4) (nIc 4) (by omega)]
  refine Jp_63_16 (nx := 69) dX12_game_66 rfl fl_X12_187 ?_
  refine J.gen (fun g_66 hg_66 => ?_)
  have hfm : Fr fGm aGm g g_66 := by
    rw [hg_66]
    exact Fr.sF ((hfa.mono (fun _ _ _ => rfl) aGm_68).tr (hfb.mono (fun _ _ _ => rfl) aGm_69)) rfl
  have hn66 : gF g_66 63 5 = nI n := (hfm.1 63 5 rfl).trans hn
  have hC66 : gA g_66 66 = gA g 66 := hfm.2.1 66 rfl
  have hr := ct_m_reads0 g_66 n hn66 hn4
  rw [hC66] at hr
  have hF3 : Fr fGm aGm g g_66 ∧ (∀ i, i < 1088 → gA g_66 68 i = gA g 64 (18 + i)) ∧ (∀ z, z < 8 → gA g_66 69 z = gA g 64 (10 + z)) ∧ gF g_66 63 16 = gA g 64 4 := by
    refine ⟨hfm, fun i hi => ?_, fun z hz => ?_, ?_⟩
    · rw [hg_66]; exact (congrFun (hfb.2.1 68 rfl) i).trans (hIa i hi)
    · rw [hg_66]; exact (hIb z hz).trans (congrFun (hfa.2.1 64 rfl) _)
    · rw [hg_66]; exact (congrFun (hfb.2.1 64 rfl) 4).trans (congrFun (hfa.2.1 64 rfl) 4)
  refine J_aload_n (nx := 70) dX12_game_69 rfl rfl ?_
  refine J_iconst (nx := 71) (i := 0) (v := 0) (by decide) dX12_game_70 rfl ?_
  refine JiV1 (R' := rm (42) 0 0) (nx := 74) dX12_game_71 rfl ml_X12_reads lk_X12_234 iv_X12_reads rfl rfl ⟨(Nat.le_of_ble_eq_true rfl), (Nat.le_of_ble_eq_true rfl)⟩ (Nat.le_of_ble_eq_true rfl) ⟨rfl, rfl⟩ hr (fun x_71 g_71 p_71 => ?_)
  refine J_istore_n (nx := 75) dX12_game_74 rfl rfl (Nat.le_of_ble_eq_true rfl) ?_
  refine J_iconst (nx := 76) (i := 0) (v := 0) (by decide) dX12_game_75 rfl ?_
  refine J_istore_n (nx := 77) dX12_game_76 rfl rfl (Nat.le_of_ble_eq_true rfl) ?_
  have hx := p_71.x
  have h640 : gA g_71 64 0 = nI GC := (hx.2 0 (by unfold lC; omega)).trans ((congrFun (hfm.2.1 64 rfl) 0).trans hGC)
  rcases hx.1 with hx0 | hx1
  · rw [hx0]
    refine J_iload_n (nx := 78) dX12_game_77 rfl rfl ?_
    refine J_bipush (nx := 80) (i := 32) (v := 32) (by decide) dX12_game_78 rfl ?_
    refine J_icmp_ge (nx := 83) (tgt := 142) dX12_game_80 rfl (by decide) (fun c_80 => ?_) (fun c_80 => ?_)
    · refine J_kill (nx := 0) 2 ?_
      exact sg_m_gmB _ g_71 (MGa n GC g) ⟨g_66, x_71, g_71, hF3, p_71, Or.inl ⟨hx0, rfl, rfl⟩⟩
    · refine J_iload_n (nx := 84) dX12_game_83 rfl rfl ?_
      refine J_if_eq (nx := 87) (tgt := 142) dX12_game_84 rfl (by decide) (fun c_84 => ?_) (fun c_84 => ?_)
      · refine J_kill (nx := 0) 2 ?_
        exact sg_m_gmB _ g_71 (MGa n GC g) ⟨g_66, x_71, g_71, hF3, p_71, Or.inl ⟨hx0, rfl, rfl⟩⟩
      · exact absurd c_84 (by decide)
  · rw [hx1]
    refine lp_m_gm3 _ g_71 _ 32 0 rfl (fun q h => absurd h (Nat.not_lt_zero _)) (fun hOK => ?_) (fun q hq hbad => ?_)
    · exact sg_m_gmG _ g_71 GC h640 hG12 (MGa n GC g) (fun h => ⟨g_66, x_71, g_71, hF3, p_71, Or.inr (Or.inr (Or.inl ⟨hx1, hOK, h, rfl, rfl⟩))⟩) (fun g2 h h3 => ⟨g_66, x_71, g_71, hF3, p_71, Or.inr (Or.inr (Or.inr ⟨hx1, hOK, h, rfl, h3⟩))⟩)
    · exact sg_m_gmB _ _ (MGa n GC g) ⟨g_66, x_71, g_71, hF3, p_71, Or.inr (Or.inl ⟨hx1, ⟨q, hq, hbad⟩, rfl, rfl⟩)⟩

