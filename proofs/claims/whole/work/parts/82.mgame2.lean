
/-! the Model: a game taken -/
def a68 (c : Nat) : Bool := Nat.beq c 68
def a69 (c : Nat) : Bool := Nat.beq c 69
def gmS (ch : Nat → Int32) (s : Nat) : Int32 := sI (fun k => ch (34 * s + k)) 34
set_option maxRecDepth 100000 in
set_option maxHeartbeats 4000000 in
theorem lp_m_gm1 (Q : Res → List ME → Prop) (g0 : GS) (n0 : Nat) : ∀ (k : Nat) (i : Nat) (g : GS), i + k = 1088 → Fr f0 a68 g0 g → (∀ x, x < i → gA g 68 x = gA g0 64 (18 + x)) → (∀ g, Fr f0 a68 g0 g → (∀ x, x < 1088 → gA g 68 x = gA g0 64 (18 + x)) → J mX12_game (rm 43 0 0) Q n0 30 [some (.ref 63), some (.int (nI (1088))), none, none, none] [] (Wd g) 0 0) → J mX12_game (rm 43 0 0) (Q) n0 2 [some (.ref 63), some (.int (nI (i))), none, none, none] [] (Wd g) 0 0 := by
  intro k
  induction k with
  | zero =>
    intro i g hk hfr hI hK
    refine J_iload_n (nx := 3) dX12_game_2 rfl rfl ?_
    refine J_sipush (nx := 6) (i := 1088) (v := 1088) (by decide) dX12_game_3 rfl ?_
    refine J_icmp_ge (nx := 9) (tgt := 30) dX12_game_6 rfl (by decide) (fun c_6 => ?_) (fun c_6 => ?_)
    · obtain rfl : i = 1088 := by omega
      exact hK g hfr hI
    · exact absurd (show nI 1088 ≤ nI i from by rw [show i = 1088 by omega]; exact le_self_nI) c_6
  | succ k ih =>
    intro i g hk hfr hI hK
    refine J_iload_n (nx := 3) dX12_game_2 rfl rfl ?_
    refine J_sipush (nx := 6) (i := 1088) (v := 1088) (by decide) dX12_game_3 rfl ?_
    refine J_icmp_ge (nx := 9) (tgt := 30) dX12_game_6 rfl (by decide) (fun c_6 => ?_) (fun c_6 => ?_)
    · exact absurd c_6 (nlt_nI (n := 1088) (by omega) (by omega))
    · have hi : i < 1088 := by omega
      refine J_aload_n (nx := 10) dX12_game_9 rfl rfl ?_
      refine Jg_63_14 (nx := 13) dX12_game_10 rfl fl_X12_30 ?_
      refine J_iload_n (nx := 14) dX12_game_13 rfl rfl ?_
      refine J_aload_n (nx := 15) dX12_game_14 rfl rfl ?_
      refine Jg_63_1 (nx := 18) dX12_game_15 rfl fl_X12_13 ?_
      refine J_bipush (nx := 20) (i := 18) (v := 18) (by decide) dX12_game_18 rfl ?_
      refine J_iload_n (nx := 21) dX12_game_20 rfl rfl ?_
      refine J_iadd (nx := 22) dX12_game_21 rfl ?_
      refine Ja_64 (nx := 23) dX12_game_22 rfl (vpE (n := (18 + i)) (nIa (nIc 18) (Eq.refl (nI (i)))) (by omega) (by decide)) ?_
      rw [clE (n := (18 + i)) (nIa (nIc 18) (Eq.refl (nI (i)))) (by omega)]
      refine Jt_68 (nx := 24) dX12_game_23 rfl (vpE (n := i) (Eq.refl (nI (i))) (by omega) (by decide)) ?_
      rw [clE (n := i) (Eq.refl (nI (i))) (by omega)]
      refine J.gen (fun g_23 hg_23 => ?_)
      refine J_iinc (nx := 27) dX12_game_24 rfl rfl rfl (Nat.le_of_ble_eq_true rfl) ?_
      refine J_goto (nx := 2) dX12_game_27 (by decide) ?_
      rw [show (nI (i) + Int32.ofInt 1) = nI (i + 1) from (show nI (i) + Int32.ofInt 1 = nI (i + 1) from nI_add (i) 1)]
      refine ih (i + 1) g_23 (by omega) (by rw [hg_23]; exact hfr.sA rfl) (fun x hx => ?_) hK
      rw [hg_23]
      show upd (gA g 68) i (gA g 64 (18 + i)) x = gA g0 64 (18 + x)
      by_cases e : x = i
      · rw [e]; exact (if_pos rfl).trans (congrFun (hfr.2.1 64 rfl) _)
      · exact (if_neg e).trans (hI x (by omega))

set_option maxRecDepth 100000 in
set_option maxHeartbeats 4000000 in
theorem lp_m_gm2 (Q : Res → List ME → Prop) (g0 : GS) (n0 : Nat) : ∀ (k : Nat) (i : Nat) (g : GS), i + k = 8 → Fr f0 a69 g0 g → (∀ x, x < i → gA g 69 x = gA g0 64 (10 + x)) → (∀ g, Fr f0 a69 g0 g → (∀ x, x < 8 → gA g 69 x = gA g0 64 (10 + x)) → J mX12_game (rm 43 0 0) Q n0 59 [some (.ref 63), some (.int (nI (8))), none, none, none] [] (Wd g) 0 0) → J mX12_game (rm 43 0 0) (Q) n0 32 [some (.ref 63), some (.int (nI (i))), none, none, none] [] (Wd g) 0 0 := by
  intro k
  induction k with
  | zero =>
    intro i g hk hfr hI hK
    refine J_iload_n (nx := 33) dX12_game_32 rfl rfl ?_
    refine J_bipush (nx := 35) (i := 8) (v := 8) (by decide) dX12_game_33 rfl ?_
    refine J_icmp_ge (nx := 38) (tgt := 59) dX12_game_35 rfl (by decide) (fun c_35 => ?_) (fun c_35 => ?_)
    · obtain rfl : i = 8 := by omega
      exact hK g hfr hI
    · exact absurd (show nI 8 ≤ nI i from by rw [show i = 8 by omega]; exact le_self_nI) c_35
  | succ k ih =>
    intro i g hk hfr hI hK
    refine J_iload_n (nx := 33) dX12_game_32 rfl rfl ?_
    refine J_bipush (nx := 35) (i := 8) (v := 8) (by decide) dX12_game_33 rfl ?_
    refine J_icmp_ge (nx := 38) (tgt := 59) dX12_game_35 rfl (by decide) (fun c_35 => ?_) (fun c_35 => ?_)
    · exact absurd c_35 (nlt_nI (n := 8) (by omega) (by omega))
    · have hi : i < 8 := by omega
      refine J_aload_n (nx := 39) dX12_game_38 rfl rfl ?_
      refine Jg_63_15 (nx := 42) dX12_game_39 rfl fl_X12_33 ?_
      refine J_iload_n (nx := 43) dX12_game_42 rfl rfl ?_
      refine J_aload_n (nx := 44) dX12_game_43 rfl rfl ?_
      refine Jg_63_1 (nx := 47) dX12_game_44 rfl fl_X12_13 ?_
      refine J_bipush (nx := 49) (i := 10) (v := 10) (by decide) dX12_game_47 rfl ?_
      refine J_iload_n (nx := 50) dX12_game_49 rfl rfl ?_
      refine J_iadd (nx := 51) dX12_game_50 rfl ?_
      refine Ja_64 (nx := 52) dX12_game_51 rfl (vpE (n := (10 + i)) (nIa (nIc 10) (Eq.refl (nI (i)))) (by omega) (by decide)) ?_
      rw [clE (n := (10 + i)) (nIa (nIc 10) (Eq.refl (nI (i)))) (by omega)]
      refine Jt_69 (nx := 53) dX12_game_52 rfl (vpE (n := i) (Eq.refl (nI (i))) (by omega) (by decide)) ?_
      rw [clE (n := i) (Eq.refl (nI (i))) (by omega)]
      refine J.gen (fun g_52 hg_52 => ?_)
      refine J_iinc (nx := 56) dX12_game_53 rfl rfl rfl (Nat.le_of_ble_eq_true rfl) ?_
      refine J_goto (nx := 32) dX12_game_56 (by decide) ?_
      rw [show (nI (i) + Int32.ofInt 1) = nI (i + 1) from (show nI (i) + Int32.ofInt 1 = nI (i + 1) from nI_add (i) 1)]
      refine ih (i + 1) g_52 (by omega) (by rw [hg_52]; exact hfr.sA rfl) (fun x hx => ?_) hK
      rw [hg_52]
      show upd (gA g 69) i (gA g 64 (10 + i)) x = gA g0 64 (10 + x)
      by_cases e : x = i
      · rw [e]; exact (if_pos rfl).trans (congrFun (hfr.2.1 64 rfl) _)
      · exact (if_neg e).trans (hI x (by omega))

set_option maxRecDepth 100000 in
set_option maxHeartbeats 4000000 in
theorem lp_m_gm4 (Q : Res → List ME → Prop) (g0 : GS) (n0 : Nat) : ∀ (k : Nat) (i : Nat) (g : GS), i + k = 1088 → Fr f0 a64o g0 g → (∀ x, gA g 64 x = if 18 ≤ x ∧ x < 18 + i then gA g0 68 (x - 18) else gA g0 64 x) → (∀ g, Fr f0 a64o g0 g → (∀ x, gA g 64 x = if 18 ≤ x ∧ x < 18 + 1088 then gA g0 68 (x - 18) else gA g0 64 x) → J mX12_game (rm 43 0 0) Q n0 215 [some (.ref 63), some (.int 1), some (.int (nI (1088))), none, none] [] (Wd g) 0 0) → J mX12_game (rm 43 0 0) (Q) n0 187 [some (.ref 63), some (.int 1), some (.int (nI (i))), none, none] [] (Wd g) 0 0 := by
  intro k
  induction k with
  | zero =>
    intro i g hk hfr hI hK
    refine J_iload_n (nx := 188) dX12_game_187 rfl rfl ?_
    refine J_sipush (nx := 191) (i := 1088) (v := 1088) (by decide) dX12_game_188 rfl ?_
    refine J_icmp_ge (nx := 194) (tgt := 215) dX12_game_191 rfl (by decide) (fun c_191 => ?_) (fun c_191 => ?_)
    · obtain rfl : i = 1088 := by omega
      exact hK g hfr hI
    · exact absurd (show nI 1088 ≤ nI i from by rw [show i = 1088 by omega]; exact le_self_nI) c_191
  | succ k ih =>
    intro i g hk hfr hI hK
    refine J_iload_n (nx := 188) dX12_game_187 rfl rfl ?_
    refine J_sipush (nx := 191) (i := 1088) (v := 1088) (by decide) dX12_game_188 rfl ?_
    refine J_icmp_ge (nx := 194) (tgt := 215) dX12_game_191 rfl (by decide) (fun c_191 => ?_) (fun c_191 => ?_)
    · exact absurd c_191 (nlt_nI (n := 1088) (by omega) (by omega))
    · have hi : i < 1088 := by omega
      refine J_aload_n (nx := 195) dX12_game_194 rfl rfl ?_
      refine Jg_63_1 (nx := 198) dX12_game_195 rfl fl_X12_13 ?_
      refine J_bipush (nx := 200) (i := 18) (v := 18) (by decide) dX12_game_198 rfl ?_
      refine J_iload_n (nx := 201) dX12_game_200 rfl rfl ?_
      refine J_iadd (nx := 202) dX12_game_201 rfl ?_
      refine J_aload_n (nx := 203) dX12_game_202 rfl rfl ?_
      refine Jg_63_14 (nx := 206) dX12_game_203 rfl fl_X12_30 ?_
      refine J_iload_n (nx := 207) dX12_game_206 rfl rfl ?_
      refine Ja_68 (nx := 208) dX12_game_207 rfl (vpE (n := i) (Eq.refl (nI (i))) (by omega) (by decide)) ?_
      rw [clE (n := i) (Eq.refl (nI (i))) (by omega)]
      refine Jt_64 (nx := 209) dX12_game_208 rfl (vpE (n := (18 + i)) (nIa (nIc 18) (Eq.refl (nI (i)))) (by omega) (by decide)) ?_
      rw [clE (n := (18 + i)) (nIa (nIc 18) (Eq.refl (nI (i)))) (by omega)]
      refine J.gen (fun g_208 hg_208 => ?_)
      refine J_iinc (nx := 212) dX12_game_209 rfl rfl rfl (Nat.le_of_ble_eq_true rfl) ?_
      refine J_goto (nx := 187) dX12_game_212 (by decide) ?_
      rw [show (nI (i) + Int32.ofInt 1) = nI (i + 1) from (show nI (i) + Int32.ofInt 1 = nI (i + 1) from nI_add (i) 1)]
      refine ih (i + 1) g_208 (by omega) (by rw [hg_208]; exact hfr.sA rfl) (fun x => ?_) hK
      rw [hg_208]
      show (if x = 18 + i then gA g 68 i else gA g 64 x) = _
      rw [show gA g 68 = gA g0 68 from hfr.2.1 68 rfl]
      by_cases e1 : x = 18 + i
      · rw [if_pos e1, if_pos (by omega), e1, show 18 + i - 18 = i by omega]
      · rw [if_neg e1, hI x]
        by_cases e2 : 18 ≤ x ∧ x < 18 + i
        · rw [if_pos e2, if_pos (by omega)]
        · rw [if_neg e2, if_neg (by omega)]

set_option maxRecDepth 100000 in
set_option maxHeartbeats 4000000 in
theorem lp_m_gm5 (Q : Res → List ME → Prop) (g0 : GS) (n0 : Nat) : ∀ (k : Nat) (i : Nat) (g : GS), i + k = 8 → Fr f0 a64o g0 g → (∀ x, gA g 64 x = if 10 ≤ x ∧ x < 10 + i then gA g0 69 (x - 10) else gA g0 64 x) → (∀ g, Fr f0 a64o g0 g → (∀ x, gA g 64 x = if 10 ≤ x ∧ x < 10 + 8 then gA g0 69 (x - 10) else gA g0 64 x) → J mX12_game (rm 43 0 0) Q n0 244 [some (.ref 63), some (.int 1), some (.int (nI (8))), none, none] [] (Wd g) 0 0) → J mX12_game (rm 43 0 0) (Q) n0 217 [some (.ref 63), some (.int 1), some (.int (nI (i))), none, none] [] (Wd g) 0 0 := by
  intro k
  induction k with
  | zero =>
    intro i g hk hfr hI hK
    refine J_iload_n (nx := 218) dX12_game_217 rfl rfl ?_
    refine J_bipush (nx := 220) (i := 8) (v := 8) (by decide) dX12_game_218 rfl ?_
    refine J_icmp_ge (nx := 223) (tgt := 244) dX12_game_220 rfl (by decide) (fun c_220 => ?_) (fun c_220 => ?_)
    · obtain rfl : i = 8 := by omega
      exact hK g hfr hI
    · exact absurd (show nI 8 ≤ nI i from by rw [show i = 8 by omega]; exact le_self_nI) c_220
  | succ k ih =>
    intro i g hk hfr hI hK
    refine J_iload_n (nx := 218) dX12_game_217 rfl rfl ?_
    refine J_bipush (nx := 220) (i := 8) (v := 8) (by decide) dX12_game_218 rfl ?_
    refine J_icmp_ge (nx := 223) (tgt := 244) dX12_game_220 rfl (by decide) (fun c_220 => ?_) (fun c_220 => ?_)
    · exact absurd c_220 (nlt_nI (n := 8) (by omega) (by omega))
    · have hi : i < 8 := by omega
      refine J_aload_n (nx := 224) dX12_game_223 rfl rfl ?_
      refine Jg_63_1 (nx := 227) dX12_game_224 rfl fl_X12_13 ?_
      refine J_bipush (nx := 229) (i := 10) (v := 10) (by decide) dX12_game_227 rfl ?_
      refine J_iload_n (nx := 230) dX12_game_229 rfl rfl ?_
      refine J_iadd (nx := 231) dX12_game_230 rfl ?_
      refine J_aload_n (nx := 232) dX12_game_231 rfl rfl ?_
      refine Jg_63_15 (nx := 235) dX12_game_232 rfl fl_X12_33 ?_
      refine J_iload_n (nx := 236) dX12_game_235 rfl rfl ?_
      refine Ja_69 (nx := 237) dX12_game_236 rfl (vpE (n := i) (Eq.refl (nI (i))) (by omega) (by decide)) ?_
      rw [clE (n := i) (Eq.refl (nI (i))) (by omega)]
      refine Jt_64 (nx := 238) dX12_game_237 rfl (vpE (n := (10 + i)) (nIa (nIc 10) (Eq.refl (nI (i)))) (by omega) (by decide)) ?_
      rw [clE (n := (10 + i)) (nIa (nIc 10) (Eq.refl (nI (i)))) (by omega)]
      refine J.gen (fun g_237 hg_237 => ?_)
      refine J_iinc (nx := 241) dX12_game_238 rfl rfl rfl (Nat.le_of_ble_eq_true rfl) ?_
      refine J_goto (nx := 217) dX12_game_241 (by decide) ?_
      rw [show (nI (i) + Int32.ofInt 1) = nI (i + 1) from (show nI (i) + Int32.ofInt 1 = nI (i + 1) from nI_add (i) 1)]
      refine ih (i + 1) g_237 (by omega) (by rw [hg_237]; exact hfr.sA rfl) (fun x => ?_) hK
      rw [hg_237]
      show (if x = 10 + i then gA g 69 i else gA g 64 x) = _
      rw [show gA g 69 = gA g0 69 from hfr.2.1 69 rfl]
      by_cases e1 : x = 10 + i
      · rw [if_pos e1, if_pos (by omega), e1, show 10 + i - 10 = i by omega]
      · rw [if_neg e1, hI x]
        by_cases e2 : 10 ≤ x ∧ x < 10 + i
        · rw [if_pos e2, if_pos (by omega)]
        · rw [if_neg e2, if_neg (by omega)]

set_option maxRecDepth 100000 in
set_option maxHeartbeats 4000000 in
theorem lp_m_gmi (Q : Res → List ME → Prop) (g : GS) (s : Nat) (hs : s < 32) (n0 : Nat) : ∀ (k : Nat) (i : Nat), i + k = 34 → J mX12_game (rm 43 0 0) Q n0 120 [some (.ref 63), some (.int 1), some (.int (nI (s))), some (.int (gmS (gA g 68) s)), some (.int (nI (34)))] [] (Wd g) 0 0 → J mX12_game (rm 43 0 0) (Q) n0 92 [some (.ref 63), some (.int 1), some (.int (nI (s))), some (.int (sI (fun k => gA g 68 (34 * s + k)) i)), some (.int (nI (i)))] [] (Wd g) 0 0 := by
  intro k
  induction k with
  | zero =>
    intro i hk hK
    refine J_iload (nx := 94) dX12_game_92 rfl rfl ?_
    refine J_bipush (nx := 96) (i := 34) (v := 34) (by decide) dX12_game_94 rfl ?_
    refine J_icmp_ge (nx := 99) (tgt := 120) dX12_game_96 rfl (by decide) (fun c_96 => ?_) (fun c_96 => ?_)
    · obtain rfl : i = 34 := by omega
      exact hK
    · exact absurd (show nI 34 ≤ nI i from by rw [show i = 34 by omega]; exact le_self_nI) c_96
  | succ k ih =>
    intro i hk hK
    refine J_iload (nx := 94) dX12_game_92 rfl rfl ?_
    refine J_bipush (nx := 96) (i := 34) (v := 34) (by decide) dX12_game_94 rfl ?_
    refine J_icmp_ge (nx := 99) (tgt := 120) dX12_game_96 rfl (by decide) (fun c_96 => ?_) (fun c_96 => ?_)
    · exact absurd c_96 (nlt_nI (n := 34) (by omega) (by omega))
    · have hi : i < 34 := by omega
      refine J_iload_n (nx := 100) dX12_game_99 rfl rfl ?_
      refine J_aload_n (nx := 101) dX12_game_100 rfl rfl ?_
      refine Jg_63_14 (nx := 104) dX12_game_101 rfl fl_X12_30 ?_
      refine J_bipush (nx := 106) (i := 34) (v := 34) (by decide) dX12_game_104 rfl ?_
      refine J_iload_n (nx := 107) dX12_game_106 rfl rfl ?_
      refine J_imul (nx := 108) dX12_game_107 rfl ?_
      refine J_iload (nx := 110) dX12_game_108 rfl rfl ?_
      refine J_iadd (nx := 111) dX12_game_110 rfl ?_
      refine Ja_68 (nx := 112) dX12_game_111 rfl (vpE (n := ((34 * s) + i)) (nIa (nIm (nIc 34) (Eq.refl (nI (s)))) (Eq.refl (nI (i)))) (by omega) (by decide)) ?_
      rw [clE (n := ((34 * s) + i)) (nIa (nIm (nIc 34) (Eq.refl (nI (s)))) (Eq.refl (nI (i)))) (by omega)]
      refine J_iadd (nx := 113) dX12_game_112 rfl ?_
      refine J_istore_n (nx := 114) dX12_game_113 rfl rfl (Nat.le_of_ble_eq_true rfl) ?_
      refine J_iinc (nx := 117) dX12_game_114 rfl rfl rfl (Nat.le_of_ble_eq_true rfl) ?_
      refine J_goto (nx := 92) dX12_game_117 (by decide) ?_
      rw [show (nI (i) + Int32.ofInt 1) = nI (i + 1) from (show nI (i) + Int32.ofInt 1 = nI (i + 1) from nI_add (i) 1)]
      exact ih (i + 1) (by omega) hK

set_option maxRecDepth 100000 in
set_option maxHeartbeats 4000000 in
theorem lp_m_gm3 (Q : Res → List ME → Prop) (g : GS) (n0 : Nat) : ∀ (k : Nat) (s : Nat), s + k = 32 → (∀ q, q < s → gmS (gA g 68) q ≤ 100) → ((∀ q, q < 32 → gmS (gA g 68) q ≤ 100) → J mX12_game (rm 43 0 0) Q n0 142 [some (.ref 63), some (.int 1), none, none, none] [] (Wd g) 0 0) → (∀ q, q < 32 → 100 < gmS (gA g 68) q → J mX12_game (rm 43 0 0) Q n0 142 [some (.ref 63), some (.int 0), none, none, none] [] (Wd (sF g 63 10 (gF g 63 7))) 0 0) → J mX12_game (rm 43 0 0) (Q) n0 77 [some (.ref 63), some (.int 1), some (.int (nI s)), none, none] [] (Wd g) 0 0 := by
  intro k
  induction k with
  | zero =>
    intro s hk hI hG hB
    refine J_iload_n (nx := 78) dX12_game_77 rfl rfl ?_
    refine J_bipush (nx := 80) (i := 32) (v := 32) (by decide) dX12_game_78 rfl ?_
    refine J_icmp_ge (nx := 83) (tgt := 142) dX12_game_80 rfl (by decide) (fun c_80 => ?_) (fun c_80 => ?_)
    · refine J_kill (nx := 0) 2 ?_
      refine J_kill (nx := 0) 3 ?_
      refine J_kill (nx := 0) 4 ?_
      exact hG (fun q hq => hI q (by omega))
    · exact absurd (show nI 32 ≤ nI s from by rw [show s = 32 by omega]; exact le_self_nI) c_80
  | succ k ih =>
    intro s hk hI hG hB
    refine J_iload_n (nx := 78) dX12_game_77 rfl rfl ?_
    refine J_bipush (nx := 80) (i := 32) (v := 32) (by decide) dX12_game_78 rfl ?_
    refine J_icmp_ge (nx := 83) (tgt := 142) dX12_game_80 rfl (by decide) (fun c_80 => ?_) (fun c_80 => ?_)
    · exact absurd c_80 (nlt_nI (n := 32) (by omega) (by omega))
    · have hs : s < 32 := by omega
      refine J_iload_n (nx := 84) dX12_game_83 rfl rfl ?_
      refine J_if_eq (nx := 87) (tgt := 142) dX12_game_84 rfl (by decide) (fun c_84 => ?_) (fun c_84 => ?_)
      · exact absurd c_84 (by decide)
      · refine J_iconst (nx := 88) (i := 0) (v := 0) (by decide) dX12_game_87 rfl ?_
        refine J_istore_n (nx := 89) dX12_game_88 rfl rfl (Nat.le_of_ble_eq_true rfl) ?_
        refine J_iconst (nx := 90) (i := 0) (v := 0) (by decide) dX12_game_89 rfl ?_
        refine J_istore (nx := 92) dX12_game_90 rfl rfl (Nat.le_of_ble_eq_true rfl) ?_
        refine lp_m_gmi _ g s hs n0 34 0 rfl ?_
        refine J_iload_n (nx := 121) dX12_game_120 rfl rfl ?_
        refine J_bipush (nx := 123) (i := 100) (v := 100) (by decide) dX12_game_121 rfl ?_
        refine J_icmp_le (nx := 126) (tgt := 136) dX12_game_123 rfl (by decide) (fun c_123 => ?_) (fun c_123 => ?_)
        · refine J_iinc (nx := 139) dX12_game_136 rfl rfl rfl (Nat.le_of_ble_eq_true rfl) ?_
          refine J_goto (nx := 77) dX12_game_139 (by decide) ?_
          rw [show (nI (s) + Int32.ofInt 1) = nI (s + 1) from (show nI (s) + Int32.ofInt 1 = nI (s + 1) from nI_add (s) 1)]
          refine J_kill (nx := 0) 3 ?_
          refine J_kill (nx := 0) 4 ?_
          exact ih (s + 1) (by omega) (fun q hq => by
            by_cases e : q = s
            · rw [e]; exact c_123
            · exact hI q (by omega)) hG hB
        · refine J_iconst (nx := 127) (i := 0) (v := 0) (by decide) dX12_game_126 rfl ?_
          refine J_istore_n (nx := 128) dX12_game_127 rfl rfl (Nat.le_of_ble_eq_true rfl) ?_
          refine J_aload_n (nx := 129) dX12_game_128 rfl rfl ?_
          refine J_aload_n (nx := 130) dX12_game_129 rfl rfl ?_
          refine Jg_63_7 (nx := 133) dX12_game_130 rfl fl_X12_87 ?_
          refine Jp_63_10 (nx := 136) dX12_game_133 rfl fl_X12_24 ?_
          refine J.gen (fun g_133 hg_133 => ?_)
          refine J_iinc (nx := 139) dX12_game_136 rfl rfl rfl (Nat.le_of_ble_eq_true rfl) ?_
          refine J_goto (nx := 77) dX12_game_139 (by decide) ?_
          refine J_iload_n (nx := 78) dX12_game_77 rfl rfl ?_
          refine J_bipush (nx := 80) (i := 32) (v := 32) (by decide) dX12_game_78 rfl ?_
          refine J_icmp_ge (nx := 83) (tgt := 142) dX12_game_80 rfl (by decide) (fun c_80 => ?_) (fun c_80 => ?_)
          · refine J_kill (nx := 0) 2 ?_
            refine J_kill (nx := 0) 3 ?_
            refine J_kill (nx := 0) 4 ?_
            rw [hg_133]
            exact hB s hs (nle_lt c_123)
          · refine J_iload_n (nx := 84) dX12_game_83 rfl rfl ?_
            refine J_if_eq (nx := 87) (tgt := 142) dX12_game_84 rfl (by decide) (fun c_84 => ?_) (fun c_84 => ?_)
            · refine J_kill (nx := 0) 2 ?_
              refine J_kill (nx := 0) 3 ?_
              refine J_kill (nx := 0) 4 ?_
              rw [hg_133]
              exact hB s hs (nle_lt c_123)
            · exact absurd c_84 (by decide)

