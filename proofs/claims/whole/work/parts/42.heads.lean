
/-! heads of LINES -/
def hdAt (hs : List Hd) (i : Nat) : Hd := hs.getD i (0, 0, 0, 0)
def HS (g : GS) (hs : List Hd) : Prop := ∀ i, i < hs.length → gA g 18 (4 * i) = (hdAt hs i).1 ∧ gA g 18 (4 * i + 1) = (hdAt hs i).2.1 ∧ gA g 18 (4 * i + 2) = nI (hdAt hs i).2.2.1 ∧ gA g 18 (4 * i + 3) = nI (hdAt hs i).2.2.2
def aL (c : Nat) : Bool := aC c || Nat.beq c 18
theorem fr_CL {g g' : GS} (h : Fr fC aC g g') : Fr fC aL g g' := h.mono (fun _ _ e => e) (fun _ e => or_ff e)
theorem TS.fr18 {o : Ob} {rl : Bool} {g : GS} {b : Nat} {cs : List Int32} (h : TS o rl g b cs) (f : Nat → Int32) : TS o rl (sA g 18 f) b cs := ⟨h.1.fr (f := fun _ _ => false) (a := fun c => Nat.beq c 18) (Fr.rf.sA rfl) (fun _ => rfl) rfl rfl rfl rfl, h.2⟩
theorem HS.fr {g g' : GS} {hs : List Hd} (h : HS g hs) (e : gA g' 18 = gA g 18) : HS g' hs := fun i hi => by rw [e]; exact h i hi
theorem hdAt_lt {hs : List Hd} {i : Nat} (x : Hd) (h : i < hs.length) : hdAt (hs ++ [x]) i = hdAt hs i := by
  unfold hdAt
  simp [List.getD, List.getElem?_append_left h]
theorem hdAt_eq (hs : List Hd) (x : Hd) : hdAt (hs ++ [x]) hs.length = x := by
  unfold hdAt
  simp [List.getD]
def sh1 (g : GS) (i x : Int32) : GS := sA g 18 (rPut 48 (gA g 18) i x)
def shG (g : GS) (a f bg : Int32) : GS := sh1 (sh1 (sh1 (sh1 g (4 * gF g 7 5) a) (4 * gF g 7 5 + 1) f) (4 * gF g 7 5 + 2) bg) (4 * gF g 7 5 + 3) (gF g 7 4)
theorem shG_ok {o : Ob} {rl : Bool} {g : GS} {b : Nat} {cs : List Int32} {hs : List Hd} (a f : Int32) (bg : Nat) (h : TS o rl g b cs) (hH : HS g hs) (hN : gF g 7 5 = nI hs.length) (hl : hs.length < 12) : Fr fC aL g (shG g a f (nI bg)) ∧ TS o rl (shG g a f (nI bg)) b cs ∧ HS (shG g a f (nI bg)) (hs ++ [(a, f, bg, cs.length)]) := by
  have e : ∀ j, gA (shG g a f (nI bg)) 18 j = if j = 4 * hs.length + 3 then nI cs.length else if j = 4 * hs.length + 2 then nI bg else if j = 4 * hs.length + 1 then f else if j = 4 * hs.length then a else gA g 18 j := by
    intro j
    show rPut 48 (rPut 48 (rPut 48 (rPut 48 (gA g 18) (4 * gF g 7 5) a) (4 * gF g 7 5 + 1) f) (4 * gF g 7 5 + 2) (nI bg)) (4 * gF g 7 5 + 3) (gF g 7 4) j = _
    rw [hN, h.siz, show (4 : Int32) = nI 4 from rfl, nI_mul, show (3 : Int32) = nI 3 from rfl, show (2 : Int32) = nI 2 from rfl, show (1 : Int32) = nI 1 from rfl, nI_add, nI_add, nI_add, rPut_eq (by omega) (by decide), rPut_eq (by omega) (by decide), rPut_eq (by omega) (by decide), rPut_eq (by omega) (by decide)]
  refine ⟨((((Fr.rf.sA rfl).sA rfl).sA rfl).sA rfl), (((h.fr18 _).fr18 _).fr18 _).fr18 _, fun i hi => ?_⟩
  rw [List.length_append, List.length_singleton] at hi
  rw [e, e, e, e]
  by_cases h1 : i = hs.length
  · subst h1
    rw [hdAt_eq]
    refine ⟨?_, ?_, ?_, ?_⟩
    · rw [if_neg (by omega), if_neg (by omega), if_neg (by omega), if_pos rfl]
    · rw [if_neg (by omega), if_neg (by omega), if_pos rfl]
    · rw [if_neg (by omega), if_pos rfl]
    · rw [if_pos rfl]
  · have h2 : i < hs.length := by omega
    rw [hdAt_lt _ h2]
    have := hH i h2
    refine ⟨?_, ?_, ?_, ?_⟩
    · rw [if_neg (by omega), if_neg (by omega), if_neg (by omega), if_neg (by omega)]; exact this.1
    · rw [if_neg (by omega), if_neg (by omega), if_neg (by omega), if_neg (by omega)]; exact this.2.1
    · rw [if_neg (by omega), if_neg (by omega), if_neg (by omega), if_neg (by omega)]; exact this.2.2.1
    · rw [if_neg (by omega), if_neg (by omega), if_neg (by omega), if_neg (by omega)]; exact this.2.2.2
def PL (o : Ob) (rl : Bool) (g : GS) (hs : List Hd) (r : LR) (x : Int32) (g' : GS) : Prop := Fr fC aL g g' ∧ (match r with
  | .inl e => x = 0 ∧ gF g' 7 7 = nI e
  | .inr q => x = 1 ∧ TS o rl g' q.1 q.2.2 ∧ HS g' (hs ++ [q.2.1]))
theorem PL.bad {o : Ob} {rl : Bool} {g g' : GS} {hs : List Hd} {e : Nat} {r : LR} (hf : Fr fC aC g g') (hr : r = .inl e) (h : gF g' 7 7 = nI e) : PL o rl g hs r 0 g' := by
  subst hr; exact ⟨fr_CL hf, rfl, h⟩
theorem PP.bad {o : Ob} {rl : Bool} {g g' : GS} {r : PR} {x : Int32} (h : PP o rl g r x g') (hx : x = 0) : ∃ e, r = .inl e ∧ gF g' 7 7 = nI e := by
  cases r with
  | inl e => exact ⟨e, rfl, h.2.2⟩
  | inr q => exact absurd (h.2.1.symm.trans hx) (by decide)

set_option maxRecDepth 100000 in
set_option maxHeartbeats 4000000 in
theorem ct_setHead (g : GS) (a f bg : Int32) : Ct mX8_setHead (rm 1 0 0) [.ref 7, .int a, .int f, .int bg] (Wd g) (RR (.inl none) (shG g a f bg)) := by
  refine Ct.of (by decide +kernel) (Nat.le_of_ble_eq_true rfl) ?_
  show J _ _ _ _ 0 [some (.ref 7), some (.int a), some (.int f), some (.int bg), none] [] _ 0 0
  refine J_iconst (nx := 1) (i := 4) (v := 4) (by decide) dX8_setHead_0 rfl ?_
  refine J_aload_n (nx := 2) dX8_setHead_1 rfl rfl ?_
  refine Jg_7_5 (nx := 5) dX8_setHead_2 rfl fl_X8_59 ?_
  refine J_imul (nx := 6) dX8_setHead_5 rfl ?_
  refine J_istore (nx := 8) dX8_setHead_6 rfl rfl (Nat.le_of_ble_eq_true rfl) ?_
  refine J_aload_n (nx := 9) dX8_setHead_8 rfl rfl ?_
  refine Jg_7_2 (nx := 12) dX8_setHead_9 rfl fl_X8_20 ?_
  refine J_iload (nx := 14) dX8_setHead_12 rfl rfl ?_
  refine J_iload_n (nx := 15) dX8_setHead_14 rfl rfl ?_
  refine JcS3 (R' := rm (0) 0 0) (nx := 18) dX8_setHead_15 rfl ml_X6_put lk_X8_148 st_X6_put ⟨(Nat.le_of_ble_eq_true rfl), (Nat.le_of_ble_eq_true rfl)⟩ (Nat.le_of_ble_eq_true rfl) ⟨rfl, rfl⟩ (ct_put _ 18 48 _ _ rfl (fun _ => rfl) (by decide)) ?_
  refine J.gen (fun g_15 hg_15 => ?_)
  refine J_aload_n (nx := 19) dX8_setHead_18 rfl rfl ?_
  refine Jg_7_2 (nx := 22) dX8_setHead_19 rfl fl_X8_20 ?_
  refine J_iload (nx := 24) dX8_setHead_22 rfl rfl ?_
  refine J_iconst (nx := 25) (i := 1) (v := 1) (by decide) dX8_setHead_24 rfl ?_
  refine J_iadd (nx := 26) dX8_setHead_25 rfl ?_
  refine J_iload_n (nx := 27) dX8_setHead_26 rfl rfl ?_
  refine JcS3 (R' := rm (0) 0 0) (nx := 30) dX8_setHead_27 rfl ml_X6_put lk_X8_148 st_X6_put ⟨(Nat.le_of_ble_eq_true rfl), (Nat.le_of_ble_eq_true rfl)⟩ (Nat.le_of_ble_eq_true rfl) ⟨rfl, rfl⟩ (ct_put _ 18 48 _ _ rfl (fun _ => rfl) (by decide)) ?_
  refine J.gen (fun g_27 hg_27 => ?_)
  refine J_aload_n (nx := 31) dX8_setHead_30 rfl rfl ?_
  refine Jg_7_2 (nx := 34) dX8_setHead_31 rfl fl_X8_20 ?_
  refine J_iload (nx := 36) dX8_setHead_34 rfl rfl ?_
  refine J_iconst (nx := 37) (i := 2) (v := 2) (by decide) dX8_setHead_36 rfl ?_
  refine J_iadd (nx := 38) dX8_setHead_37 rfl ?_
  refine J_iload_n (nx := 39) dX8_setHead_38 rfl rfl ?_
  refine JcS3 (R' := rm (0) 0 0) (nx := 42) dX8_setHead_39 rfl ml_X6_put lk_X8_148 st_X6_put ⟨(Nat.le_of_ble_eq_true rfl), (Nat.le_of_ble_eq_true rfl)⟩ (Nat.le_of_ble_eq_true rfl) ⟨rfl, rfl⟩ (ct_put _ 18 48 _ _ rfl (fun _ => rfl) (by decide)) ?_
  refine J.gen (fun g_39 hg_39 => ?_)
  refine J_aload_n (nx := 43) dX8_setHead_42 rfl rfl ?_
  refine Jg_7_2 (nx := 46) dX8_setHead_43 rfl fl_X8_20 ?_
  refine J_iload (nx := 48) dX8_setHead_46 rfl rfl ?_
  refine J_iconst (nx := 49) (i := 3) (v := 3) (by decide) dX8_setHead_48 rfl ?_
  refine J_iadd (nx := 50) dX8_setHead_49 rfl ?_
  refine J_aload_n (nx := 51) dX8_setHead_50 rfl rfl ?_
  refine Jg_7_4 (nx := 54) dX8_setHead_51 rfl fl_X8_56 ?_
  refine JcS3 (R' := rm (0) 0 0) (nx := 57) dX8_setHead_54 rfl ml_X6_put lk_X8_148 st_X6_put ⟨(Nat.le_of_ble_eq_true rfl), (Nat.le_of_ble_eq_true rfl)⟩ (Nat.le_of_ble_eq_true rfl) ⟨rfl, rfl⟩ (ct_put _ 18 48 _ _ rfl (fun _ => rfl) (by decide)) ?_
  refine J.gen (fun g_54 hg_54 => ?_)
  subst hg_54
  subst hg_39
  subst hg_27
  subst hg_15
  exact Jrv dX8_setHead_57 rfl (Nat.zero_le _) (Nat.zero_le _) ⟨rfl, rfl⟩

theorem ct_setHeadx (o : Ob) (ho : ObOK o) (rl : Bool) (g : GS) (b : Nat) (cs : List Int32) (hs : List Hd) (h : TS o rl g b cs) (hH : HS g hs) (hN : gF g 7 5 = nI hs.length) (hl : hs.length < 12) (a f : Int32) (bg : Nat) : Ct mX8_setHead (rm 1 0 0) [.ref 7, .int a, .int f, .int (nI bg)] (Wd g) (RXv (fun g' => Fr fC aL g g' ∧ TS o rl g' b cs ∧ HS g' (hs ++ [(a, f, bg, cs.length)]))) := (ct_setHead g a f (nI bg)).imp (fun r es q => ⟨_, q.1, q.2, shG_ok a f bg h hH hN hl⟩)
set_option maxRecDepth 100000 in
set_option maxHeartbeats 4000000 in
theorem sg_rl52 (o : Ob) (ho : ObOK o) (g : GS) (b : Nat) (cs : List Int32) (hs : List Hd) (h : TS o true g b cs) (hH : HS g hs) (hN : gF g 7 5 = nI hs.length) (hl : hs.length < 12) (hc : cs.length ≤ b) (v : Int32) (hv : v = pDeed o b) (n0 : Nat) : J mX8_readRuleLine (rm 29 0 0) (RXi (PL o true g hs (pRule o b cs))) n0 52 [some (.ref 7), none, none] [.int v] (Wd g) 0 0 := by
  subst hv
  refine J_istore_n (nx := 53) dX8_readRuleLine_52 rfl rfl (Nat.le_of_ble_eq_true rfl) ?_
  refine J_iload_n (nx := 54) dX8_readRuleLine_53 rfl rfl ?_
  refine J_iconst (nx := 55) (i := -1) (v := -1) (by decide) dX8_readRuleLine_54 rfl ?_
  refine J_icmp_ne (nx := 58) (tgt := 63) dX8_readRuleLine_55 rfl (by decide) (fun c_55 => ?_) (fun c_55 => ?_)
  · have hb : b < oN o := by
      unfold pDeed at c_55
      by_cases w1 : oWrd o b = 9
      · exact ho.wrd w1 (by decide)
      · by_cases w2 : oWrd o b = 10
        · exact ho.wrd w2 (by decide)
        · by_cases w3 : oWrd o b = 11
          · exact ho.wrd w3 (by decide)
          · rw [if_neg w1, if_neg w2, if_neg w3] at c_55; exact absurd rfl c_55
    have n1 := ho.2.1 b hb
    refine J_aload_n (nx := 64) dX8_readRuleLine_63 rfl rfl ?_
    refine Jg_7_0 (nx := 67) dX8_readRuleLine_64 rfl fl_X8_31 ?_
    refine JvV0 (R' := rm (0) 0 0) (nx := 70) dX8_readRuleLine_67 rfl ml_X7_next lk_X8_92 iv_X7_next rfl rfl ⟨(Nat.le_of_ble_eq_true rfl), (Nat.le_of_ble_eq_true rfl)⟩ (Nat.le_of_ble_eq_true rfl) ⟨rfl, rfl⟩ (ct_nextx o ho true g b cs h hb) (fun g_67 p_67 => ?_)
    refine J_aload_n (nx := 71) dX8_readRuleLine_70 rfl rfl ?_
    refine Jg_7_4 (nx := 74) dX8_readRuleLine_71 rfl fl_X8_56 ?_
    rw [p_67.2.siz]
    refine J_istore_n (nx := 75) dX8_readRuleLine_74 rfl rfl (Nat.le_of_ble_eq_true rfl) ?_
    refine J_aload_n (nx := 76) dX8_readRuleLine_75 rfl rfl ?_
    refine J_getsW (nx := 79) (j := 8) dX8_readRuleLine_76 rfl (by decide) gs_X8_166 ?_
    refine JiV1 (R' := rm (1) 0 0) (nx := 82) dX8_readRuleLine_79 rfl ml_X8_takeWord lk_X8_134 iv_X8_takeWord rfl rfl ⟨(Nat.le_of_ble_eq_true rfl), (Nat.le_of_ble_eq_true rfl)⟩ (Nat.le_of_ble_eq_true rfl) ⟨rfl, rfl⟩ (ct_takeWord o ho true g_67 (oNxt o b) cs p_67.2 8 (by decide) (by decide)) (fun x_79 g_79 p_79 => ?_)
    refine J_if_eq (nx := 85) (tgt := 93) dX8_readRuleLine_82 rfl (by decide) (fun c_82 => ?_) (fun c_82 => ?_)
    · refine J_iconst (nx := 94) (i := 0) (v := 0) (by decide) dX8_readRuleLine_93 rfl ?_
      exact Jrz dX8_readRuleLine_94 rfl (by decide) (Nat.zero_le _) (Nat.zero_le _) (by have hw : ¬ oWrd o (oNxt o b) = 8 := (fun hw => by have p2 := p_79.2; rw [if_pos hw] at p2; exact absurd (p2.1.symm.trans c_82) (by decide)); have p2 := p_79.2; rw [if_neg hw] at p2; exact RXi.of (PL.bad (p_67.1.tr p_79.1) ((if_neg c_55).trans (if_neg hw)) p2.2))
    · obtain ⟨u, hu, hU⟩ := p_79.goes c_82
      have k2 : oWrd o (oNxt o b) = 8 ∧ u = (oNxt o (oNxt o b), cs) := by
        by_cases hw : oWrd o (oNxt o b) = 8
        · rw [if_pos hw] at hu; cases hu; exact ⟨hw, rfl⟩
        · rw [if_neg hw] at hu; cases hu
      have hU : TS o true g_79 (oNxt o (oNxt o b)) cs := by rw [k2.2] at hU; exact hU
      have n2 := ho.2.1 _ (ho.wrd k2.1 (by decide))
      refine J_aload_n (nx := 86) dX8_readRuleLine_85 rfl rfl ?_
      refine J_iconst (nx := 87) (i := 0) (v := 0) (by decide) dX8_readRuleLine_86 rfl ?_
      refine JiV1 (R' := rm (28) 0 0) (nx := 90) dX8_readRuleLine_87 rfl ml_X8_readCondition lk_X8_169 iv_X8_readCondition rfl rfl ⟨(Nat.le_of_ble_eq_true rfl), (Nat.le_of_ble_eq_true rfl)⟩ (Nat.le_of_ble_eq_true rfl) ⟨rfl, rfl⟩ (ct_cond o ho true g_79 (oNxt o (oNxt o b)) cs hU (by omega)) (fun x_87 g_87 p_87 => ?_)
      refine J_if_ne (nx := 93) (tgt := 95) dX8_readRuleLine_90 rfl (by decide) (fun c_90 => ?_) (fun c_90 => ?_)
      · obtain ⟨q, hq, hT⟩ := p_87.goes c_90
        have hf := (p_67.1.tr p_79.1).tr p_87.1
        refine J_aload_n (nx := 96) dX8_readRuleLine_95 rfl rfl ?_
        refine J_iload_n (nx := 97) dX8_readRuleLine_96 rfl rfl ?_
        refine J_iconst (nx := 98) (i := -1) (v := -1) (by decide) dX8_readRuleLine_97 rfl ?_
        refine J_iload_n (nx := 99) dX8_readRuleLine_98 rfl rfl ?_
        refine JvV3 (R' := rm (1) 0 0) (nx := 102) dX8_readRuleLine_99 rfl ml_X8_setHead lk_X8_172 iv_X8_setHead rfl rfl ⟨(Nat.le_of_ble_eq_true rfl), (Nat.le_of_ble_eq_true rfl)⟩ (Nat.le_of_ble_eq_true rfl) ⟨rfl, rfl⟩ (ct_setHeadx o ho true g_87 q.1 q.2 hs hT (hH.fr (hf.2.1 18 rfl)) ((hf.1 7 5 rfl).trans hN) hl (pDeed o b) (-1) cs.length) (fun g_99 p_99 => ?_)
        refine J_iconst (nx := 103) (i := 1) (v := 1) (by decide) dX8_readRuleLine_102 rfl ?_
        exact Jrz dX8_readRuleLine_103 rfl (by decide) (Nat.zero_le _) (Nat.zero_le _) (RXi.of ⟨(fr_CL hf).tr p_99.1, by rw [show pRule o b cs = .inr (q.1, (pDeed o b, -1, cs.length, q.2.length), q.2) from ((if_neg c_55).trans ((if_pos k2.1).trans (by rw [hq])))]; exact ⟨rfl, p_99.2⟩⟩)
      · refine J_iconst (nx := 94) (i := 0) (v := 0) (by decide) dX8_readRuleLine_93 rfl ?_
        exact Jrz dX8_readRuleLine_94 rfl (by decide) (Nat.zero_le _) (Nat.zero_le _) (by obtain ⟨e, he, hf⟩ := p_87.bad c_90; exact RXi.of (PL.bad ((p_67.1.tr p_79.1).tr p_87.1) ((if_neg c_55).trans ((if_pos k2.1).trans (by rw [he]))) hf))
  · refine J_aload_n (nx := 59) dX8_readRuleLine_58 rfl rfl ?_
    refine JcV0 (R' := rm (0) 0 0) (nx := 62) dX8_readRuleLine_59 rfl ml_X8_wrong lk_X8_47 iv_X8_wrong rfl rfl ⟨(Nat.le_of_ble_eq_true rfl), (Nat.le_of_ble_eq_true rfl)⟩ (Nat.le_of_ble_eq_true rfl) ⟨rfl, rfl⟩ (ct_wrong _) ?_
    exact Jrz dX8_readRuleLine_62 rfl (by decide) (Nat.zero_le _) (Nat.zero_le _) (RXi.of (PL.bad (wrG_fr g) (if_pos c_55) h.beg))

set_option maxRecDepth 100000 in
set_option maxHeartbeats 4000000 in
theorem ct_ruleLine (o : Ob) (ho : ObOK o) (g : GS) (b : Nat) (cs : List Int32) (hs : List Hd) (h : TS o true g b cs) (hH : HS g hs) (hN : gF g 7 5 = nI hs.length) (hl : hs.length < 12) (hc : cs.length ≤ b) : Ct mX8_readRuleLine (rm 29 0 0) [.ref 7] (Wd g) (RXi (PL o true g hs (pRule o b cs))) := by
  refine Ct.of (by decide +kernel) (Nat.le_of_ble_eq_true rfl) ?_
  show J _ _ _ _ 0 [some (.ref 7), none, none] [] _ 0 0
  refine J_aload_n (nx := 1) dX8_readRuleLine_0 rfl rfl ?_
  refine Jg_7_0 (nx := 4) dX8_readRuleLine_1 rfl fl_X8_31 ?_
  refine Jg_1_11 (nx := 7) dX8_readRuleLine_4 rfl fl_X8_88 ?_
  rw [h.wrd]
  refine J_getsW (nx := 10) (j := 9) dX8_readRuleLine_7 rfl (by decide) gs_X8_157 ?_
  refine J_acmp_ne (nx := 13) (i := (oWrd o b)) (j := 9) (tgt := 17) dX8_readRuleLine_10 rfl (by decide) (ho.2.2.2.1 _) (by decide) (fun c_10 => ?_) (fun c_10 => ?_)
  · refine J_aload_n (nx := 18) dX8_readRuleLine_17 rfl rfl ?_
    refine Jg_7_0 (nx := 21) dX8_readRuleLine_18 rfl fl_X8_31 ?_
    refine Jg_1_11 (nx := 24) dX8_readRuleLine_21 rfl fl_X8_88 ?_
    rw [h.wrd]
    refine J_getsW (nx := 27) (j := 10) dX8_readRuleLine_24 rfl (by decide) gs_X8_160 ?_
    refine J_acmp_ne (nx := 30) (i := (oWrd o b)) (j := 10) (tgt := 34) dX8_readRuleLine_27 rfl (by decide) (ho.2.2.2.1 _) (by decide) (fun c_27 => ?_) (fun c_27 => ?_)
    · refine J_aload_n (nx := 35) dX8_readRuleLine_34 rfl rfl ?_
      refine Jg_7_0 (nx := 38) dX8_readRuleLine_35 rfl fl_X8_31 ?_
      refine Jg_1_11 (nx := 41) dX8_readRuleLine_38 rfl fl_X8_88 ?_
      rw [h.wrd]
      refine J_getsW (nx := 44) (j := 11) dX8_readRuleLine_41 rfl (by decide) gs_X8_163 ?_
      refine J_acmp_ne (nx := 47) (i := (oWrd o b)) (j := 11) (tgt := 51) dX8_readRuleLine_44 rfl (by decide) (ho.2.2.2.1 _) (by decide) (fun c_44 => ?_) (fun c_44 => ?_)
      · refine J_iconst (nx := 52) (i := -1) (v := -1) (by decide) dX8_readRuleLine_51 rfl ?_
        exact sg_rl52 o ho g b cs hs h hH hN hl hc (-1) ((if_neg c_10).trans ((if_neg c_27).trans (if_neg c_44))).symm _
      · refine J_iconst (nx := 48) (i := 2) (v := 2) (by decide) dX8_readRuleLine_47 rfl ?_
        refine J_goto (nx := 52) dX8_readRuleLine_48 (by decide) ?_
        exact sg_rl52 o ho g b cs hs h hH hN hl hc 2 ((if_neg c_10).trans ((if_neg c_27).trans (if_pos c_44))).symm _
    · refine J_iconst (nx := 31) (i := 1) (v := 1) (by decide) dX8_readRuleLine_30 rfl ?_
      refine J_goto (nx := 52) dX8_readRuleLine_31 (by decide) ?_
      exact sg_rl52 o ho g b cs hs h hH hN hl hc 1 ((if_neg c_10).trans (if_pos c_27)).symm _
  · refine J_iconst (nx := 14) (i := 0) (v := 0) (by decide) dX8_readRuleLine_13 rfl ?_
    refine J_goto (nx := 52) dX8_readRuleLine_14 (by decide) ?_
    exact sg_rl52 o ho g b cs hs h hH hN hl hc 0 (if_pos c_10).symm _

set_option maxRecDepth 100000 in
set_option maxHeartbeats 4000000 in
theorem sg_go142 (o : Ob) (ho : ObOK o) (g : GS) (b : Nat) (cs : List Int32) (hs : List Hd) (h : TS o false g b cs) (hH : HS g hs) (hN : gF g 7 5 = nI hs.length) (hl : hs.length < 12) (hc : cs.length ≤ b) (g1 : GS) (b1 : Nat) (cs1 : List Int32) (hT : TS o false g1 b1 cs1) (hf : Fr fC aC g g1) (ad : Bool) (x f : Int32) (r : LR) (hr : r = .inr (b1, (if bI ad = 0 then -x else x, f, cs.length, cs1.length), cs1)) (n0 : Nat) : J mX8_readGoalLine (rm 29 0 0) (RXi (PL o false g hs r)) n0 142 [some (.ref 7), some (.int (bI ad)), some (.int x), some (.int f), some (.int (nI cs.length))] [] (Wd g1) 0 0 := by
  skip
  refine J_aload_n (nx := 143) dX8_readGoalLine_142 rfl rfl ?_
  refine J_iload_n (nx := 144) dX8_readGoalLine_143 rfl rfl ?_
  refine J_if_eq (nx := 147) (tgt := 151) dX8_readGoalLine_144 rfl (by decide) (fun c_144 => ?_) (fun c_144 => ?_)
  · refine J_iload_n (nx := 152) dX8_readGoalLine_151 rfl rfl ?_
    refine J_ineg (nx := 153) dX8_readGoalLine_152 rfl ?_
    refine J_iload_n (nx := 154) dX8_readGoalLine_153 rfl rfl ?_
    refine J_iload (nx := 156) dX8_readGoalLine_154 rfl rfl ?_
    refine JvV3 (R' := rm (1) 0 0) (nx := 159) dX8_readGoalLine_156 rfl ml_X8_setHead lk_X8_172 iv_X8_setHead rfl rfl ⟨(Nat.le_of_ble_eq_true rfl), (Nat.le_of_ble_eq_true rfl)⟩ (Nat.le_of_ble_eq_true rfl) ⟨rfl, rfl⟩ (ct_setHeadx o ho false g1 b1 cs1 hs hT (hH.fr (hf.2.1 18 rfl)) ((hf.1 7 5 rfl).trans hN) hl (-x) f cs.length) (fun g_156 p_156 => ?_)
    refine J_iconst (nx := 160) (i := 1) (v := 1) (by decide) dX8_readGoalLine_159 rfl ?_
    exact Jrz dX8_readGoalLine_160 rfl (by decide) (Nat.zero_le _) (Nat.zero_le _) (RXi.of ⟨(fr_CL hf).tr p_156.1, by rw [hr]; first | (rw [if_neg c_144] at *; exact ⟨rfl, p_156.2⟩) | (rw [if_pos c_144] at *; exact ⟨rfl, p_156.2⟩)⟩)
  · refine J_iload_n (nx := 148) dX8_readGoalLine_147 rfl rfl ?_
    refine J_goto (nx := 153) dX8_readGoalLine_148 (by decide) ?_
    refine J_iload_n (nx := 154) dX8_readGoalLine_153 rfl rfl ?_
    refine J_iload (nx := 156) dX8_readGoalLine_154 rfl rfl ?_
    refine JvV3 (R' := rm (1) 0 0) (nx := 159) dX8_readGoalLine_156 rfl ml_X8_setHead lk_X8_172 iv_X8_setHead rfl rfl ⟨(Nat.le_of_ble_eq_true rfl), (Nat.le_of_ble_eq_true rfl)⟩ (Nat.le_of_ble_eq_true rfl) ⟨rfl, rfl⟩ (ct_setHeadx o ho false g1 b1 cs1 hs hT (hH.fr (hf.2.1 18 rfl)) ((hf.1 7 5 rfl).trans hN) hl x f cs.length) (fun g_156 p_156 => ?_)
    refine J_iconst (nx := 160) (i := 1) (v := 1) (by decide) dX8_readGoalLine_159 rfl ?_
    exact Jrz dX8_readGoalLine_160 rfl (by decide) (Nat.zero_le _) (Nat.zero_le _) (RXi.of ⟨(fr_CL hf).tr p_156.1, by rw [hr]; first | (rw [if_neg c_144] at *; exact ⟨rfl, p_156.2⟩) | (rw [if_pos c_144] at *; exact ⟨rfl, p_156.2⟩)⟩)

def goT (o : Ob) (ad : Bool) (x : Int32) (u : Nat × Int32) (cs : List Int32) : LR := match pIf o u.1 cs with
  | .inl e => .inl e
  | .inr v => .inr (v.1, (if bI ad = 0 then -x else x, u.2, cs.length, v.2.length), v.2)
set_option maxRecDepth 100000 in
set_option maxHeartbeats 4000000 in
theorem sg_go106 (o : Ob) (ho : ObOK o) (g : GS) (b : Nat) (cs : List Int32) (hs : List Hd) (h : TS o false g b cs) (hH : HS g hs) (hN : gF g 7 5 = nI hs.length) (hl : hs.length < 12) (hc : cs.length ≤ b) (g1 : GS) (b1 : Nat) (hT : TS o false g1 b1 cs) (hc1 : cs.length ≤ b1) (hf : Fr fC aC g g1) (ad : Bool) (x f : Int32) (r : LR) (hr : r = goT o ad x (b1, f) cs) (n0 : Nat) : J mX8_readGoalLine (rm 29 0 0) (RXi (PL o false g hs r)) n0 106 [some (.ref 7), some (.int (bI ad)), some (.int x), some (.int f), none] [] (Wd g1) 0 0 := by
  refine J_aload_n (nx := 107) dX8_readGoalLine_106 rfl rfl ?_
  refine Jg_7_4 (nx := 110) dX8_readGoalLine_107 rfl fl_X8_56 ?_
  rw [hT.siz]
  refine J_istore (nx := 112) dX8_readGoalLine_110 rfl rfl (Nat.le_of_ble_eq_true rfl) ?_
  refine J_aload_n (nx := 113) dX8_readGoalLine_112 rfl rfl ?_
  refine Jg_7_0 (nx := 116) dX8_readGoalLine_113 rfl fl_X8_31 ?_
  refine Jg_1_11 (nx := 119) dX8_readGoalLine_116 rfl fl_X8_88 ?_
  rw [hT.wrd]
  refine J_getsW (nx := 122) (j := 8) dX8_readGoalLine_119 rfl (by decide) gs_X8_166 ?_
  refine J_acmp_ne (nx := 125) (i := (oWrd o b1)) (j := 8) (tgt := 142) dX8_readGoalLine_122 rfl (by decide) (ho.2.2.2.1 _) (by decide) (fun c_122 => ?_) (fun c_122 => ?_)
  · exact sg_go142 o ho g b cs hs h hH hN hl hc g1 b1 cs hT hf ad x f r (by rw [hr]; unfold goT; rw [show pIf o b1 cs = .inr (b1, cs) from if_neg c_122]) _
  · refine J_aload_n (nx := 126) dX8_readGoalLine_125 rfl rfl ?_
    refine Jg_7_0 (nx := 129) dX8_readGoalLine_126 rfl fl_X8_31 ?_
    refine JvV0 (R' := rm (0) 0 0) (nx := 132) dX8_readGoalLine_129 rfl ml_X7_next lk_X8_92 iv_X7_next rfl rfl ⟨(Nat.le_of_ble_eq_true rfl), (Nat.le_of_ble_eq_true rfl)⟩ (Nat.le_of_ble_eq_true rfl) ⟨rfl, rfl⟩ (ct_nextx o ho false g1 b1 cs hT (ho.wrd c_122 (by decide))) (fun g_129 p_129 => ?_)
    have n2 := ho.2.1 _ (ho.wrd c_122 (by decide))
    refine J_aload_n (nx := 133) dX8_readGoalLine_132 rfl rfl ?_
    refine J_iconst (nx := 134) (i := 0) (v := 0) (by decide) dX8_readGoalLine_133 rfl ?_
    refine JiV1 (R' := rm (28) 0 0) (nx := 137) dX8_readGoalLine_134 rfl ml_X8_readCondition lk_X8_169 iv_X8_readCondition rfl rfl ⟨(Nat.le_of_ble_eq_true rfl), (Nat.le_of_ble_eq_true rfl)⟩ (Nat.le_of_ble_eq_true rfl) ⟨rfl, rfl⟩ (ct_cond o ho false g_129 (oNxt o b1) cs p_129.2 (by omega)) (fun x_134 g_134 p_134 => ?_)
    refine J_if_ne (nx := 140) (tgt := 142) dX8_readGoalLine_137 rfl (by decide) (fun c_137 => ?_) (fun c_137 => ?_)
    · obtain ⟨q, hq, hU⟩ := p_134.goes c_137
      exact sg_go142 o ho g b cs hs h hH hN hl hc g_134 q.1 q.2 hU (hf.tr (p_129.1.tr p_134.1)) ad x f r (by rw [hr]; unfold goT; rw [show pIf o b1 cs = .inr q from (if_pos c_122).trans hq]) _
    · refine J_iconst (nx := 141) (i := 0) (v := 0) (by decide) dX8_readGoalLine_140 rfl ?_
      exact Jrz dX8_readGoalLine_141 rfl (by decide) (Nat.zero_le _) (Nat.zero_le _) (by obtain ⟨e, he, hff⟩ := p_134.bad c_137; exact RXi.of (PL.bad (hf.tr (p_129.1.tr p_134.1)) (by rw [hr]; unfold goT; rw [show pIf o b1 cs = .inl e from (if_pos c_122).trans he]) hff))


theorem wFact_n : ∀ j, j < 23 → ¬ (10000 : Int32) + wFact.getD j 0 = -1 := by decide +kernel
theorem pCell_n {o : Ob} (ho : ObOK o) {rl : Bool} {b : Nat} : ¬ (10000 : Int32) + pFact o rl b = -1 := by
  unfold pFact
  split
  · split
    · decide
    · exact wFact_n _ (ho.2.2.2.1 _)
  · exact wFact_n _ (ho.2.2.2.1 _)

set_option maxRecDepth 100000 in
set_option maxHeartbeats 4000000 in
theorem sg_go41 (o : Ob) (ho : ObOK o) (g : GS) (b : Nat) (cs : List Int32) (hs : List Hd) (h : TS o false g b cs) (hH : HS g hs) (hN : gF g 7 5 = nI hs.length) (hl : hs.length < 12) (hc : cs.length ≤ b) (hw : oWrd o b = 6 ∨ oWrd o b = 7) (ad : Bool) (had : ad = true ↔ oWrd o b = 6) (hb : b < oN o) (n0 : Nat) : J mX8_readGoalLine (rm 29 0 0) (RXi (PL o false g hs (pGoal o b cs))) n0 41 [some (.ref 7), some (.int (bI ad)), none, none, none] [] (Wd g) 0 0 := by
  refine J_aload_n (nx := 42) dX8_readGoalLine_41 rfl rfl ?_
  refine Jg_7_0 (nx := 45) dX8_readGoalLine_42 rfl fl_X8_31 ?_
  refine JvV0 (R' := rm (0) 0 0) (nx := 48) dX8_readGoalLine_45 rfl ml_X7_next lk_X8_92 iv_X7_next rfl rfl ⟨(Nat.le_of_ble_eq_true rfl), (Nat.le_of_ble_eq_true rfl)⟩ (Nat.le_of_ble_eq_true rfl) ⟨rfl, rfl⟩ (ct_nextx o ho false g b cs h hb) (fun g_45 p_45 => ?_)
  refine J_aload_n (nx := 49) dX8_readGoalLine_48 rfl rfl ?_
  refine J_sipush (nx := 52) (i := 9999) (v := 9999) (by decide) dX8_readGoalLine_49 rfl ?_
  refine JiV1 (R' := rm (1) 0 0) (nx := 55) dX8_readGoalLine_52 rfl ml_X8_takeNumber lk_X8_138 iv_X8_takeNumber rfl rfl ⟨(Nat.le_of_ble_eq_true rfl), (Nat.le_of_ble_eq_true rfl)⟩ (Nat.le_of_ble_eq_true rfl) ⟨rfl, rfl⟩ (ct_takeNum o ho false g_45 (oNxt o b) cs p_45.2 9999 (by decide)) (fun x_52 g_52 p_52 => ?_)
  refine J_istore_n (nx := 56) dX8_readGoalLine_55 rfl rfl (Nat.le_of_ble_eq_true rfl) ?_
  refine J_iload_n (nx := 57) dX8_readGoalLine_56 rfl rfl ?_
  refine J_iconst (nx := 58) (i := -1) (v := -1) (by decide) dX8_readGoalLine_57 rfl ?_
  refine J_icmp_ne (nx := 61) (tgt := 63) dX8_readGoalLine_58 rfl (by decide) (fun c_58 => ?_) (fun c_58 => ?_)
  · obtain ⟨q, hq, hx, hq2, hT⟩ := p_52.goes c_58
    have n1 := ho.2.1 b hb
    have k1 := pNum_ok ho (by decide) hq
    have n2 := ho.2.1 _ k1.1
    have k11 := k1.2.1
    have hf := p_45.1.tr p_52.1
    have eG : pGoal o b cs = (match pFac o q.1 with | .inl e => .inl e | .inr u => goT o ad (nI q.2) u cs) := by
      refine (if_pos hw).trans ?_
      rw [hq]
      dsimp only
      cases hF : pFac o q.1 with
      | inl e => rfl
      | inr u =>
        dsimp only
        unfold goT
        have hI : (if oWrd o b = 6 then nI q.2 else -(nI q.2)) = (if bI ad = 0 then -(nI q.2) else nI q.2) := by
          cases ad with
          | true => rw [if_pos (had.mp rfl), if_neg (by decide)]
          | false => rw [if_neg (fun z => by cases had.mpr z), if_pos (by decide)]
        rw [hI]
        rfl
    rw [hx]
    refine J_iconst (nx := 64) (i := -1) (v := -1) (by decide) dX8_readGoalLine_63 rfl ?_
    refine J_istore_n (nx := 65) dX8_readGoalLine_64 rfl rfl (Nat.le_of_ble_eq_true rfl) ?_
    refine J_aload_n (nx := 66) dX8_readGoalLine_65 rfl rfl ?_
    refine Jg_7_0 (nx := 69) dX8_readGoalLine_66 rfl fl_X8_31 ?_
    refine Jg_1_10 (nx := 72) dX8_readGoalLine_69 rfl fl_X8_95 ?_
    refine J_bipush (nx := 74) (i := 42) (v := 42) (by decide) dX8_readGoalLine_72 rfl ?_
    refine J_icmp_ne (nx := 77) (tgt := 106) dX8_readGoalLine_74 rfl (by decide) (fun c_74 => ?_) (fun c_74 => ?_)
    · exact sg_go106 o ho g b cs hs h hH hN hl hc g_52 q.1 hT (by omega) hf ad (nI q.2) (-1) _ (eG.trans (by rw [show pFac o q.1 = .inr (q.1, -1) from if_neg (fun z => c_74 (hT.sgn.trans z))])) _
    · refine J_aload_n (nx := 78) dX8_readGoalLine_77 rfl rfl ?_
      refine Jg_7_0 (nx := 81) dX8_readGoalLine_78 rfl fl_X8_31 ?_
      refine JvV0 (R' := rm (0) 0 0) (nx := 84) dX8_readGoalLine_81 rfl ml_X7_next lk_X8_92 iv_X7_next rfl rfl ⟨(Nat.le_of_ble_eq_true rfl), (Nat.le_of_ble_eq_true rfl)⟩ (Nat.le_of_ble_eq_true rfl) ⟨rfl, rfl⟩ (ct_nextx o ho false g_52 q.1 cs hT (ho.sgn (hT.sgn.symm.trans c_74) (by decide))) (fun g_81 p_81 => ?_)
      refine J_aload_n (nx := 85) dX8_readGoalLine_84 rfl rfl ?_
      refine JcV0 (R' := rm (0) 0 0) (nx := 88) dX8_readGoalLine_85 rfl ml_X8_factHere lk_X8_181 iv_X8_factHere rfl rfl ⟨(Nat.le_of_ble_eq_true rfl), (Nat.le_of_ble_eq_true rfl)⟩ (Nat.le_of_ble_eq_true rfl) ⟨rfl, rfl⟩ (ct_factHere o ho false g_81 (oNxt o q.1) cs p_81.2) ?_
      refine J_istore_n (nx := 89) dX8_readGoalLine_88 rfl rfl (Nat.le_of_ble_eq_true rfl) ?_
      refine J_iload_n (nx := 90) dX8_readGoalLine_89 rfl rfl ?_
      refine J_iconst (nx := 91) (i := -1) (v := -1) (by decide) dX8_readGoalLine_90 rfl ?_
      refine J_icmp_ne (nx := 94) (tgt := 99) dX8_readGoalLine_91 rfl (by decide) (fun c_91 => ?_) (fun c_91 => ?_)
      · have hbF : oNxt o q.1 < oN o := by
          refine ho.cell (rl := false) ?_
          unfold pCell
          rw [if_neg c_91]
          exact pCell_n ho (rl := false)
        refine J_aload_n (nx := 100) dX8_readGoalLine_99 rfl rfl ?_
        refine Jg_7_0 (nx := 103) dX8_readGoalLine_100 rfl fl_X8_31 ?_
        refine JvV0 (R' := rm (0) 0 0) (nx := 106) dX8_readGoalLine_103 rfl ml_X7_next lk_X8_92 iv_X7_next rfl rfl ⟨(Nat.le_of_ble_eq_true rfl), (Nat.le_of_ble_eq_true rfl)⟩ (Nat.le_of_ble_eq_true rfl) ⟨rfl, rfl⟩ (ct_nextx o ho false g_81 (oNxt o q.1) cs p_81.2 hbF) (fun g_103 p_103 => ?_)
        exact sg_go106 o ho g b cs hs h hH hN hl hc g_103 (oNxt o (oNxt o q.1)) p_103.2 (by have := ho.2.1 _ (ho.sgn (hT.sgn.symm.trans c_74) (by decide)); have := ho.2.1 _ hbF; omega) (hf.tr (p_81.1.tr p_103.1)) ad (nI q.2) (pFact o false (oNxt o q.1)) _ (eG.trans (by rw [show pFac o q.1 = .inr (oNxt o (oNxt o q.1), pFact o false (oNxt o q.1)) from (if_pos (hT.sgn.symm.trans c_74)).trans (if_neg c_91)])) _
      · refine J_aload_n (nx := 95) dX8_readGoalLine_94 rfl rfl ?_
        refine JcV0 (R' := rm (0) 0 0) (nx := 98) dX8_readGoalLine_95 rfl ml_X8_wrong lk_X8_47 iv_X8_wrong rfl rfl ⟨(Nat.le_of_ble_eq_true rfl), (Nat.le_of_ble_eq_true rfl)⟩ (Nat.le_of_ble_eq_true rfl) ⟨rfl, rfl⟩ (ct_wrong _) ?_
        exact Jrz dX8_readGoalLine_98 rfl (by decide) (Nat.zero_le _) (Nat.zero_le _) (RXi.of (PL.bad (hf.tr (p_81.1.tr (wrG_fr g_81))) (eG.trans (by rw [show pFac o q.1 = .inl (oNxt o q.1) from (if_pos (hT.sgn.symm.trans c_74)).trans (if_pos c_91)])) p_81.2.beg))
  · refine J_iconst (nx := 62) (i := 0) (v := 0) (by decide) dX8_readGoalLine_61 rfl ?_
    exact Jrz dX8_readGoalLine_62 rfl (by decide) (Nat.zero_le _) (Nat.zero_le _) (by obtain ⟨e, he, hf⟩ := p_52.no c_58; exact RXi.of (PL.bad (p_45.1.tr p_52.1) ((if_pos hw).trans (by rw [he])) hf))

set_option maxRecDepth 100000 in
set_option maxHeartbeats 4000000 in
theorem ct_goalLine (o : Ob) (ho : ObOK o) (g : GS) (b : Nat) (cs : List Int32) (hs : List Hd) (h : TS o false g b cs) (hH : HS g hs) (hN : gF g 7 5 = nI hs.length) (hl : hs.length < 12) (hc : cs.length ≤ b) : Ct mX8_readGoalLine (rm 29 0 0) [.ref 7] (Wd g) (RXi (PL o false g hs (pGoal o b cs))) := by
  refine Ct.of (by decide +kernel) (Nat.le_of_ble_eq_true rfl) ?_
  show J _ _ _ _ 0 [some (.ref 7), none, none, none, none] [] _ 0 0
  refine J_aload_n (nx := 1) dX8_readGoalLine_0 rfl rfl ?_
  refine Jg_7_0 (nx := 4) dX8_readGoalLine_1 rfl fl_X8_31 ?_
  refine Jg_1_11 (nx := 7) dX8_readGoalLine_4 rfl fl_X8_88 ?_
  rw [h.wrd]
  refine J_getsW (nx := 10) (j := 6) dX8_readGoalLine_7 rfl (by decide) gs_X8_175 ?_
  refine J_acmp_ne (nx := 13) (i := (oWrd o b)) (j := 6) (tgt := 17) dX8_readGoalLine_10 rfl (by decide) (ho.2.2.2.1 _) (by decide) (fun c_10 => ?_) (fun c_10 => ?_)
  · refine J_iconst (nx := 18) (i := 0) (v := 0) (by decide) dX8_readGoalLine_17 rfl ?_
    refine J_istore_n (nx := 19) dX8_readGoalLine_18 rfl rfl (Nat.le_of_ble_eq_true rfl) ?_
    refine J_iload_n (nx := 20) dX8_readGoalLine_19 rfl rfl ?_
    refine J_if_ne (nx := 23) (tgt := 41) dX8_readGoalLine_20 rfl (by decide) (fun c_20 => ?_) (fun c_20 => ?_)
    · exact absurd rfl c_20
    · refine J_aload_n (nx := 24) dX8_readGoalLine_23 rfl rfl ?_
      refine Jg_7_0 (nx := 27) dX8_readGoalLine_24 rfl fl_X8_31 ?_
      refine Jg_1_11 (nx := 30) dX8_readGoalLine_27 rfl fl_X8_88 ?_
      rw [h.wrd]
      refine J_getsW (nx := 33) (j := 7) dX8_readGoalLine_30 rfl (by decide) gs_X8_178 ?_
      refine J_acmp_eq (nx := 36) (i := (oWrd o b)) (j := 7) (tgt := 41) dX8_readGoalLine_33 rfl (by decide) (ho.2.2.2.1 _) (by decide) (fun c_33 => ?_) (fun c_33 => ?_)
      · exact sg_go41 o ho g b cs hs h hH hN hl hc (Or.inr c_33) false ⟨fun z => by (cases z), fun z => absurd z c_10⟩ (ho.wrd c_33 (by decide)) _
      · refine J_aload_n (nx := 37) dX8_readGoalLine_36 rfl rfl ?_
        refine JcV0 (R' := rm (0) 0 0) (nx := 40) dX8_readGoalLine_37 rfl ml_X8_wrong lk_X8_47 iv_X8_wrong rfl rfl ⟨(Nat.le_of_ble_eq_true rfl), (Nat.le_of_ble_eq_true rfl)⟩ (Nat.le_of_ble_eq_true rfl) ⟨rfl, rfl⟩ (ct_wrong _) ?_
        exact Jrz dX8_readGoalLine_40 rfl (by decide) (Nat.zero_le _) (Nat.zero_le _) (RXi.of (PL.bad (wrG_fr g) (if_neg (fun z => z.elim c_10 c_33)) h.beg))
  · refine J_iconst (nx := 14) (i := 1) (v := 1) (by decide) dX8_readGoalLine_13 rfl ?_
    refine J_goto (nx := 18) dX8_readGoalLine_14 (by decide) ?_
    refine J_istore_n (nx := 19) dX8_readGoalLine_18 rfl rfl (Nat.le_of_ble_eq_true rfl) ?_
    refine J_iload_n (nx := 20) dX8_readGoalLine_19 rfl rfl ?_
    refine J_if_ne (nx := 23) (tgt := 41) dX8_readGoalLine_20 rfl (by decide) (fun c_20 => ?_) (fun c_20 => ?_)
    · exact sg_go41 o ho g b cs hs h hH hN hl hc (Or.inl c_10) true ⟨fun _ => c_10, fun _ => rfl⟩ (ho.wrd c_10 (by decide)) _
    · exact absurd c_20 (by decide)

