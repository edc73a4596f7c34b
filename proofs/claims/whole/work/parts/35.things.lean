
/-! Tape: the things -/
theorem J_aastT {M : MI} {R : Room} {Q : Res → List ME → Prop} {n0 pc nx : Nat} {L : List (Option Value)} {rest : List Value} {g : GS} {j : Nat} {i : Int32} (d : decode M.2.1 pc = .ok (.aastore, 1)) (hn : pc + 1 = nx) (hj : j < 23) (he : (Wd g)[6]? = some (.inl (4, 401, .inr (.inr (.inr (.inr (gP g 6))))))) (h2 : ∀ f', (Wd g).set 6 (.inl (4, 401, .inr (.inr (.inr (.inr f'))))) = Wd (sP g 6 f')) (hin : vp_in i 401)
    (h : J M R Q n0 nx L rest (Wd (sP g 6 (va_up (gP g 6) i.toNatClampNeg (some (CST + j))))) 0 0) : J M R Q n0 pc L (.ref (CST + j) :: .int i :: .ref 6 :: rest) (Wd g) 0 0 := by
  refine J_aastW (nx := nx) d hn hj he hin ?_
  rw [h2]
  exact h
def atF (g : GS) (a b : Nat) : Int32 := if nI b ≤ nI a then 0 else bt g (nI a)
def at1 (g : GS) (a : Nat) : GS := sA g 3 (rPut 401 (gA g 3) (gF g 1 6) (nI a))
def atV (g : GS) (f : Int32) (a b : Nat) : Int32 := if bI (isD f) = 0 then -1 else if 4 < nI b - nI a then -1 else noR g (b - a) a 0
def at2 (g : GS) (v : Int32) : GS := sA g 4 (rPut 401 (gA g 4) (gF g 1 6) v)
def atS (f : Int32) : Int32 := if ¬ bI (isD f) = 0 then 0 else if bI (isL f) = 0 then f else 0
def at3 (g : GS) (v : Int32) : GS := sA g 5 (rPut 401 (gA g 5) (gF g 1 6) v)
def atW (g : GS) (f : Int32) (a b : Nat) : Nat := if bI (isL f) = 0 then 0 else ofW g (nI a) (nI b)
def at4 (g : GS) (w : Nat) : GS := sP g 6 (va_up (gP g 6) (gF g 1 6).toNatClampNeg (some (CST + w)))
def at5 (g : GS) : GS := sF g 1 6 (gF g 1 6 + 1)
def at45 (g : GS) (f : Int32) (a b : Nat) : GS := at5 (at4 g (atW g f a b))
def at345 (g : GS) (f : Int32) (a b : Nat) : GS := at45 (at3 g (atS f)) f a b
def at2345 (g : GS) (f : Int32) (a b : Nat) : GS := at345 (at2 g (atV g f a b)) f a b
def atG (g : GS) (a b : Nat) : GS := at2345 (at1 g a) (atF g a b) a b
theorem atW_lt (g : GS) (f : Int32) (a b : Nat) : atW g f a b < 23 := by
  unfold atW
  split
  · decide
  · exact ofW_lt _ _ _
def nxA (g : GS) : GS := if gF g 1 6 ≤ gF g 1 7 + 1 then g else sF g 1 7 (gF g 1 7 + 1)
def nxB (g : GS) (k : Nat) : GS := sV (sF (sF (sF g 1 8 (gA g 3 k)) 1 9 (gA g 4 k)) 1 10 (gA g 5 k)) 1 11 (va_rf (gP g 6 k))
def nxG (g : GS) : GS := nxB (nxA g) (gF (nxA g) 1 7).toNatClampNeg
def NXOK (g : GS) : Prop := ∃ k j, gF (nxA g) 1 7 = nI k ∧ k ≤ 400 ∧ j < 23 ∧ gP g 6 k = some (CST + j)
theorem nxA_P (g : GS) : gP (nxA g) = gP g := by unfold nxA; split <;> rfl
theorem nxA_A (g : GS) : gA (nxA g) = gA g := by unfold nxA; split <;> rfl

set_option maxRecDepth 100000 in
set_option maxHeartbeats 4000000 in
theorem sg_at98 (g : GS) (a b t : Nat) (f v : Int32) (hT : gF g 1 6 = nI t) (ht : t ≤ 400) (n0 : Nat) : J mX7_addThing (rm 6 0 0) (RR (.inl none) (at45 (at3 g v) f a b)) n0 98 [some (.ref 1), some (.int (nI a)), some (.int (nI b)), some (.int f), some (.int (bI (isD f))), some (.int (bI (isL f)))] [.int v, .int (gF g 1 6), .ref 5] (Wd g) 0 0 := by
  show J _ _ _ _ 98 _ [.int v, .int (gF g 1 6), .ref 5] (Wd g) 0 0
  refine JcS3 (R' := rm (0) 0 0) (nx := 101) dX7_addThing_98 rfl ml_X6_put lk_X7_41 st_X6_put ⟨(Nat.le_of_ble_eq_true rfl), (Nat.le_of_ble_eq_true rfl)⟩ (Nat.le_of_ble_eq_true rfl) ⟨rfl, rfl⟩ (ct_put _ 5 401 _ _ rfl (fun _ => rfl) (by decide)) ?_
  refine J.gen (fun g_98 hg_98 => ?_)
  refine J_aload_n (nx := 102) dX7_addThing_101 rfl rfl ?_
  refine Jg_1_6 (nx := 105) dX7_addThing_102 rfl fl_X7_47 ?_
  refine J_if_lt (nx := 108) (tgt := 149) dX7_addThing_105 rfl (by decide) (fun c_105 => ?_) (fun c_105 => ?_)
  · exact absurd (show nI t < 0 from by rw [hg_98] at c_105; exact hT ▸ c_105) (nI_pos (by omega))
  · refine J_aload_n (nx := 109) dX7_addThing_108 rfl rfl ?_
    refine Jg_1_6 (nx := 112) dX7_addThing_109 rfl fl_X7_47 ?_
    refine J_aload_n (nx := 113) dX7_addThing_112 rfl rfl ?_
    refine Jg_1_5 (nx := 116) dX7_addThing_113 rfl fl_X7_26 ?_
    refine Jn_6 (nx := 117) dX7_addThing_116 rfl ?_
    refine J_icmp_ge (nx := 120) (tgt := 149) dX7_addThing_117 rfl (by decide) (fun c_117 => ?_) (fun c_117 => ?_)
    · exact absurd (show nI 401 ≤ nI t from by rw [hg_98] at c_117; exact hT ▸ c_117) (nlt_nI (by omega) (by omega))
    · refine J_aload_n (nx := 121) dX7_addThing_120 rfl rfl ?_
      refine Jg_1_5 (nx := 124) dX7_addThing_121 rfl fl_X7_26 ?_
      refine J_aload_n (nx := 125) dX7_addThing_124 rfl rfl ?_
      refine Jg_1_6 (nx := 128) dX7_addThing_125 rfl fl_X7_47 ?_
      refine J_iload (nx := 130) dX7_addThing_128 rfl rfl ?_
      refine J_if_eq (nx := 133) (tgt := 145) dX7_addThing_130 rfl (by decide) (fun c_130 => ?_) (fun c_130 => ?_)
      · refine J_getsW (nx := 148) (j := 0) dX7_addThing_145 rfl (by decide) gs_X7_30 ?_
        refine J_aastT (nx := 149) (j := 0) dX7_addThing_148 rfl (by decide) rfl (fun _ => rfl) (by rw [hg_98]; show vp_in (gF g 1 6) 401; rw [hT]; exact vp_in_nI (by omega) (by decide)) ?_
        skip
        refine J.gen (fun g_148 hg_148 => ?_)
        refine J_aload_n (nx := 150) dX7_addThing_149 rfl rfl ?_
        refine J_dup (nx := 151) rfl dX7_addThing_150 rfl ?_
        refine Jg_1_6 (nx := 154) dX7_addThing_151 rfl fl_X7_47 ?_
        refine J_iconst (nx := 155) (i := 1) (v := 1) (by decide) dX7_addThing_154 rfl ?_
        refine J_iadd (nx := 156) dX7_addThing_155 rfl ?_
        refine Jp_1_6 (nx := 159) dX7_addThing_156 rfl fl_X7_47 ?_
        refine J.gen (fun g_156 hg_156 => ?_)
        have e4 : at4 g_98 (atW g_98 f a b) = g_148 := by unfold at4 atW; first | rw [if_pos c_130, hg_148] | rw [if_neg c_130, hg_148]
        exact Jrv dX7_addThing_159 rfl (Nat.zero_le _) (Nat.zero_le _) ⟨rfl, by unfold at45; rw [show at3 g v = g_98 from hg_98.symm, e4, hg_156]; rfl⟩
      · refine J_aload_n (nx := 134) dX7_addThing_133 rfl rfl ?_
        refine Jg_1_0 (nx := 137) dX7_addThing_134 rfl fl_X7_9 ?_
        refine J_iload_n (nx := 138) dX7_addThing_137 rfl rfl ?_
        refine J_iload_n (nx := 139) dX7_addThing_138 rfl rfl ?_
        refine JcS3 (R' := rm (5) 0 0) (nx := 142) dX7_addThing_139 rfl ml_X10_of lk_X7_78 st_X10_of ⟨(Nat.le_of_ble_eq_true rfl), (Nat.le_of_ble_eq_true rfl)⟩ (Nat.le_of_ble_eq_true rfl) ⟨rfl, rfl⟩ (ct_of _ _ _) ?_
        refine J_goto (nx := 148) dX7_addThing_142 (by decide) ?_
        refine J_aastT (nx := 149) (j := (ofW g_98 (nI a) (nI b))) dX7_addThing_148 rfl (ofW_lt _ _ _) rfl (fun _ => rfl) (by rw [hg_98]; show vp_in (gF g 1 6) 401; rw [hT]; exact vp_in_nI (by omega) (by decide)) ?_
        skip
        refine J.gen (fun g_148 hg_148 => ?_)
        refine J_aload_n (nx := 150) dX7_addThing_149 rfl rfl ?_
        refine J_dup (nx := 151) rfl dX7_addThing_150 rfl ?_
        refine Jg_1_6 (nx := 154) dX7_addThing_151 rfl fl_X7_47 ?_
        refine J_iconst (nx := 155) (i := 1) (v := 1) (by decide) dX7_addThing_154 rfl ?_
        refine J_iadd (nx := 156) dX7_addThing_155 rfl ?_
        refine Jp_1_6 (nx := 159) dX7_addThing_156 rfl fl_X7_47 ?_
        refine J.gen (fun g_156 hg_156 => ?_)
        have e4 : at4 g_98 (atW g_98 f a b) = g_148 := by unfold at4 atW; first | rw [if_pos c_130, hg_148] | rw [if_neg c_130, hg_148]
        exact Jrv dX7_addThing_159 rfl (Nat.zero_le _) (Nat.zero_le _) ⟨rfl, by unfold at45; rw [show at3 g v = g_98 from hg_98.symm, e4, hg_156]; rfl⟩

set_option maxRecDepth 100000 in
set_option maxHeartbeats 4000000 in
theorem sg_at72 (g : GS) (a b t : Nat) (f v : Int32) (hT : gF g 1 6 = nI t) (ht : t ≤ 400) (n0 : Nat) : J mX7_addThing (rm 6 0 0) (RR (.inl none) (at345 (at2 g v) f a b)) n0 72 [some (.ref 1), some (.int (nI a)), some (.int (nI b)), some (.int f), some (.int (bI (isD f))), some (.int (bI (isL f)))] [.int v, .int (gF g 1 6), .ref 4] (Wd g) 0 0 := by
  refine JcS3 (R' := rm (0) 0 0) (nx := 75) dX7_addThing_72 rfl ml_X6_put lk_X7_41 st_X6_put ⟨(Nat.le_of_ble_eq_true rfl), (Nat.le_of_ble_eq_true rfl)⟩ (Nat.le_of_ble_eq_true rfl) ⟨rfl, rfl⟩ (ct_put _ 4 401 _ _ rfl (fun _ => rfl) (by decide)) ?_
  refine J.gen (fun g_72 hg_72 => ?_)
  refine J_aload_n (nx := 76) dX7_addThing_75 rfl rfl ?_
  refine Jg_1_4 (nx := 79) dX7_addThing_76 rfl fl_X7_21 ?_
  refine J_aload_n (nx := 80) dX7_addThing_79 rfl rfl ?_
  refine Jg_1_6 (nx := 83) dX7_addThing_80 rfl fl_X7_47 ?_
  refine J_iload (nx := 85) dX7_addThing_83 rfl rfl ?_
  refine J_if_ne (nx := 88) (tgt := 93) dX7_addThing_85 rfl (by decide) (fun c_85 => ?_) (fun c_85 => ?_)
  · refine J_iconst (nx := 94) (i := 0) (v := 0) (by decide) dX7_addThing_93 rfl ?_
    refine J_goto (nx := 98) dX7_addThing_94 (by decide) ?_
    first
      | (have e : atS f = 0 := if_pos c_85
         unfold at345; rw [e, show at2 g v = g_72 from hg_72.symm]; exact sg_at98 g_72 a b t f _ (by rw [hg_72]; exact hT) ht _)
      | (have e : atS f = f := (ite_nn (Decidable.not_not.mp c_85)).trans (if_pos c_90)
         unfold at345; rw [e, show at2 g v = g_72 from hg_72.symm]; exact sg_at98 g_72 a b t f _ (by rw [hg_72]; exact hT) ht _)
      | (have e : atS f = 0 := (ite_nn (Decidable.not_not.mp c_85)).trans (if_neg c_90)
         unfold at345; rw [e, show at2 g v = g_72 from hg_72.symm]; exact sg_at98 g_72 a b t f _ (by rw [hg_72]; exact hT) ht _)
      | (have e : atS f = f := (ite_nn c_85).trans (if_pos c_90)
         unfold at345; rw [e, show at2 g v = g_72 from hg_72.symm]; exact sg_at98 g_72 a b t f _ (by rw [hg_72]; exact hT) ht _)
      | (have e : atS f = 0 := (ite_nn c_85).trans (if_neg c_90)
         unfold at345; rw [e, show at2 g v = g_72 from hg_72.symm]; exact sg_at98 g_72 a b t f _ (by rw [hg_72]; exact hT) ht _)
  · refine J_iload (nx := 90) dX7_addThing_88 rfl rfl ?_
    refine J_if_eq (nx := 93) (tgt := 97) dX7_addThing_90 rfl (by decide) (fun c_90 => ?_) (fun c_90 => ?_)
    · refine J_iload_n (nx := 98) dX7_addThing_97 rfl rfl ?_
      first
        | (have e : atS f = 0 := if_pos c_85
           unfold at345; rw [e, show at2 g v = g_72 from hg_72.symm]; exact sg_at98 g_72 a b t f _ (by rw [hg_72]; exact hT) ht _)
        | (have e : atS f = f := (ite_nn (Decidable.not_not.mp c_85)).trans (if_pos c_90)
           unfold at345; rw [e, show at2 g v = g_72 from hg_72.symm]; exact sg_at98 g_72 a b t f _ (by rw [hg_72]; exact hT) ht _)
        | (have e : atS f = 0 := (ite_nn (Decidable.not_not.mp c_85)).trans (if_neg c_90)
           unfold at345; rw [e, show at2 g v = g_72 from hg_72.symm]; exact sg_at98 g_72 a b t f _ (by rw [hg_72]; exact hT) ht _)
        | (have e : atS f = f := (ite_nn c_85).trans (if_pos c_90)
           unfold at345; rw [e, show at2 g v = g_72 from hg_72.symm]; exact sg_at98 g_72 a b t f _ (by rw [hg_72]; exact hT) ht _)
        | (have e : atS f = 0 := (ite_nn c_85).trans (if_neg c_90)
           unfold at345; rw [e, show at2 g v = g_72 from hg_72.symm]; exact sg_at98 g_72 a b t f _ (by rw [hg_72]; exact hT) ht _)
    · refine J_iconst (nx := 94) (i := 0) (v := 0) (by decide) dX7_addThing_93 rfl ?_
      refine J_goto (nx := 98) dX7_addThing_94 (by decide) ?_
      first
        | (have e : atS f = 0 := if_pos c_85
           unfold at345; rw [e, show at2 g v = g_72 from hg_72.symm]; exact sg_at98 g_72 a b t f _ (by rw [hg_72]; exact hT) ht _)
        | (have e : atS f = f := (ite_nn (Decidable.not_not.mp c_85)).trans (if_pos c_90)
           unfold at345; rw [e, show at2 g v = g_72 from hg_72.symm]; exact sg_at98 g_72 a b t f _ (by rw [hg_72]; exact hT) ht _)
        | (have e : atS f = 0 := (ite_nn (Decidable.not_not.mp c_85)).trans (if_neg c_90)
           unfold at345; rw [e, show at2 g v = g_72 from hg_72.symm]; exact sg_at98 g_72 a b t f _ (by rw [hg_72]; exact hT) ht _)
        | (have e : atS f = f := (ite_nn c_85).trans (if_pos c_90)
           unfold at345; rw [e, show at2 g v = g_72 from hg_72.symm]; exact sg_at98 g_72 a b t f _ (by rw [hg_72]; exact hT) ht _)
        | (have e : atS f = 0 := (ite_nn c_85).trans (if_neg c_90)
           unfold at345; rw [e, show at2 g v = g_72 from hg_72.symm]; exact sg_at98 g_72 a b t f _ (by rw [hg_72]; exact hT) ht _)

set_option maxRecDepth 100000 in
set_option maxHeartbeats 4000000 in
theorem sg_at17 (g : GS) (a b t : Nat) (f : Int32) (hT : gF g 1 6 = nI t) (ht : t ≤ 400) (hab : a ≤ b) (hb : b ≤ 400) (n0 : Nat) : J mX7_addThing (rm 6 0 0) (RR (.inl none) (at2345 (at1 g a) f a b)) n0 17 [some (.ref 1), some (.int (nI a)), some (.int (nI b)), none, none, none] [.int f] (Wd g) 0 0 := by
  refine J_istore_n (nx := 18) dX7_addThing_17 rfl rfl (Nat.le_of_ble_eq_true rfl) ?_
  refine J_iload_n (nx := 19) dX7_addThing_18 rfl rfl ?_
  refine JcS1 (R' := rm (0) 0 0) (nx := 22) dX7_addThing_19 rfl ml_X7_isDigit lk_X7_71 st_X7_isDigit ⟨(Nat.le_of_ble_eq_true rfl), (Nat.le_of_ble_eq_true rfl)⟩ (Nat.le_of_ble_eq_true rfl) ⟨rfl, rfl⟩ (ct_isDigit _ _) ?_
  refine J_istore (nx := 24) dX7_addThing_22 rfl rfl (Nat.le_of_ble_eq_true rfl) ?_
  refine J_iload_n (nx := 25) dX7_addThing_24 rfl rfl ?_
  refine JcS1 (R' := rm (0) 0 0) (nx := 28) dX7_addThing_25 rfl ml_X7_isLetter lk_X7_67 st_X7_isLetter ⟨(Nat.le_of_ble_eq_true rfl), (Nat.le_of_ble_eq_true rfl)⟩ (Nat.le_of_ble_eq_true rfl) ⟨rfl, rfl⟩ (ct_isLetter _ _) ?_
  refine J_istore (nx := 30) dX7_addThing_28 rfl rfl (Nat.le_of_ble_eq_true rfl) ?_
  refine J_aload_n (nx := 31) dX7_addThing_30 rfl rfl ?_
  refine Jg_1_2 (nx := 34) dX7_addThing_31 rfl fl_X7_15 ?_
  refine J_aload_n (nx := 35) dX7_addThing_34 rfl rfl ?_
  refine Jg_1_6 (nx := 38) dX7_addThing_35 rfl fl_X7_47 ?_
  refine J_iload_n (nx := 39) dX7_addThing_38 rfl rfl ?_
  refine JcS3 (R' := rm (0) 0 0) (nx := 42) dX7_addThing_39 rfl ml_X6_put lk_X7_41 st_X6_put ⟨(Nat.le_of_ble_eq_true rfl), (Nat.le_of_ble_eq_true rfl)⟩ (Nat.le_of_ble_eq_true rfl) ⟨rfl, rfl⟩ (ct_put _ 3 401 _ _ rfl (fun _ => rfl) (by decide)) ?_
  refine J.gen (fun g_39 hg_39 => ?_)
  refine J_aload_n (nx := 43) dX7_addThing_42 rfl rfl ?_
  refine Jg_1_3 (nx := 46) dX7_addThing_43 rfl fl_X7_18 ?_
  refine J_aload_n (nx := 47) dX7_addThing_46 rfl rfl ?_
  refine Jg_1_6 (nx := 50) dX7_addThing_47 rfl fl_X7_47 ?_
  refine J_iload (nx := 52) dX7_addThing_50 rfl rfl ?_
  refine J_if_eq (nx := 55) (tgt := 71) dX7_addThing_52 rfl (by decide) (fun c_52 => ?_) (fun c_52 => ?_)
  · refine J_iconst (nx := 72) (i := -1) (v := -1) (by decide) dX7_addThing_71 rfl ?_
    first
      | (have e : atV g_39 f a b = -1 := if_pos c_52
         unfold at2345; rw [show at1 g a = g_39 from hg_39.symm, e]; exact sg_at72 g_39 a b t f _ (by rw [hg_39]; exact hT) ht _)
      | (have e : atV g_39 f a b = -1 := (if_neg c_52).trans (if_pos c_59)
         unfold at2345; rw [show at1 g a = g_39 from hg_39.symm, e]; exact sg_at72 g_39 a b t f _ (by rw [hg_39]; exact hT) ht _)
      | (have e : atV g_39 f a b = noR g_39 (b - a) a 0 := (if_neg c_52).trans (if_neg c_59)
         unfold at2345; rw [show at1 g a = g_39 from hg_39.symm, e]; exact sg_at72 g_39 a b t f _ (by rw [hg_39]; exact hT) ht _)
  · refine J_iload_n (nx := 56) dX7_addThing_55 rfl rfl ?_
    refine J_iload_n (nx := 57) dX7_addThing_56 rfl rfl ?_
    refine J_isub (nx := 58) dX7_addThing_57 rfl ?_
    refine J_iconst (nx := 59) (i := 4) (v := 4) (by decide) dX7_addThing_58 rfl ?_
    refine J_icmp_gt (nx := 62) (tgt := 71) dX7_addThing_59 rfl (by decide) (fun c_59 => ?_) (fun c_59 => ?_)
    · refine J_iconst (nx := 72) (i := -1) (v := -1) (by decide) dX7_addThing_71 rfl ?_
      first
        | (have e : atV g_39 f a b = -1 := if_pos c_52
           unfold at2345; rw [show at1 g a = g_39 from hg_39.symm, e]; exact sg_at72 g_39 a b t f _ (by rw [hg_39]; exact hT) ht _)
        | (have e : atV g_39 f a b = -1 := (if_neg c_52).trans (if_pos c_59)
           unfold at2345; rw [show at1 g a = g_39 from hg_39.symm, e]; exact sg_at72 g_39 a b t f _ (by rw [hg_39]; exact hT) ht _)
        | (have e : atV g_39 f a b = noR g_39 (b - a) a 0 := (if_neg c_52).trans (if_neg c_59)
           unfold at2345; rw [show at1 g a = g_39 from hg_39.symm, e]; exact sg_at72 g_39 a b t f _ (by rw [hg_39]; exact hT) ht _)
    · refine J_aload_n (nx := 63) dX7_addThing_62 rfl rfl ?_
      refine J_iload_n (nx := 64) dX7_addThing_63 rfl rfl ?_
      refine J_iload_n (nx := 65) dX7_addThing_64 rfl rfl ?_
      refine JcV2 (R' := rm (1) 0 0) (nx := 68) dX7_addThing_65 rfl ml_X7_numberOf lk_X7_74 iv_X7_numberOf rfl rfl ⟨(Nat.le_of_ble_eq_true rfl), (Nat.le_of_ble_eq_true rfl)⟩ (Nat.le_of_ble_eq_true rfl) ⟨rfl, rfl⟩ (ct_numberOf _ _ _ (by omega) (hab)) ?_
      refine J_goto (nx := 72) dX7_addThing_68 (by decide) ?_
      first
        | (have e : atV g_39 f a b = -1 := if_pos c_52
           unfold at2345; rw [show at1 g a = g_39 from hg_39.symm, e]; exact sg_at72 g_39 a b t f _ (by rw [hg_39]; exact hT) ht _)
        | (have e : atV g_39 f a b = -1 := (if_neg c_52).trans (if_pos c_59)
           unfold at2345; rw [show at1 g a = g_39 from hg_39.symm, e]; exact sg_at72 g_39 a b t f _ (by rw [hg_39]; exact hT) ht _)
        | (have e : atV g_39 f a b = noR g_39 (b - a) a 0 := (if_neg c_52).trans (if_neg c_59)
           unfold at2345; rw [show at1 g a = g_39 from hg_39.symm, e]; exact sg_at72 g_39 a b t f _ (by rw [hg_39]; exact hT) ht _)

set_option maxRecDepth 100000 in
set_option maxHeartbeats 4000000 in
theorem ct_addThing (g : GS) (a b t : Nat) (hT : gF g 1 6 = nI t) (ht : t ≤ 400) (hab : a ≤ b) (hb : b ≤ 400) : Ct mX7_addThing (rm 6 0 0) [.ref 1, .int (nI a), .int (nI b)] (Wd g) (RR (.inl none) (atG g a b)) := by
  refine Ct.of (by decide +kernel) (Nat.le_of_ble_eq_true rfl) ?_
  show J _ _ _ _ 0 [some (.ref 1), some (.int (nI a)), some (.int (nI b)), none, none, none] [] _ 0 0
  refine J_iload_n (nx := 1) dX7_addThing_0 rfl rfl ?_
  refine J_iload_n (nx := 2) dX7_addThing_1 rfl rfl ?_
  refine J_icmp_ge (nx := 5) (tgt := 16) dX7_addThing_2 rfl (by decide) (fun c_2 => ?_) (fun c_2 => ?_)
  · refine J_iconst (nx := 17) (i := 0) (v := 0) (by decide) dX7_addThing_16 rfl ?_
    first
      | (have e : atF g a b = 0 := if_pos c_2
         unfold atG; rw [e]; exact sg_at17 g a b t _ hT ht hab hb _)
      | (have e : atF g a b = bt g (nI a) := if_neg c_2
         unfold atG; rw [e]; exact sg_at17 g a b t _ hT ht hab hb _)
  · refine J_aload_n (nx := 6) dX7_addThing_5 rfl rfl ?_
    refine Jg_1_0 (nx := 9) dX7_addThing_6 rfl fl_X7_9 ?_
    refine J_iload_n (nx := 10) dX7_addThing_9 rfl rfl ?_
    refine JcS2 (R' := rm (0) 0 0) (nx := 13) dX7_addThing_10 rfl ml_X6_at lk_X7_50 st_X6_at ⟨(Nat.le_of_ble_eq_true rfl), (Nat.le_of_ble_eq_true rfl)⟩ (Nat.le_of_ble_eq_true rfl) ⟨rfl, rfl⟩ (ct_at _ 2 400 _ _ rfl (by decide)) ?_
    refine J_goto (nx := 17) dX7_addThing_13 (by decide) ?_
    first
      | (have e : atF g a b = 0 := if_pos c_2
         unfold atG; rw [e]; exact sg_at17 g a b t _ hT ht hab hb _)
      | (have e : atF g a b = bt g (nI a) := if_neg c_2
         unfold atG; rw [e]; exact sg_at17 g a b t _ hT ht hab hb _)

set_option maxRecDepth 100000 in
set_option maxHeartbeats 4000000 in
theorem sg_nx23 (g : GS) (k j : Nat) (hk : gF g 1 7 = nI k) (hk4 : k ≤ 400) (hj : j < 23) (hw : gP g 6 k = some (CST + j)) (n0 : Nat) : J mX7_next (rm 0 0 0) (RR (.inl none) (nxB g (gF g 1 7).toNatClampNeg)) n0 23 [some (.ref 1)] [] (Wd g) 0 0 := by
  refine J_aload_n (nx := 24) dX7_next_23 rfl rfl ?_
  refine Jg_1_7 (nx := 27) dX7_next_24 rfl fl_X7_62 ?_
  refine J_if_lt (nx := 30) (tgt := 148) dX7_next_27 rfl (by decide) (fun c_27 => ?_) (fun c_27 => ?_)
  · exact absurd (show nI k < 0 from hk ▸ c_27) (nI_pos (by omega))
  · refine J_aload_n (nx := 31) dX7_next_30 rfl rfl ?_
    refine Jg_1_7 (nx := 34) dX7_next_31 rfl fl_X7_62 ?_
    refine J_aload_n (nx := 35) dX7_next_34 rfl rfl ?_
    refine Jg_1_2 (nx := 38) dX7_next_35 rfl fl_X7_15 ?_
    refine Jn_3 (nx := 39) dX7_next_38 rfl ?_
    refine J_icmp_ge (nx := 42) (tgt := 148) dX7_next_39 rfl (by decide) (fun c_39 => ?_) (fun c_39 => ?_)
    · exact absurd (show nI 401 ≤ nI k from hk ▸ c_39) (nlt_nI (by omega) (by omega))
    · refine J_aload_n (nx := 43) dX7_next_42 rfl rfl ?_
      refine Jg_1_7 (nx := 46) dX7_next_43 rfl fl_X7_62 ?_
      refine J_aload_n (nx := 47) dX7_next_46 rfl rfl ?_
      refine Jg_1_3 (nx := 50) dX7_next_47 rfl fl_X7_18 ?_
      refine Jn_4 (nx := 51) dX7_next_50 rfl ?_
      refine J_icmp_ge (nx := 54) (tgt := 148) dX7_next_51 rfl (by decide) (fun c_51 => ?_) (fun c_51 => ?_)
      · exact absurd (show nI 401 ≤ nI k from hk ▸ c_51) (nlt_nI (by omega) (by omega))
      · refine J_aload_n (nx := 55) dX7_next_54 rfl rfl ?_
        refine Jg_1_7 (nx := 58) dX7_next_55 rfl fl_X7_62 ?_
        refine J_aload_n (nx := 59) dX7_next_58 rfl rfl ?_
        refine Jg_1_4 (nx := 62) dX7_next_59 rfl fl_X7_21 ?_
        refine Jn_5 (nx := 63) dX7_next_62 rfl ?_
        refine J_icmp_ge (nx := 66) (tgt := 148) dX7_next_63 rfl (by decide) (fun c_63 => ?_) (fun c_63 => ?_)
        · exact absurd (show nI 401 ≤ nI k from hk ▸ c_63) (nlt_nI (by omega) (by omega))
        · refine J_aload_n (nx := 67) dX7_next_66 rfl rfl ?_
          refine Jg_1_7 (nx := 70) dX7_next_67 rfl fl_X7_62 ?_
          refine J_aload_n (nx := 71) dX7_next_70 rfl rfl ?_
          refine Jg_1_5 (nx := 74) dX7_next_71 rfl fl_X7_26 ?_
          refine Jn_6 (nx := 75) dX7_next_74 rfl ?_
          refine J_icmp_ge (nx := 78) (tgt := 148) dX7_next_75 rfl (by decide) (fun c_75 => ?_) (fun c_75 => ?_)
          · exact absurd (show nI 401 ≤ nI k from hk ▸ c_75) (nlt_nI (by omega) (by omega))
          · refine J_aload_n (nx := 79) dX7_next_78 rfl rfl ?_
            refine J_aload_n (nx := 80) dX7_next_79 rfl rfl ?_
            refine Jg_1_2 (nx := 83) dX7_next_80 rfl fl_X7_15 ?_
            refine J_aload_n (nx := 84) dX7_next_83 rfl rfl ?_
            refine Jg_1_7 (nx := 87) dX7_next_84 rfl fl_X7_62 ?_
            refine Ja_3 (nx := 88) dX7_next_87 rfl (by rw [hk]; exact vp_in_nI (by omega) (by decide)) ?_
            rw [hk, nI_clamp (by omega)]
            refine Jp_1_8 (nx := 91) dX7_next_88 rfl fl_X7_82 ?_
            refine J.gen (fun g_88 hg_88 => ?_)
            refine J_aload_n (nx := 92) dX7_next_91 rfl rfl ?_
            refine J_aload_n (nx := 93) dX7_next_92 rfl rfl ?_
            refine Jg_1_3 (nx := 96) dX7_next_93 rfl fl_X7_18 ?_
            refine J_aload_n (nx := 97) dX7_next_96 rfl rfl ?_
            refine Jg_1_7 (nx := 100) dX7_next_97 rfl fl_X7_62 ?_
            refine Ja_4 (nx := 101) dX7_next_100 rfl (by rw [hg_88]; show vp_in (gF g 1 7) 401; rw [hk]; exact vp_in_nI (by omega) (by decide)) ?_
            rw [show (gF g_88 1 7).toNatClampNeg = k from by rw [hg_88]; show (gF g 1 7).toNatClampNeg = k; rw [hk, nI_clamp (by omega)]]
            refine Jp_1_9 (nx := 104) dX7_next_101 rfl fl_X7_85 ?_
            refine J.gen (fun g_101 hg_101 => ?_)
            refine J_aload_n (nx := 105) dX7_next_104 rfl rfl ?_
            refine J_aload_n (nx := 106) dX7_next_105 rfl rfl ?_
            refine Jg_1_4 (nx := 109) dX7_next_106 rfl fl_X7_21 ?_
            refine J_aload_n (nx := 110) dX7_next_109 rfl rfl ?_
            refine Jg_1_7 (nx := 113) dX7_next_110 rfl fl_X7_62 ?_
            refine Ja_5 (nx := 114) dX7_next_113 rfl (by rw [hg_101, hg_88]; show vp_in (gF g 1 7) 401; rw [hk]; exact vp_in_nI (by omega) (by decide)) ?_
            rw [show (gF g_101 1 7).toNatClampNeg = k from by rw [hg_101, hg_88]; show (gF g 1 7).toNatClampNeg = k; rw [hk, nI_clamp (by omega)]]
            refine Jp_1_10 (nx := 117) dX7_next_114 rfl fl_X7_88 ?_
            refine J.gen (fun g_114 hg_114 => ?_)
            refine J_aload_n (nx := 118) dX7_next_117 rfl rfl ?_
            refine J_aload_n (nx := 119) dX7_next_118 rfl rfl ?_
            refine Jg_1_5 (nx := 122) dX7_next_119 rfl fl_X7_26 ?_
            refine J_aload_n (nx := 123) dX7_next_122 rfl rfl ?_
            refine Jg_1_7 (nx := 126) dX7_next_123 rfl fl_X7_62 ?_
            refine Ja_6 (nx := 127) dX7_next_126 rfl (by rw [hg_114, hg_101, hg_88]; show vp_in (gF g 1 7) 401; rw [hk]; exact vp_in_nI (by omega) (by decide)) ?_
            rw [show va_rf (gP g_114 6 (gF g_114 1 7).toNatClampNeg) = .ref (CST + j) from by rw [hg_114, hg_101, hg_88]; show va_rf (gP g 6 (gF g 1 7).toNatClampNeg) = _; rw [hk, nI_clamp (by omega), hw]; rfl]
            refine J_ifnonnullR (nx := 0) (tgt := 136) dX7_next_127 (by decide) ?_
            refine J_aload_n (nx := 137) dX7_next_136 rfl rfl ?_
            refine Jg_1_5 (nx := 140) dX7_next_137 rfl fl_X7_26 ?_
            refine J_aload_n (nx := 141) dX7_next_140 rfl rfl ?_
            refine Jg_1_7 (nx := 144) dX7_next_141 rfl fl_X7_62 ?_
            refine Ja_6 (nx := 145) dX7_next_144 rfl (by rw [hg_114, hg_101, hg_88]; show vp_in (gF g 1 7) 401; rw [hk]; exact vp_in_nI (by omega) (by decide)) ?_
            rw [show va_rf (gP g_114 6 (gF g_114 1 7).toNatClampNeg) = .ref (CST + j) from by rw [hg_114, hg_101, hg_88]; show va_rf (gP g 6 (gF g 1 7).toNatClampNeg) = _; rw [hk, nI_clamp (by omega), hw]; rfl]
            refine Jp_1_11 (nx := 148) dX7_next_145 rfl fl_X7_34 ?_
            refine J.gen (fun g_145 hg_145 => ?_)
            subst hg_145
            subst hg_114
            subst hg_101
            subst hg_88
            exact Jrv dX7_next_148 rfl (Nat.zero_le _) (Nat.zero_le _) ⟨rfl, by unfold nxB; rw [hw]; rfl⟩

set_option maxRecDepth 100000 in
set_option maxHeartbeats 4000000 in
theorem ct_next (g : GS) (h : NXOK g) : Ct mX7_next (rm 0 0 0) [.ref 1] (Wd g) (RR (.inl none) (nxG g)) := by
  refine Ct.of (by decide +kernel) (Nat.le_of_ble_eq_true rfl) ?_
  show J _ _ _ _ 0 [some (.ref 1)] [] _ 0 0
  refine J_aload_n (nx := 1) dX7_next_0 rfl rfl ?_
  refine Jg_1_7 (nx := 4) dX7_next_1 rfl fl_X7_62 ?_
  refine J_iconst (nx := 5) (i := 1) (v := 1) (by decide) dX7_next_4 rfl ?_
  refine J_iadd (nx := 6) dX7_next_5 rfl ?_
  refine J_aload_n (nx := 7) dX7_next_6 rfl rfl ?_
  refine Jg_1_6 (nx := 10) dX7_next_7 rfl fl_X7_47 ?_
  refine J_icmp_ge (nx := 13) (tgt := 23) dX7_next_10 rfl (by decide) (fun c_10 => ?_) (fun c_10 => ?_)
  · have e : nxA g = g := by unfold nxA; first | exact if_pos c_10 | (rw [if_neg c_10])
    obtain ⟨k, j, hk, hk4, hj, hw⟩ := h
    unfold nxG
    rw [← nxA_P g] at hw
    rw [e] at hk hw ⊢
    exact sg_nx23 g k j hk hk4 hj hw _
  · refine J_aload_n (nx := 14) dX7_next_13 rfl rfl ?_
    refine J_dup (nx := 15) rfl dX7_next_14 rfl ?_
    refine Jg_1_7 (nx := 18) dX7_next_15 rfl fl_X7_62 ?_
    refine J_iconst (nx := 19) (i := 1) (v := 1) (by decide) dX7_next_18 rfl ?_
    refine J_iadd (nx := 20) dX7_next_19 rfl ?_
    refine Jp_1_7 (nx := 23) dX7_next_20 rfl fl_X7_62 ?_
    refine J.gen (fun g_20 hg_20 => ?_)
    have e : nxA g = g_20 := by unfold nxA; first | exact if_pos c_10 | (rw [if_neg c_10, hg_20])
    obtain ⟨k, j, hk, hk4, hj, hw⟩ := h
    unfold nxG
    rw [← nxA_P g] at hw
    rw [e] at hk hw ⊢
    exact sg_nx23 g_20 k j hk hk4 hj hw _


def ftR : Nat → Nat → GS → GS
  | 0, _, g => g
  | k + 1, i, g => if gF g 1 1 ≤ nI i then g else if ¬ bt g (nI i) = 32 then ftR k (eot g i) (atG g i (eot g i)) else ftR k (i + 1) g
def ftE (L : Nat) (g : GS) : GS := nxG (sF (atG g L L) 1 7 (-1))
def ftG (L : Nat) (g : GS) : GS := ftE L (ftR 400 0 (sF g 1 6 0))
def WV (g : GS) (t : Nat) : Prop := ∀ i, i < t → ∃ j, j < 23 ∧ gP g 6 i = some (CST + j)
theorem at_P (g : GS) (a b : Nat) : gP (atG g a b) 6 = va_up (gP g 6) (gF g 1 6).toNatClampNeg (some (CST + atW (at3 (at2 (at1 g a) (atV (at1 g a) (atF g a b) a b)) (atS (atF g a b))) (atF g a b) a b)) := rfl
theorem at_F6 (g : GS) (a b : Nat) : gF (atG g a b) 1 6 = gF g 1 6 + 1 := rfl
theorem at_F1 (g : GS) (a b : Nat) : gF (atG g a b) 1 1 = gF g 1 1 := rfl
theorem WV.at {g : GS} {t : Nat} (h : WV g t) (hT : gF g 1 6 = nI t) (ht : t ≤ 400) (a b : Nat) : WV (atG g a b) (t + 1) := by
  intro i hi
  rw [at_P, hT, nI_clamp (by omega)]
  unfold va_up
  by_cases h1 : i = t
  · rw [if_pos h1]
    exact ⟨_, atW_lt _ _ _ _, rfl⟩
  · rw [if_neg h1]
    exact h i (by omega)
theorem NXOK.first {g : GS} {t : Nat} (h : WV g t) (hT : gF g 1 6 = nI t) (ht1 : 1 ≤ t) (ht : t ≤ 401) : NXOK (sF g 1 7 (-1)) := by
  obtain ⟨j, hj, hw⟩ := h 0 (by omega)
  have e : nxA (sF g 1 7 (-1)) = sF (sF g 1 7 (-1)) 1 7 (-1 + 1) := by
    unfold nxA
    refine if_neg ?_
    show ¬ gF g 1 6 ≤ -1 + 1
    rw [hT]
    exact nI_ge (b := t) (a := 0) (by omega) (by omega)
  exact ⟨0, j, by rw [e]; rfl, by omega, hj, hw⟩

set_option maxRecDepth 100000 in
set_option maxHeartbeats 4000000 in
theorem sg_ft63 (g : GS) (L t : Nat) (hL : gF g 1 1 = nI L) (hL4 : L ≤ 400) (hT : gF g 1 6 = nI t) (ht : t ≤ 400) (hV : WV g t) (x y : Int32) (n0 : Nat) : J mX7_findThings (rm 7 0 0) (RR (.inl none) (ftE L g)) n0 63 [some (.ref 1), some (.int x), some (.int y), none] [] (Wd g) 0 0 := by
  refine J_aload_n (nx := 64) dX7_findThings_63 rfl rfl ?_
  refine J_aload_n (nx := 65) dX7_findThings_64 rfl rfl ?_
  refine Jg_1_1 (nx := 68) dX7_findThings_65 rfl fl_X7_37 ?_
  refine J_aload_n (nx := 69) dX7_findThings_68 rfl rfl ?_
  refine Jg_1_1 (nx := 72) dX7_findThings_69 rfl fl_X7_37 ?_
  rw [hL]
  refine JcV2 (R' := rm (6) 0 0) (nx := 75) dX7_findThings_72 rfl ml_X7_addThing lk_X7_58 iv_X7_addThing rfl rfl ⟨(Nat.le_of_ble_eq_true rfl), (Nat.le_of_ble_eq_true rfl)⟩ (Nat.le_of_ble_eq_true rfl) ⟨rfl, rfl⟩ (ct_addThing _ _ _ t hT ht (Nat.le_refl _) hL4) ?_
  refine J.gen (fun g_72 hg_72 => ?_)
  refine J_aload_n (nx := 76) dX7_findThings_75 rfl rfl ?_
  refine J_iconst (nx := 77) (i := -1) (v := -1) (by decide) dX7_findThings_76 rfl ?_
  refine Jp_1_7 (nx := 80) dX7_findThings_77 rfl fl_X7_62 ?_
  refine J.gen (fun g_77 hg_77 => ?_)
  refine J_aload_n (nx := 81) dX7_findThings_80 rfl rfl ?_
  refine JcV0 (R' := rm (0) 0 0) (nx := 84) dX7_findThings_81 rfl ml_X7_next lk_X7_64 iv_X7_next rfl rfl ⟨(Nat.le_of_ble_eq_true rfl), (Nat.le_of_ble_eq_true rfl)⟩ (Nat.le_of_ble_eq_true rfl) ⟨rfl, rfl⟩ (ct_next _ (by rw [hg_77, hg_72]; exact NXOK.first (hV.at hT ht L L) (by rw [at_F6, hT, nI_1]) (by omega) (by omega))) ?_
  refine J.gen (fun g_81 hg_81 => ?_)
  unfold ftE
  rw [← hg_72, ← hg_77, ← hg_81]
  exact Jrv dX7_findThings_84 rfl (Nat.zero_le _) (Nat.zero_le _) ⟨rfl, rfl⟩

set_option maxRecDepth 100000 in
set_option maxHeartbeats 4000000 in
theorem lp_ft (L : Nat) (hL4 : L ≤ 400) (n0 : Nat) : ∀ (k : Nat) (i c t : Nat) (g r : GS), gF g 1 1 = nI L → i ≤ L → gF g 1 6 = nI t → t + k ≤ 400 → c + k = 400 → WV g t → r = ftR k i g → J mX7_findThings (rm 7 0 0) (RR (.inl none) (ftE L r)) n0 9 [some (.ref 1), some (.int (nI i)), some (.int (nI c)), none] [] (Wd g) 0 0 := by
  intro k
  induction k with
  | zero =>
    intro i c t g r hL hiL hT htk hck hV hr
    refine J_iload_n (nx := 10) dX7_findThings_9 rfl rfl ?_
    refine J_sipush (nx := 13) (i := 400) (v := 400) (by decide) dX7_findThings_10 rfl ?_
    refine J_icmp_ge (nx := 16) (tgt := 63) dX7_findThings_13 rfl (by decide) (fun c_13 => ?_) (fun c_13 => ?_)
    · rw [hr]
      exact sg_ft63 g L t hL hL4 hT (by omega) hV _ _ _
    · exact absurd (show (400 : Int32) ≤ nI c from by rw [show c = 400 by omega]; exact le_self_nI) c_13
  | succ k ih =>
    intro i c t g r hL hiL hT htk hck hV hr
    refine J_iload_n (nx := 10) dX7_findThings_9 rfl rfl ?_
    refine J_sipush (nx := 13) (i := 400) (v := 400) (by decide) dX7_findThings_10 rfl ?_
    refine J_icmp_ge (nx := 16) (tgt := 63) dX7_findThings_13 rfl (by decide) (fun c_13 => ?_) (fun c_13 => ?_)
    · exact absurd c_13 (nlt_nI (n := 400) (by omega) (by omega))
    · refine J_iload_n (nx := 17) dX7_findThings_16 rfl rfl ?_
      refine J_aload_n (nx := 18) dX7_findThings_17 rfl rfl ?_
      refine Jg_1_1 (nx := 21) dX7_findThings_18 rfl fl_X7_37 ?_
      refine J_icmp_ge (nx := 24) (tgt := 63) dX7_findThings_21 rfl (by decide) (fun c_21 => ?_) (fun c_21 => ?_)
      · rw [hr, show ftR (k + 1) i g = g from if_pos c_21]
        exact sg_ft63 g L t hL hL4 hT (by omega) hV _ _ _
      · have hi : i < L := by
          rcases Nat.lt_or_ge i L with h3 | h3
          · exact h3
          · exact absurd (by rw [hL]; exact nI_le h3 (by omega)) c_21
        refine J_aload_n (nx := 25) dX7_findThings_24 rfl rfl ?_
        refine Jg_1_0 (nx := 28) dX7_findThings_25 rfl fl_X7_9 ?_
        refine J_iload_n (nx := 29) dX7_findThings_28 rfl rfl ?_
        refine JcS2 (R' := rm (0) 0 0) (nx := 32) dX7_findThings_29 rfl ml_X6_at lk_X7_50 st_X6_at ⟨(Nat.le_of_ble_eq_true rfl), (Nat.le_of_ble_eq_true rfl)⟩ (Nat.le_of_ble_eq_true rfl) ⟨rfl, rfl⟩ (ct_at _ 2 400 _ _ rfl (by decide)) ?_
        refine J_bipush (nx := 34) (i := 32) (v := 32) (by decide) dX7_findThings_32 rfl ?_
        refine J_icmp_ne (nx := 37) (tgt := 43) dX7_findThings_34 rfl (by decide) (fun c_34 => ?_) (fun c_34 => ?_)
        · refine J_aload_n (nx := 44) dX7_findThings_43 rfl rfl ?_
          refine J_iload_n (nx := 45) dX7_findThings_44 rfl rfl ?_
          refine JcV1 (R' := rm (1) 0 0) (nx := 48) dX7_findThings_45 rfl ml_X7_endOfThing lk_X7_54 iv_X7_endOfThing rfl rfl ⟨(Nat.le_of_ble_eq_true rfl), (Nat.le_of_ble_eq_true rfl)⟩ (Nat.le_of_ble_eq_true rfl) ⟨rfl, rfl⟩ (ct_endOfThing _ L _ hL hL4 hi) ?_
          refine J_istore_n (nx := 49) dX7_findThings_48 rfl rfl (Nat.le_of_ble_eq_true rfl) ?_
          refine J_aload_n (nx := 50) dX7_findThings_49 rfl rfl ?_
          refine J_iload_n (nx := 51) dX7_findThings_50 rfl rfl ?_
          refine J_iload_n (nx := 52) dX7_findThings_51 rfl rfl ?_
          refine JcV2 (R' := rm (6) 0 0) (nx := 55) dX7_findThings_52 rfl ml_X7_addThing lk_X7_58 iv_X7_addThing rfl rfl ⟨(Nat.le_of_ble_eq_true rfl), (Nat.le_of_ble_eq_true rfl)⟩ (Nat.le_of_ble_eq_true rfl) ⟨rfl, rfl⟩ (ct_addThing _ _ _ t hT (by omega) (by have := eot_le g hL hL4 i hi; omega) (by have := eot_le g hL hL4 i hi; omega)) ?_
          refine J.gen (fun g_52 hg_52 => ?_)
          refine J_iload_n (nx := 56) dX7_findThings_55 rfl rfl ?_
          refine J_istore_n (nx := 57) dX7_findThings_56 rfl rfl (Nat.le_of_ble_eq_true rfl) ?_
          refine J_iinc (nx := 60) dX7_findThings_57 rfl rfl rfl (Nat.le_of_ble_eq_true rfl) ?_
          refine J_goto (nx := 9) dX7_findThings_60 (by decide) ?_
          refine J_kill (nx := 0) 3 ?_
          rw [hg_52]
          show J _ _ _ _ 9 [some (.ref 1), some (.int (nI (eot g i))), some (.int (nI c + Int32.ofInt 1)), none] [] _ 0 0
          rw [nI_s]
          exact ih (eot g i) (c + 1) (t + 1) (atG g i (eot g i)) r (by rw [at_F1]; exact hL) (by have := eot_le g hL hL4 i hi; omega) (by rw [at_F6, hT, nI_1]) (by omega) (by omega) (hV.at hT (by omega) _ _) (hr.trans ((if_neg c_21).trans (if_pos c_34)))
        · refine J_iinc (nx := 40) dX7_findThings_37 rfl rfl rfl (Nat.le_of_ble_eq_true rfl) ?_
          refine J_goto (nx := 57) dX7_findThings_40 (by decide) ?_
          refine J_iinc (nx := 60) dX7_findThings_57 rfl rfl rfl (Nat.le_of_ble_eq_true rfl) ?_
          refine J_goto (nx := 9) dX7_findThings_60 (by decide) ?_
          show J _ _ _ _ 9 [some (.ref 1), some (.int (nI i + Int32.ofInt 1)), some (.int (nI c + Int32.ofInt 1)), none] [] _ 0 0
          rw [nI_s, nI_s]
          exact ih (i + 1) (c + 1) t g r hL (by omega) hT (by omega) (by omega) hV (hr.trans ((if_neg c_21).trans (ite_nn c_34)))

set_option maxRecDepth 100000 in
set_option maxHeartbeats 4000000 in
theorem ct_findThings (g : GS) (L : Nat) (hL : gF g 1 1 = nI L) (hL4 : L ≤ 400) : Ct mX7_findThings (rm 7 0 0) [.ref 1] (Wd g) (RR (.inl none) (ftG L g)) := by
  refine Ct.of (by decide +kernel) (Nat.le_of_ble_eq_true rfl) ?_
  show J _ _ _ _ 0 [some (.ref 1), none, none, none] [] _ 0 0
  refine J_aload_n (nx := 1) dX7_findThings_0 rfl rfl ?_
  refine J_iconst (nx := 2) (i := 0) (v := 0) (by decide) dX7_findThings_1 rfl ?_
  refine Jp_1_6 (nx := 5) dX7_findThings_2 rfl fl_X7_47 ?_
  refine J.gen (fun g_2 hg_2 => ?_)
  refine J_iconst (nx := 6) (i := 0) (v := 0) (by decide) dX7_findThings_5 rfl ?_
  refine J_istore_n (nx := 7) dX7_findThings_6 rfl rfl (Nat.le_of_ble_eq_true rfl) ?_
  refine J_iconst (nx := 8) (i := 0) (v := 0) (by decide) dX7_findThings_7 rfl ?_
  refine J_istore_n (nx := 9) dX7_findThings_8 rfl rfl (Nat.le_of_ble_eq_true rfl) ?_
  unfold ftG
  rw [← hg_2]
  exact lp_ft L hL4 _ 400 0 0 0 g_2 _ (by rw [hg_2]; exact hL) (by omega) (by rw [hg_2]; rfl) (by omega) (by omega) (fun i hi => absurd hi (by omega)) rfl

