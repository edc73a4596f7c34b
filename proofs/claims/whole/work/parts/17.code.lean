
/-! Code: LINES ready to be reckoned. A Code of goals() or rule() stands behind the 83 cells: the object, its heads, its cells. -/
theorem W0_len (g : GS) : (W0 g).length = 83 := rfl
theorem Wd_t {g : GS} {c : Nat} {e : ME} (hc : 83 ≤ c) (h : (gT g)[c - 83]? = some e) : (Wd g)[c]? = some e := by
  show (W0 g ++ gT g)[c]? = some e
  rw [List.getElem?_append_right (by rw [W0_len]; exact hc), W0_len]
  exact h
/-- lines, heads and cells of a Code, with the rows' lengths -/
abbrev CD : Type := Nat × (Nat × (Nat → Int32)) × (Nat × (Nat → Int32))
def CodeT (t : List ME) (c : Nat) (cd : CD) : Prop :=
  83 ≤ c ∧ t[c - 83]? = some (.inr (2, [.int (nI cd.1), .ref (c + 1), .ref (c + 2)])) ∧ t[c + 1 - 83]? = some (.inl (0, cd.2.1.1, .inl cd.2.1.2)) ∧ t[c + 2 - 83]? = some (.inl (0, cd.2.2.1, .inl cd.2.2.2)) ∧ cd.1 < 2 ^ 31 ∧ cd.2.1.1 < 2 ^ 31 ∧ cd.2.2.1 < 2 ^ 31
theorem CodeT.o {g : GS} {c : Nat} {cd : CD} (h : CodeT (gT g) c cd) : (Wd g)[c]? = some (.inr (2, [.int (nI cd.1), .ref (c + 1), .ref (c + 2)])) := Wd_t h.1 h.2.1
theorem CodeT.oo {g g1 : GS} {c : Nat} {cd : CD} (h : CodeT (gT g) c cd) (e : gT g1 = gT g) : (Wd g1)[c]? = some (.inr (2, [.int (nI cd.1), .ref (c + 1), .ref (c + 2)])) := CodeT.o (by rw [e]; exact h)
theorem CodeT.h {g : GS} {c : Nat} {cd : CD} (h : CodeT (gT g) c cd) : (Wd g)[c + 1]? = some (.inl (0, cd.2.1.1, .inl cd.2.1.2)) := Wd_t (Nat.le_succ_of_le h.1) h.2.2.1
theorem CodeT.c {g : GS} {c : Nat} {cd : CD} (h : CodeT (gT g) c cd) : (Wd g)[c + 2]? = some (.inl (0, cd.2.2.1, .inl cd.2.2.2)) := Wd_t (Nat.le_add_right_of_le h.1) h.2.2.2.1
theorem CodeT.hh {g g1 : GS} {c : Nat} {cd : CD} (h : CodeT (gT g) c cd) (e : gT g1 = gT g) : (Wd g1)[c + 1]? = some (.inl (0, cd.2.1.1, .inl cd.2.1.2)) := CodeT.h (by rw [e]; exact h)
theorem CodeT.cc {g g1 : GS} {c : Nat} {cd : CD} (h : CodeT (gT g) c cd) (e : gT g1 = gT g) : (Wd g1)[c + 2]? = some (.inl (0, cd.2.2.1, .inl cd.2.2.2)) := CodeT.c (by rw [e]; exact h)
def joinedF (cell a b : Int32) : Int32 :=
  if cell = 10010 then a + b else if cell = 10011 then (if b ≤ a then 0 else 1) else if cell = 10012 then (if a ≤ b then 0 else 1) else if cell = 10014 then a &&& b else a ||| b
def cd_hd (cd : CD) (i : Int32) : Int32 := rAt cd.2.1.1 cd.2.1.2 i
def cd_cl (cd : CD) (i : Int32) : Int32 := rAt cd.2.2.1 cd.2.2.2 i
def hdStep (cd : CD) (F : Nat → Int32) (i : Int32) (q : Int32 × (Nat → Int32)) : Int32 × (Nat → Int32) :=
  if 10010 ≤ cd_cl cd i then
    (if ¬ cd_cl cd i = 10013 then (q.1 + Int32.ofInt (-1), rPut 32 q.2 (q.1 + Int32.ofInt (-1)) (joinedF (cd_cl cd i) (rAt 32 q.2 (q.1 + Int32.ofInt (-1))) (rAt 32 q.2 (q.1 + Int32.ofInt (-1) + 1))))
     else (q.1, rPut 32 q.2 q.1 (1 - rAt 32 q.2 q.1)))
  else (q.1 + Int32.ofInt 1, rPut 32 q.2 (q.1 + Int32.ofInt 1) (if 10000 ≤ cd_cl cd i then rAt 8 F (cd_cl cd i - 10000) else cd_cl cd i))
def hdRun (cd : CD) (F : Nat → Int32) : Nat → Int32 → Int32 × (Nat → Int32) → Int32 × (Nat → Int32)
  | 0, _, q => q
  | k + 1, i, q => hdRun cd F k (i + Int32.ofInt 1) (hdStep cd F i q)
def hdN (cd : CD) (line : Int32) : Nat := ((cd_hd cd (4 * line + 3)).toInt - (cd_hd cd (4 * line + 2)).toInt).toNat
/-- the stack behind a line's reckoning, and whether the line holds -/
def cdS (cd : CD) (F S : Nat → Int32) (line : Int32) : Nat → Int32 := (hdRun cd F (hdN cd line) (cd_hd cd (4 * line + 2)) (-1, S)).2
def cdH (cd : CD) (F S : Nat → Int32) (line : Int32) : Bool := decide (cd_hd cd (4 * line + 3) ≤ cd_hd cd (4 * line + 2)) || !decide (rAt 32 (cdS cd F S line) 0 = 0)
theorem inc_toInt {i e : Int32} (h : ¬ e ≤ i) : (i + Int32.ofInt 1).toInt = i.toInt + 1 := by
  have h1 : i.toInt < e.toInt := by rw [Int32.le_iff_toInt_le] at h; omega
  have h2 := e.toInt_lt
  have h3 := i.le_toInt
  rw [Int32.toInt_add, show (Int32.ofInt 1).toInt = 1 by decide, Int.bmod_def]
  omega
theorem gA_sA (g : GS) (c : Nat) (f : Nat → Int32) : gA (sA g c f) c = f := by
  show (bif Nat.beq c c then f else _) = f
  rw [Nat.beq_refl]; rfl
theorem sA_sA (g : GS) (c : Nat) (f h : Nat → Int32) : sA (sA g c f) c h = sA g c h := by
  have e : (fun c' => bif Nat.beq c' c then h else gA (sA g c f) c') = (fun c' => bif Nat.beq c' c then h else gA g c') := by
    funext c'
    cases hb : Nat.beq c' c with
    | true => rfl
    | false => show (bif Nat.beq c' c then f else gA g c') = gA g c'; rw [hb]; rfl
  show (gF g, (fun c' => bif Nat.beq c' c then h else gA (sA g c f) c'), gB g, gV g, gP g, gT g) = _
  rw [e]; rfl

set_option maxRecDepth 100000 in
set_option maxHeartbeats 4000000 in
theorem ct_X2_joined (g : GS) (x a b : Int32) : Ct mX2_joined (rm 0 0 0) [.int x, .int a, .int b] (Wd g) (RR (.inl (some (.int (joinedF x a b)))) g) := by
  refine Ct.of (by decide +kernel) (Nat.le_of_ble_eq_true rfl) ?_
  show J _ _ _ _ 0 [some (.int x), some (.int a), some (.int b)] [] _ 0 0
  refine J_iload_n (nx := 1) dX2_joined_0 rfl rfl ?_
  by_cases s_1_10010 : x = 10010
  · refine J_tabIn (nx := 0) (tgt := 36) (off := 35) dX2_joined_1 (by rw [s_1_10010]; decide) (by rw [s_1_10010]; decide) (by rw [s_1_10010]; rfl) (by decide) ?_
    refine J_iload_n (nx := 37) dX2_joined_36 rfl rfl ?_
    refine J_iload_n (nx := 38) dX2_joined_37 rfl rfl ?_
    refine J_iadd (nx := 39) dX2_joined_38 rfl ?_
    exact Jri dX2_joined_39 rfl (Nat.zero_le _) (Nat.zero_le _) (RR.i (by unfold joinedF; repeat (first | rw [if_pos (by assumption)] | rw [if_neg (by assumption)] | rw [if_neg (by rw [s_1_10011]; decide)] | rw [if_neg (by rw [s_1_10012]; decide)] | rw [if_neg (by rw [s_1_10013]; decide)] | rw [if_neg (by rw [s_1_10014]; decide)])) rfl)
  by_cases s_1_10011 : x = 10011
  · refine J_tabIn (nx := 0) (tgt := 40) (off := 39) dX2_joined_1 (by rw [s_1_10011]; decide) (by rw [s_1_10011]; decide) (by rw [s_1_10011]; rfl) (by decide) ?_
    refine J_iload_n (nx := 41) dX2_joined_40 rfl rfl ?_
    refine J_iload_n (nx := 42) dX2_joined_41 rfl rfl ?_
    refine J_icmp_ge (nx := 45) (tgt := 49) dX2_joined_42 rfl (by decide) (fun c_42 => ?_) (fun c_42 => ?_)
    · refine J_iconst (nx := 50) (i := 0) (v := 0) (by decide) dX2_joined_49 rfl ?_
      exact Jri dX2_joined_50 rfl (Nat.zero_le _) (Nat.zero_le _) (RR.i (by unfold joinedF; repeat (first | rw [if_pos (by assumption)] | rw [if_neg (by assumption)] | rw [if_neg (by rw [s_1_10011]; decide)] | rw [if_neg (by rw [s_1_10012]; decide)] | rw [if_neg (by rw [s_1_10013]; decide)] | rw [if_neg (by rw [s_1_10014]; decide)])) rfl)
    · refine J_iconst (nx := 46) (i := 1) (v := 1) (by decide) dX2_joined_45 rfl ?_
      refine J_goto (nx := 50) dX2_joined_46 (by decide) ?_
      exact Jri dX2_joined_50 rfl (Nat.zero_le _) (Nat.zero_le _) (RR.i (by unfold joinedF; repeat (first | rw [if_pos (by assumption)] | rw [if_neg (by assumption)] | rw [if_neg (by rw [s_1_10011]; decide)] | rw [if_neg (by rw [s_1_10012]; decide)] | rw [if_neg (by rw [s_1_10013]; decide)] | rw [if_neg (by rw [s_1_10014]; decide)])) rfl)
  by_cases s_1_10012 : x = 10012
  · refine J_tabIn (nx := 0) (tgt := 51) (off := 50) dX2_joined_1 (by rw [s_1_10012]; decide) (by rw [s_1_10012]; decide) (by rw [s_1_10012]; rfl) (by decide) ?_
    refine J_iload_n (nx := 52) dX2_joined_51 rfl rfl ?_
    refine J_iload_n (nx := 53) dX2_joined_52 rfl rfl ?_
    refine J_icmp_le (nx := 56) (tgt := 60) dX2_joined_53 rfl (by decide) (fun c_53 => ?_) (fun c_53 => ?_)
    · refine J_iconst (nx := 61) (i := 0) (v := 0) (by decide) dX2_joined_60 rfl ?_
      exact Jri dX2_joined_61 rfl (Nat.zero_le _) (Nat.zero_le _) (RR.i (by unfold joinedF; repeat (first | rw [if_pos (by assumption)] | rw [if_neg (by assumption)] | rw [if_neg (by rw [s_1_10011]; decide)] | rw [if_neg (by rw [s_1_10012]; decide)] | rw [if_neg (by rw [s_1_10013]; decide)] | rw [if_neg (by rw [s_1_10014]; decide)])) rfl)
    · refine J_iconst (nx := 57) (i := 1) (v := 1) (by decide) dX2_joined_56 rfl ?_
      refine J_goto (nx := 61) dX2_joined_57 (by decide) ?_
      exact Jri dX2_joined_61 rfl (Nat.zero_le _) (Nat.zero_le _) (RR.i (by unfold joinedF; repeat (first | rw [if_pos (by assumption)] | rw [if_neg (by assumption)] | rw [if_neg (by rw [s_1_10011]; decide)] | rw [if_neg (by rw [s_1_10012]; decide)] | rw [if_neg (by rw [s_1_10013]; decide)] | rw [if_neg (by rw [s_1_10014]; decide)])) rfl)
  by_cases s_1_10013 : x = 10013
  · refine J_tabIn (nx := 0) (tgt := 66) (off := 65) dX2_joined_1 (by rw [s_1_10013]; decide) (by rw [s_1_10013]; decide) (by rw [s_1_10013]; rfl) (by decide) ?_
    refine J_iload_n (nx := 67) dX2_joined_66 rfl rfl ?_
    refine J_iload_n (nx := 68) dX2_joined_67 rfl rfl ?_
    refine J_ior (nx := 69) dX2_joined_68 rfl ?_
    exact Jri dX2_joined_69 rfl (Nat.zero_le _) (Nat.zero_le _) (RR.i (by unfold joinedF; repeat (first | rw [if_pos (by assumption)] | rw [if_neg (by assumption)] | rw [if_neg (by rw [s_1_10011]; decide)] | rw [if_neg (by rw [s_1_10012]; decide)] | rw [if_neg (by rw [s_1_10013]; decide)] | rw [if_neg (by rw [s_1_10014]; decide)])) rfl)
  by_cases s_1_10014 : x = 10014
  · refine J_tabIn (nx := 0) (tgt := 62) (off := 61) dX2_joined_1 (by rw [s_1_10014]; decide) (by rw [s_1_10014]; decide) (by rw [s_1_10014]; rfl) (by decide) ?_
    refine J_iload_n (nx := 63) dX2_joined_62 rfl rfl ?_
    refine J_iload_n (nx := 64) dX2_joined_63 rfl rfl ?_
    refine J_iand (nx := 65) dX2_joined_64 rfl ?_
    exact Jri dX2_joined_65 rfl (Nat.zero_le _) (Nat.zero_le _) (RR.i (by unfold joinedF; repeat (first | rw [if_pos (by assumption)] | rw [if_neg (by assumption)] | rw [if_neg (by rw [s_1_10011]; decide)] | rw [if_neg (by rw [s_1_10012]; decide)] | rw [if_neg (by rw [s_1_10013]; decide)] | rw [if_neg (by rw [s_1_10014]; decide)])) rfl)
  refine J_tabOut (nx := 0) (tgt := 66) dX2_joined_1 (by have e0 : ¬ (x).toInt = 10010 := fun z => s_1_10010 (Int32.toInt_inj.mp (z.trans (by decide))); have e1 : ¬ (x).toInt = 10011 := fun z => s_1_10011 (Int32.toInt_inj.mp (z.trans (by decide))); have e2 : ¬ (x).toInt = 10012 := fun z => s_1_10012 (Int32.toInt_inj.mp (z.trans (by decide))); have e3 : ¬ (x).toInt = 10013 := fun z => s_1_10013 (Int32.toInt_inj.mp (z.trans (by decide))); have e4 : ¬ (x).toInt = 10014 := fun z => s_1_10014 (Int32.toInt_inj.mp (z.trans (by decide))); omega) (by decide) ?_
  refine J_iload_n (nx := 67) dX2_joined_66 rfl rfl ?_
  refine J_iload_n (nx := 68) dX2_joined_67 rfl rfl ?_
  refine J_ior (nx := 69) dX2_joined_68 rfl ?_
  exact Jri dX2_joined_69 rfl (Nat.zero_le _) (Nat.zero_le _) (RR.i (by unfold joinedF; repeat (first | rw [if_pos (by assumption)] | rw [if_neg (by assumption)] | rw [if_neg (by rw [s_1_10011]; decide)] | rw [if_neg (by rw [s_1_10012]; decide)] | rw [if_neg (by rw [s_1_10013]; decide)] | rw [if_neg (by rw [s_1_10014]; decide)])) rfl)

set_option maxRecDepth 100000 in
set_option maxHeartbeats 4000000 in
theorem lp_X2_holds (c : Nat) (cd : CD) (line b e : Int32) (n0 : Nat) : ∀ (k : Nat) (i top : Int32) (g : GS) (r : Int32) (g2 : GS) (j8 : Option Value), CodeT (gT g) c cd → (e.toInt - i.toInt).toNat = k → g2 = sA g 49 (hdRun cd (gA g 48) k i (top, gA g 49)).2 → r = bI (decide (e ≤ b) || !decide (rAt 32 (hdRun cd (gA g 48) k i (top, gA g 49)).2 0 = 0)) → J mX2_holds (rm 1 0 0) (RR (.inl (some (.int r))) g2) n0 35 [some (.ref c), some (.int line), some (.ref 48), some (.ref 49), some (.int b), some (.int e), some (.int top), some (.int i), j8] [] (Wd g) 0 0 := by
  intro k
  induction k using Nat.strongRecOn with
  | _ k ih => ?_
  intro i top g r g2 j8 hc hk hg hr
  refine J_iload (nx := 37) dX2_holds_35 rfl rfl ?_
  refine J_iload (nx := 39) dX2_holds_37 rfl rfl ?_
  refine J_icmp_ge (nx := 42) (tgt := 155) dX2_holds_39 rfl (by decide) (fun c_39 => ?_) (fun c_39 => ?_)
  · have h0 : k = 0 := by rw [Int32.le_iff_toInt_le] at c_39; omega
    subst h0
    refine J_iload (nx := 157) dX2_holds_155 rfl rfl ?_
    refine J_iload (nx := 159) dX2_holds_157 rfl rfl ?_
    refine J_icmp_ge (nx := 162) (tgt := 170) dX2_holds_159 rfl (by decide) (fun c_159 => ?_) (fun c_159 => ?_)
    · refine J_iconst (nx := 171) (i := 1) (v := 1) (by decide) dX2_holds_170 rfl ?_
      refine J_goto (nx := 175) dX2_holds_171 (by decide) ?_
      exact Jrz dX2_holds_175 rfl (by decide) (Nat.zero_le _) (Nat.zero_le _) ⟨by rw [hr]; simp [hdRun, bI, *], by rw [hg]; show Wd g = Wd (sA g 49 (gA g 49)); rw [sA_self]⟩
    · refine J_aload_n (nx := 163) dX2_holds_162 rfl rfl ?_
      refine J_iconst (nx := 164) (i := 0) (v := 0) (by decide) dX2_holds_163 rfl ?_
      refine JcS2 (R' := rm 0 0 0) (nx := 167) dX2_holds_164 rfl ml_X6_at lk_X2_38 st_X6_at ⟨(Nat.le_of_ble_eq_true rfl), (Nat.le_of_ble_eq_true rfl)⟩ (Nat.le_of_ble_eq_true rfl) ⟨rfl, rfl⟩ (ct_at _ 49 32 _ _ rfl (by decide)) ?_
      refine J_if_eq (nx := 170) (tgt := 174) dX2_holds_167 rfl (by decide) (fun c_167 => ?_) (fun c_167 => ?_)
      · refine J_iconst (nx := 175) (i := 0) (v := 0) (by decide) dX2_holds_174 rfl ?_
        exact Jrz dX2_holds_175 rfl (by decide) (Nat.zero_le _) (Nat.zero_le _) ⟨by rw [hr]; simp [hdRun, bI, *], by rw [hg]; show Wd g = Wd (sA g 49 (gA g 49)); rw [sA_self]⟩
      · refine J_iconst (nx := 171) (i := 1) (v := 1) (by decide) dX2_holds_170 rfl ?_
        refine J_goto (nx := 175) dX2_holds_171 (by decide) ?_
        exact Jrz dX2_holds_175 rfl (by decide) (Nat.zero_le _) (Nat.zero_le _) ⟨by rw [hr]; simp [hdRun, bI, *], by rw [hg]; show Wd g = Wd (sA g 49 (gA g 49)); rw [sA_self]⟩
  · refine J_aload_n (nx := 43) dX2_holds_42 rfl rfl ?_
    refine J_get (nx := 46) dX2_holds_43 rfl fl_X2_25 (hc.oo rfl) rfl ?_
    refine J_iload (nx := 48) dX2_holds_46 rfl rfl ?_
    refine JcS2 (R' := rm 0 0 0) (nx := 51) dX2_holds_48 rfl ml_X6_at lk_X2_38 st_X6_at ⟨(Nat.le_of_ble_eq_true rfl), (Nat.le_of_ble_eq_true rfl)⟩ (Nat.le_of_ble_eq_true rfl) ⟨rfl, rfl⟩ (ct_at _ (c + 2) _ _ _ (hc.cc rfl) hc.2.2.2.2.2.2) ?_
    refine J_istore (nx := 53) dX2_holds_51 rfl rfl (Nat.le_of_ble_eq_true rfl) ?_
    refine J_iload (nx := 55) dX2_holds_53 rfl rfl ?_
    refine J_sipush (nx := 58) (i := 10010) (v := 10010) (by decide) dX2_holds_55 rfl ?_
    refine J_icmp_ge (nx := 61) (tgt := 96) dX2_holds_58 rfl (by decide) (fun c_58 => ?_) (fun c_58 => ?_)
    · refine J_iload (nx := 98) dX2_holds_96 rfl rfl ?_
      refine J_sipush (nx := 101) (i := 10013) (v := 10013) (by decide) dX2_holds_98 rfl ?_
      refine J_icmp_ne (nx := 104) (tgt := 121) dX2_holds_101 rfl (by decide) (fun c_101 => ?_) (fun c_101 => ?_)
      · refine J_iinc (nx := 124) dX2_holds_121 rfl rfl rfl (Nat.le_of_ble_eq_true rfl) ?_
        refine J_aload_n (nx := 125) dX2_holds_124 rfl rfl ?_
        refine J_iload (nx := 127) dX2_holds_125 rfl rfl ?_
        refine J_iload (nx := 129) dX2_holds_127 rfl rfl ?_
        refine J_aload_n (nx := 130) dX2_holds_129 rfl rfl ?_
        refine J_iload (nx := 132) dX2_holds_130 rfl rfl ?_
        refine JcS2 (R' := rm 0 0 0) (nx := 135) dX2_holds_132 rfl ml_X6_at lk_X2_38 st_X6_at ⟨(Nat.le_of_ble_eq_true rfl), (Nat.le_of_ble_eq_true rfl)⟩ (Nat.le_of_ble_eq_true rfl) ⟨rfl, rfl⟩ (ct_at _ 49 32 _ _ rfl (by decide)) ?_
        refine J_aload_n (nx := 136) dX2_holds_135 rfl rfl ?_
        refine J_iload (nx := 138) dX2_holds_136 rfl rfl ?_
        refine J_iconst (nx := 139) (i := 1) (v := 1) (by decide) dX2_holds_138 rfl ?_
        refine J_iadd (nx := 140) dX2_holds_139 rfl ?_
        refine JcS2 (R' := rm 0 0 0) (nx := 143) dX2_holds_140 rfl ml_X6_at lk_X2_38 st_X6_at ⟨(Nat.le_of_ble_eq_true rfl), (Nat.le_of_ble_eq_true rfl)⟩ (Nat.le_of_ble_eq_true rfl) ⟨rfl, rfl⟩ (ct_at _ 49 32 _ _ rfl (by decide)) ?_
        refine JcS3 (R' := rm 0 0 0) (nx := 146) dX2_holds_143 rfl ml_X2_joined lk_X2_46 st_X2_joined ⟨(Nat.le_of_ble_eq_true rfl), (Nat.le_of_ble_eq_true rfl)⟩ (Nat.le_of_ble_eq_true rfl) ⟨rfl, rfl⟩ (ct_X2_joined _ _ _ _) ?_
        refine JcS3 (R' := rm 0 0 0) (nx := 149) dX2_holds_146 rfl ml_X6_put lk_X2_42 st_X6_put ⟨(Nat.le_of_ble_eq_true rfl), (Nat.le_of_ble_eq_true rfl)⟩ (Nat.le_of_ble_eq_true rfl) ⟨rfl, rfl⟩ (ct_put _ 49 32 _ _ rfl (fun _ => rfl) (by decide)) ?_
        refine J_iinc (nx := 152) dX2_holds_149 rfl rfl rfl (Nat.le_of_ble_eq_true rfl) ?_
        refine J_goto (nx := 35) dX2_holds_152 (by decide) ?_
        have hm := inc_toInt c_39
        have h1 : i.toInt < e.toInt := by rw [Int32.le_iff_toInt_le] at c_39; omega
        obtain ⟨k, rfl⟩ : ∃ k', k = k' + 1 := ⟨k - 1, by omega⟩
        refine ih k (by omega) (i + Int32.ofInt 1) _ _ r g2 _ hc (by omega) ?_ ?_
        · rw [hg, sA_sA]
          refine congrArg (fun q => sA g 49 (hdRun cd (gA g 48) k (i + Int32.ofInt 1) q).2) ?_
          (rw [gA_sA]; unfold hdStep cd_cl; first | (rw [if_neg c_58, if_pos c_72]) | (rw [if_neg c_58, if_neg c_72]) | (rw [if_pos c_58, if_pos c_101]) | (rw [if_pos c_58, if_neg (fun z => z c_101)]))
        · rw [hr]
          refine congrArg (fun q => bI (decide (e ≤ b) || !decide (rAt 32 (hdRun cd (gA g 48) k (i + Int32.ofInt 1) q).2 0 = 0))) ?_
          (rw [gA_sA]; unfold hdStep cd_cl; first | (rw [if_neg c_58, if_pos c_72]) | (rw [if_neg c_58, if_neg c_72]) | (rw [if_pos c_58, if_pos c_101]) | (rw [if_pos c_58, if_neg (fun z => z c_101)]))
      · refine J_aload_n (nx := 105) dX2_holds_104 rfl rfl ?_
        refine J_iload (nx := 107) dX2_holds_105 rfl rfl ?_
        refine J_iconst (nx := 108) (i := 1) (v := 1) (by decide) dX2_holds_107 rfl ?_
        refine J_aload_n (nx := 109) dX2_holds_108 rfl rfl ?_
        refine J_iload (nx := 111) dX2_holds_109 rfl rfl ?_
        refine JcS2 (R' := rm 0 0 0) (nx := 114) dX2_holds_111 rfl ml_X6_at lk_X2_38 st_X6_at ⟨(Nat.le_of_ble_eq_true rfl), (Nat.le_of_ble_eq_true rfl)⟩ (Nat.le_of_ble_eq_true rfl) ⟨rfl, rfl⟩ (ct_at _ 49 32 _ _ rfl (by decide)) ?_
        refine J_isub (nx := 115) dX2_holds_114 rfl ?_
        refine JcS3 (R' := rm 0 0 0) (nx := 118) dX2_holds_115 rfl ml_X6_put lk_X2_42 st_X6_put ⟨(Nat.le_of_ble_eq_true rfl), (Nat.le_of_ble_eq_true rfl)⟩ (Nat.le_of_ble_eq_true rfl) ⟨rfl, rfl⟩ (ct_put _ 49 32 _ _ rfl (fun _ => rfl) (by decide)) ?_
        refine J_goto (nx := 149) dX2_holds_118 (by decide) ?_
        refine J_iinc (nx := 152) dX2_holds_149 rfl rfl rfl (Nat.le_of_ble_eq_true rfl) ?_
        refine J_goto (nx := 35) dX2_holds_152 (by decide) ?_
        have hm := inc_toInt c_39
        have h1 : i.toInt < e.toInt := by rw [Int32.le_iff_toInt_le] at c_39; omega
        obtain ⟨k, rfl⟩ : ∃ k', k = k' + 1 := ⟨k - 1, by omega⟩
        refine ih k (by omega) (i + Int32.ofInt 1) _ _ r g2 _ hc (by omega) ?_ ?_
        · rw [hg, sA_sA]
          refine congrArg (fun q => sA g 49 (hdRun cd (gA g 48) k (i + Int32.ofInt 1) q).2) ?_
          (rw [gA_sA]; unfold hdStep cd_cl; first | (rw [if_neg c_58, if_pos c_72]) | (rw [if_neg c_58, if_neg c_72]) | (rw [if_pos c_58, if_pos c_101]) | (rw [if_pos c_58, if_neg (fun z => z c_101)]))
        · rw [hr]
          refine congrArg (fun q => bI (decide (e ≤ b) || !decide (rAt 32 (hdRun cd (gA g 48) k (i + Int32.ofInt 1) q).2 0 = 0))) ?_
          (rw [gA_sA]; unfold hdStep cd_cl; first | (rw [if_neg c_58, if_pos c_72]) | (rw [if_neg c_58, if_neg c_72]) | (rw [if_pos c_58, if_pos c_101]) | (rw [if_pos c_58, if_neg (fun z => z c_101)]))
    · refine J_iinc (nx := 64) dX2_holds_61 rfl rfl rfl (Nat.le_of_ble_eq_true rfl) ?_
      refine J_aload_n (nx := 65) dX2_holds_64 rfl rfl ?_
      refine J_iload (nx := 67) dX2_holds_65 rfl rfl ?_
      refine J_iload (nx := 69) dX2_holds_67 rfl rfl ?_
      refine J_sipush (nx := 72) (i := 10000) (v := 10000) (by decide) dX2_holds_69 rfl ?_
      refine J_icmp_ge (nx := 75) (tgt := 80) dX2_holds_72 rfl (by decide) (fun c_72 => ?_) (fun c_72 => ?_)
      · refine J_aload_n (nx := 81) dX2_holds_80 rfl rfl ?_
        refine J_iload (nx := 83) dX2_holds_81 rfl rfl ?_
        refine J_sipush (nx := 86) (i := 10000) (v := 10000) (by decide) dX2_holds_83 rfl ?_
        refine J_isub (nx := 87) dX2_holds_86 rfl ?_
        refine JcS2 (R' := rm 0 0 0) (nx := 90) dX2_holds_87 rfl ml_X6_at lk_X2_38 st_X6_at ⟨(Nat.le_of_ble_eq_true rfl), (Nat.le_of_ble_eq_true rfl)⟩ (Nat.le_of_ble_eq_true rfl) ⟨rfl, rfl⟩ (ct_at _ 48 8 _ _ rfl (by decide)) ?_
        refine JcS3 (R' := rm 0 0 0) (nx := 93) dX2_holds_90 rfl ml_X6_put lk_X2_42 st_X6_put ⟨(Nat.le_of_ble_eq_true rfl), (Nat.le_of_ble_eq_true rfl)⟩ (Nat.le_of_ble_eq_true rfl) ⟨rfl, rfl⟩ (ct_put _ 49 32 _ _ rfl (fun _ => rfl) (by decide)) ?_
        refine J_goto (nx := 149) dX2_holds_93 (by decide) ?_
        refine J_iinc (nx := 152) dX2_holds_149 rfl rfl rfl (Nat.le_of_ble_eq_true rfl) ?_
        refine J_goto (nx := 35) dX2_holds_152 (by decide) ?_
        have hm := inc_toInt c_39
        have h1 : i.toInt < e.toInt := by rw [Int32.le_iff_toInt_le] at c_39; omega
        obtain ⟨k, rfl⟩ : ∃ k', k = k' + 1 := ⟨k - 1, by omega⟩
        refine ih k (by omega) (i + Int32.ofInt 1) _ _ r g2 _ hc (by omega) ?_ ?_
        · rw [hg, sA_sA]
          refine congrArg (fun q => sA g 49 (hdRun cd (gA g 48) k (i + Int32.ofInt 1) q).2) ?_
          (rw [gA_sA]; unfold hdStep cd_cl; first | (rw [if_neg c_58, if_pos c_72]) | (rw [if_neg c_58, if_neg c_72]) | (rw [if_pos c_58, if_pos c_101]) | (rw [if_pos c_58, if_neg (fun z => z c_101)]))
        · rw [hr]
          refine congrArg (fun q => bI (decide (e ≤ b) || !decide (rAt 32 (hdRun cd (gA g 48) k (i + Int32.ofInt 1) q).2 0 = 0))) ?_
          (rw [gA_sA]; unfold hdStep cd_cl; first | (rw [if_neg c_58, if_pos c_72]) | (rw [if_neg c_58, if_neg c_72]) | (rw [if_pos c_58, if_pos c_101]) | (rw [if_pos c_58, if_neg (fun z => z c_101)]))
      · refine J_iload (nx := 77) dX2_holds_75 rfl rfl ?_
        refine J_goto (nx := 90) dX2_holds_77 (by decide) ?_
        refine JcS3 (R' := rm 0 0 0) (nx := 93) dX2_holds_90 rfl ml_X6_put lk_X2_42 st_X6_put ⟨(Nat.le_of_ble_eq_true rfl), (Nat.le_of_ble_eq_true rfl)⟩ (Nat.le_of_ble_eq_true rfl) ⟨rfl, rfl⟩ (ct_put _ 49 32 _ _ rfl (fun _ => rfl) (by decide)) ?_
        refine J_goto (nx := 149) dX2_holds_93 (by decide) ?_
        refine J_iinc (nx := 152) dX2_holds_149 rfl rfl rfl (Nat.le_of_ble_eq_true rfl) ?_
        refine J_goto (nx := 35) dX2_holds_152 (by decide) ?_
        have hm := inc_toInt c_39
        have h1 : i.toInt < e.toInt := by rw [Int32.le_iff_toInt_le] at c_39; omega
        obtain ⟨k, rfl⟩ : ∃ k', k = k' + 1 := ⟨k - 1, by omega⟩
        refine ih k (by omega) (i + Int32.ofInt 1) _ _ r g2 _ hc (by omega) ?_ ?_
        · rw [hg, sA_sA]
          refine congrArg (fun q => sA g 49 (hdRun cd (gA g 48) k (i + Int32.ofInt 1) q).2) ?_
          (rw [gA_sA]; unfold hdStep cd_cl; first | (rw [if_neg c_58, if_pos c_72]) | (rw [if_neg c_58, if_neg c_72]) | (rw [if_pos c_58, if_pos c_101]) | (rw [if_pos c_58, if_neg (fun z => z c_101)]))
        · rw [hr]
          refine congrArg (fun q => bI (decide (e ≤ b) || !decide (rAt 32 (hdRun cd (gA g 48) k (i + Int32.ofInt 1) q).2 0 = 0))) ?_
          (rw [gA_sA]; unfold hdStep cd_cl; first | (rw [if_neg c_58, if_pos c_72]) | (rw [if_neg c_58, if_neg c_72]) | (rw [if_pos c_58, if_pos c_101]) | (rw [if_pos c_58, if_neg (fun z => z c_101)]))
set_option maxRecDepth 100000 in
set_option maxHeartbeats 4000000 in
theorem ct_X2_holds (g : GS) (c : Nat) (cd : CD) (line : Int32) (hc : CodeT (gT g) c cd) : Ct mX2_holds (rm 1 0 0) [.ref c, .int line, .ref 48, .ref 49] (Wd g) (RR (.inl (some (.int (bI (cdH cd (gA g 48) (gA g 49) line))))) (sA g 49 (cdS cd (gA g 48) (gA g 49) line))) := by
  refine Ct.of (by decide +kernel) (Nat.le_of_ble_eq_true rfl) ?_
  show J _ _ _ _ 0 [some (.ref c), some (.int line), some (.ref 48), some (.ref 49), none, none, none, none, none] [] _ 0 0
  refine J_aload_n (nx := 1) dX2_holds_0 rfl rfl ?_
  refine J_get (nx := 4) dX2_holds_1 rfl fl_X2_21 (hc.oo rfl) rfl ?_
  refine J_iconst (nx := 5) (i := 4) (v := 4) (by decide) dX2_holds_4 rfl ?_
  refine J_iload_n (nx := 6) dX2_holds_5 rfl rfl ?_
  refine J_imul (nx := 7) dX2_holds_6 rfl ?_
  refine J_iconst (nx := 8) (i := 2) (v := 2) (by decide) dX2_holds_7 rfl ?_
  refine J_iadd (nx := 9) dX2_holds_8 rfl ?_
  refine JcS2 (R' := rm 0 0 0) (nx := 12) dX2_holds_9 rfl ml_X6_at lk_X2_38 st_X6_at ⟨(Nat.le_of_ble_eq_true rfl), (Nat.le_of_ble_eq_true rfl)⟩ (Nat.le_of_ble_eq_true rfl) ⟨rfl, rfl⟩ (ct_at _ (c + 1) _ _ _ (hc.hh rfl) hc.2.2.2.2.2.1) ?_
  refine J_istore (nx := 14) dX2_holds_12 rfl rfl (Nat.le_of_ble_eq_true rfl) ?_
  refine J_aload_n (nx := 15) dX2_holds_14 rfl rfl ?_
  refine J_get (nx := 18) dX2_holds_15 rfl fl_X2_21 (hc.oo rfl) rfl ?_
  refine J_iconst (nx := 19) (i := 4) (v := 4) (by decide) dX2_holds_18 rfl ?_
  refine J_iload_n (nx := 20) dX2_holds_19 rfl rfl ?_
  refine J_imul (nx := 21) dX2_holds_20 rfl ?_
  refine J_iconst (nx := 22) (i := 3) (v := 3) (by decide) dX2_holds_21 rfl ?_
  refine J_iadd (nx := 23) dX2_holds_22 rfl ?_
  refine JcS2 (R' := rm 0 0 0) (nx := 26) dX2_holds_23 rfl ml_X6_at lk_X2_38 st_X6_at ⟨(Nat.le_of_ble_eq_true rfl), (Nat.le_of_ble_eq_true rfl)⟩ (Nat.le_of_ble_eq_true rfl) ⟨rfl, rfl⟩ (ct_at _ (c + 1) _ _ _ (hc.hh rfl) hc.2.2.2.2.2.1) ?_
  refine J_istore (nx := 28) dX2_holds_26 rfl rfl (Nat.le_of_ble_eq_true rfl) ?_
  refine J_iconst (nx := 29) (i := -1) (v := -1) (by decide) dX2_holds_28 rfl ?_
  refine J_istore (nx := 31) dX2_holds_29 rfl rfl (Nat.le_of_ble_eq_true rfl) ?_
  refine J_iload (nx := 33) dX2_holds_31 rfl rfl ?_
  refine J_istore (nx := 35) dX2_holds_33 rfl rfl (Nat.le_of_ble_eq_true rfl) ?_
  exact lp_X2_holds c cd line (cd_hd cd (4 * line + 2)) (cd_hd cd (4 * line + 3)) _ (hdN cd line) (cd_hd cd (4 * line + 2)) (-1) g _ _ none hc rfl rfl rfl

