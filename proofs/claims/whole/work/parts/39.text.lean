
/-! Text: what a step of reading leaves, and where it stands -/
def fC (c k : Nat) : Bool := fN c k || (Nat.beq c 7 && (Nat.beq k 4 || Nat.beq k 7))
def aC (c : Nat) : Bool := Nat.beq c 19
theorem or_ff {a b : Bool} (h : (a || b) = false) : a = false := by cases a with | false => rfl | true => cases h
theorem fr_NC {g g' : GS} (h : Fr fN aN g g') : Fr fC aC g g' := h.mono (fun _ _ e => or_ff e) (fun _ _ => rfl)
def TS (o : Ob) (rl : Bool) (g : GS) (b : Nat) (cs : List Int32) : Prop := Cur o g b ∧ gF g 7 6 = bI rl ∧ gF g 7 4 = nI cs.length ∧ (∀ i, i < cs.length → gA g 19 i = cs.getD i 0) ∧ gF g 7 7 = -1
theorem TS.num {o : Ob} {rl : Bool} {g : GS} {b : Nat} {cs : List Int32} (h : TS o rl g b cs) : gF g 1 9 = oNum o b := h.1.2.2.2.1
theorem TS.sgn {o : Ob} {rl : Bool} {g : GS} {b : Nat} {cs : List Int32} (h : TS o rl g b cs) : gF g 1 10 = oSgn o b := h.1.2.2.2.2.1
theorem TS.wrd {o : Ob} {rl : Bool} {g : GS} {b : Nat} {cs : List Int32} (h : TS o rl g b cs) : gV g 1 11 = .ref (CST + oWrd o b) := h.1.2.2.2.2.2
theorem TS.beg {o : Ob} {rl : Bool} {g : GS} {b : Nat} {cs : List Int32} (h : TS o rl g b cs) : gF g 1 8 = nI b := h.1.2.2.1
theorem TS.rul {o : Ob} {rl : Bool} {g : GS} {b : Nat} {cs : List Int32} (h : TS o rl g b cs) : gF g 7 6 = bI rl := h.2.1
theorem TS.siz {o : Ob} {rl : Bool} {g : GS} {b : Nat} {cs : List Int32} (h : TS o rl g b cs) : gF g 7 4 = nI cs.length := h.2.2.1
theorem TS.next {o : Ob} {rl : Bool} {g : GS} {b : Nat} {cs : List Int32} (ho : ObOK o) (h : TS o rl g b cs) (hb : b < oN o) : NXOK g ∧ Fr fC aC g (nxG g) ∧ TS o rl (nxG g) (oNxt o b) cs := by
  have h1 := h.1.next ho hb
  have hf := nx_fr g
  exact ⟨h1.1, fr_NC hf, h1.2, (hf.1 7 6 rfl).trans h.2.1, (hf.1 7 4 rfl).trans h.2.2.1, fun i hi => by rw [hf.2.1 19 rfl]; exact h.2.2.2.1 i hi, (hf.1 7 7 rfl).trans h.2.2.2.2⟩
def acG (g : GS) (x : Int32) (k : Nat) : GS := sF (sA g 19 (upd (gA g 19) k x)) 7 4 (nI (k + 1))
theorem acG_fr (g : GS) (x : Int32) (k : Nat) : Fr fC aC g (acG g x k) := (Fr.rf.sA rfl).sF rfl
theorem acG_ap {o : Ob} {rl : Bool} {g : GS} {b : Nat} {cs : List Int32} (h : TS o rl g b cs) (x : Int32) : TS o rl (acG g x cs.length) b (cs ++ [x]) := by
  refine ⟨h.1, h.2.1, ?_, fun i hi => ?_, h.2.2.2.2⟩
  · rw [List.length_append, List.length_singleton]; rfl
  · rw [List.length_append, List.length_singleton] at hi
    show upd (gA g 19) cs.length x i = _
    unfold upd
    by_cases h1 : i = cs.length
    · rw [if_pos h1, h1]
      simp [List.getD]
    · rw [if_neg h1, h.2.2.2.1 i (by omega)]
      have : i < cs.length := by omega
      simp [List.getD, List.getElem?_append_left this]
def wrG (g : GS) : GS := sF g 7 7 (gF g 1 8)
theorem wrG_fr (g : GS) : Fr fC aC g (wrG g) := Fr.rf.sF rfl
def PP (o : Ob) (rl : Bool) (g : GS) (r : PR) (x : Int32) (g' : GS) : Prop := Fr fC aC g g' ∧ (match r with
  | .inl e => x = 0 ∧ gF g' 7 7 = nI e
  | .inr q => x = 1 ∧ TS o rl g' q.1 q.2)
theorem PP.no {o : Ob} {rl : Bool} {g0 g : GS} {b : Nat} {cs : List Int32} {r : PR} (hf : Fr fC aC g0 g) (h : TS o rl g b cs) (hr : r = .inl b) : PP o rl g0 r 0 (wrG g) := by
  subst hr
  exact ⟨hf.tr (wrG_fr g), rfl, h.beg⟩
theorem PP.yes {o : Ob} {rl : Bool} {g0 g : GS} {b : Nat} {cs : List Int32} {r : PR} (hf : Fr fC aC g0 g) (h : TS o rl g b cs) (hr : r = .inr (b, cs)) : PP o rl g0 r 1 g := by
  subst hr
  exact ⟨hf, rfl, h⟩
/-- a part has failed: so has the whole -/
theorem PP.fail {o : Ob} {rl : Bool} {g0 g g' : GS} {r r1 : PR} {x : Int32} (hf : Fr fC aC g0 g) (hp : PP o rl g r1 x g') (hx : x = 0) (hr : ∀ e, r1 = .inl e → r = .inl e) : PP o rl g0 r 0 g' := by
  obtain ⟨h1, h2⟩ := hp
  cases r1 with
  | inl e => rw [hr e rfl]; exact ⟨hf.tr h1, rfl, h2.2⟩
  | inr q => exact absurd (h2.1.symm.trans hx) (by decide)
theorem PP.goes {o : Ob} {rl : Bool} {g g' : GS} {r1 : PR} {x : Int32} (hp : PP o rl g r1 x g') (hx : ¬ x = 0) : ∃ q, r1 = .inr q ∧ TS o rl g' q.1 q.2 := by
  obtain ⟨h1, h2⟩ := hp
  cases r1 with
  | inl e => exact absurd h2.1 hx
  | inr q => exact ⟨q, rfl, h2.2⟩

set_option maxRecDepth 100000 in
set_option maxHeartbeats 4000000 in
theorem ct_wrong (g : GS) : Ct mX8_wrong (rm 0 0 0) [.ref 7] (Wd g) (RR (.inl (some (.int 0))) (wrG g)) := by
  refine Ct.of (by decide +kernel) (Nat.le_of_ble_eq_true rfl) ?_
  show J _ _ _ _ 0 [some (.ref 7)] [] _ 0 0
  refine J_aload_n (nx := 1) dX8_wrong_0 rfl rfl ?_
  refine J_aload_n (nx := 2) dX8_wrong_1 rfl rfl ?_
  refine Jg_7_0 (nx := 5) dX8_wrong_2 rfl fl_X8_31 ?_
  refine Jg_1_8 (nx := 8) dX8_wrong_5 rfl fl_X8_85 ?_
  refine Jp_7_7 (nx := 11) dX8_wrong_8 rfl fl_X8_27 ?_
  refine J_iconst (nx := 12) (i := 0) (v := 0) (by decide) dX8_wrong_11 rfl ?_
  exact Jrz dX8_wrong_12 rfl (by decide) (Nat.zero_le _) (Nat.zero_le _) ⟨rfl, rfl⟩

theorem ct_nextx (o : Ob) (ho : ObOK o) (rl : Bool) (g : GS) (b : Nat) (cs : List Int32) (h : TS o rl g b cs) (hb : b < oN o) : Ct mX7_next (rm 0 0 0) [.ref 1] (Wd g) (RXv (fun g' => Fr fC aC g g' ∧ TS o rl g' (oNxt o b) cs)) := (ct_next g (h.next ho hb).1).imp (fun r es q => ⟨nxG g, q.1, q.2, (h.next ho hb).2⟩)
set_option maxRecDepth 100000 in
set_option maxHeartbeats 4000000 in
theorem ct_addCell (g : GS) (x : Int32) (k : Nat) (hk : gF g 7 4 = nI k) (h : k < 400) : Ct mX8_addCell (rm 0 0 0) [.ref 7, .int x] (Wd g) (RR (.inl none) (acG g x k)) := by
  refine Ct.of (by decide +kernel) (Nat.le_of_ble_eq_true rfl) ?_
  show J _ _ _ _ 0 [some (.ref 7), some (.int x)] [] _ 0 0
  refine J_aload_n (nx := 1) dX8_addCell_0 rfl rfl ?_
  refine Jg_7_4 (nx := 4) dX8_addCell_1 rfl fl_X8_56 ?_
  refine J_if_lt (nx := 7) (tgt := 39) dX8_addCell_4 rfl (by decide) (fun c_4 => ?_) (fun c_4 => ?_)
  · exact absurd (show nI k < 0 from hk ▸ c_4) (nI_pos (by omega))
  · refine J_aload_n (nx := 8) dX8_addCell_7 rfl rfl ?_
    refine Jg_7_4 (nx := 11) dX8_addCell_8 rfl fl_X8_56 ?_
    refine J_aload_n (nx := 12) dX8_addCell_11 rfl rfl ?_
    refine Jg_7_3 (nx := 15) dX8_addCell_12 rfl fl_X8_24 ?_
    refine Jn_19 (nx := 16) dX8_addCell_15 rfl ?_
    refine J_icmp_ge (nx := 19) (tgt := 39) dX8_addCell_16 rfl (by decide) (fun c_16 => ?_) (fun c_16 => ?_)
    · exact absurd (show nI 400 ≤ nI k from hk ▸ c_16) (nlt_nI h (by decide))
    · refine J_aload_n (nx := 20) dX8_addCell_19 rfl rfl ?_
      refine Jg_7_3 (nx := 23) dX8_addCell_20 rfl fl_X8_24 ?_
      refine J_aload_n (nx := 24) dX8_addCell_23 rfl rfl ?_
      refine Jg_7_4 (nx := 27) dX8_addCell_24 rfl fl_X8_56 ?_
      refine J_iload_n (nx := 28) dX8_addCell_27 rfl rfl ?_
      refine Jt_19 (nx := 29) dX8_addCell_28 rfl (by rw [hk]; exact vp_in_nI h (by decide)) ?_
      refine J_aload_n (nx := 30) dX8_addCell_29 rfl rfl ?_
      refine J_dup (nx := 31) rfl dX8_addCell_30 rfl ?_
      refine Jg_7_4 (nx := 34) dX8_addCell_31 rfl fl_X8_56 ?_
      refine J_iconst (nx := 35) (i := 1) (v := 1) (by decide) dX8_addCell_34 rfl ?_
      refine J_iadd (nx := 36) dX8_addCell_35 rfl ?_
      refine Jp_7_4 (nx := 39) dX8_addCell_36 rfl fl_X8_56 ?_
      exact Jrv dX8_addCell_39 rfl (Nat.zero_le _) (Nat.zero_le _) ⟨rfl, by show _ = Wd (acG g x k); unfold acG; rw [hk, nI_clamp (by omega)]; show Wd (sF _ 7 4 (gF g 7 4 + 1)) = _; rw [hk, nI_1]⟩

theorem ct_addx (o : Ob) (rl : Bool) (g : GS) (b : Nat) (cs : List Int32) (x : Int32) (h : TS o rl g b cs) (hl : cs.length < 400) : Ct mX8_addCell (rm 0 0 0) [.ref 7, .int x] (Wd g) (RXv (fun g' => Fr fC aC g g' ∧ TS o rl g' b (cs ++ [x]))) := (ct_addCell g x cs.length h.siz hl).imp (fun r es q => ⟨_, q.1, q.2, acG_fr _ _ _, acG_ap h x⟩)
set_option maxRecDepth 100000 in
set_option maxHeartbeats 4000000 in
theorem ct_factHere (o : Ob) (ho : ObOK o) (rl : Bool) (g : GS) (b : Nat) (cs : List Int32) (h : TS o rl g b cs) : Ct mX8_factHere (rm 0 0 0) [.ref 7] (Wd g) (RR (.inl (some (.int (pFact o rl b)))) g) := by
  refine Ct.of (by decide +kernel) (Nat.le_of_ble_eq_true rfl) ?_
  show J _ _ _ _ 0 [some (.ref 7), none] [] _ 0 0
  refine J_aload_n (nx := 1) dX8_factHere_0 rfl rfl ?_
  refine Jg_7_0 (nx := 4) dX8_factHere_1 rfl fl_X8_31 ?_
  refine Jg_1_11 (nx := 7) dX8_factHere_4 rfl fl_X8_88 ?_
  rw [h.wrd]
  refine J_wfact (nx := 10) (j := (oWrd o b)) dX8_factHere_7 rfl (ho.2.2.2.1 _) gf_X8_212 ?_
  refine J_istore_n (nx := 11) dX8_factHere_10 rfl rfl (Nat.le_of_ble_eq_true rfl) ?_
  refine J_aload_n (nx := 12) dX8_factHere_11 rfl rfl ?_
  refine Jg_7_6 (nx := 15) dX8_factHere_12 rfl fl_X8_62 ?_
  rw [h.rul]
  refine J_if_ne (nx := 18) (tgt := 23) dX8_factHere_15 rfl (by decide) (fun c_15 => ?_) (fun c_15 => ?_)
  · refine J_iload_n (nx := 24) dX8_factHere_23 rfl rfl ?_
    refine J_goto (nx := 28) dX8_factHere_24 (by decide) ?_
    exact Jri dX8_factHere_28 rfl (Nat.zero_le _) (Nat.zero_le _) (RR.i (by unfold pFact; first | rw [if_neg c_15] | rw [if_pos c_15, if_neg c_20] | rw [if_pos c_15, if_pos c_20] | rw [if_pos c_15, if_neg c_20] | rw [if_pos c_15, if_pos c_20]) rfl)
  · refine J_iload_n (nx := 19) dX8_factHere_18 rfl rfl ?_
    refine J_iconst (nx := 20) (i := 4) (v := 4) (by decide) dX8_factHere_19 rfl ?_
    refine J_icmp_lt (nx := 23) (tgt := 27) dX8_factHere_20 rfl (by decide) (fun c_20 => ?_) (fun c_20 => ?_)
    · refine J_iconst (nx := 28) (i := -1) (v := -1) (by decide) dX8_factHere_27 rfl ?_
      exact Jri dX8_factHere_28 rfl (Nat.zero_le _) (Nat.zero_le _) (RR.i (by unfold pFact; first | rw [if_neg c_15] | rw [if_pos c_15, if_neg c_20] | rw [if_pos c_15, if_pos c_20] | rw [if_pos c_15, if_neg c_20] | rw [if_pos c_15, if_pos c_20]) rfl)
    · refine J_iload_n (nx := 24) dX8_factHere_23 rfl rfl ?_
      refine J_goto (nx := 28) dX8_factHere_24 (by decide) ?_
      exact Jri dX8_factHere_28 rfl (Nat.zero_le _) (Nat.zero_le _) (RR.i (by unfold pFact; first | rw [if_neg c_15] | rw [if_pos c_15, if_neg c_20] | rw [if_pos c_15, if_pos c_20] | rw [if_pos c_15, if_neg c_20] | rw [if_pos c_15, if_pos c_20]) rfl)

set_option maxRecDepth 100000 in
set_option maxHeartbeats 4000000 in
theorem ct_takeSign (o : Ob) (ho : ObOK o) (rl : Bool) (g : GS) (b : Nat) (cs : List Int32) (h : TS o rl g b cs) (x : Int32) (hc : ¬ x = 0) : Ct mX8_takeSign (rm 1 0 0) [.ref 7, .int x] (Wd g) (RXi (PP o rl g (if oSgn o b = x then .inr (oNxt o b, cs) else .inl b))) := by
  refine Ct.of (by decide +kernel) (Nat.le_of_ble_eq_true rfl) ?_
  show J _ _ _ _ 0 [some (.ref 7), some (.int x)] [] _ 0 0
  refine J_aload_n (nx := 1) dX8_takeSign_0 rfl rfl ?_
  refine Jg_7_0 (nx := 4) dX8_takeSign_1 rfl fl_X8_31 ?_
  refine Jg_1_10 (nx := 7) dX8_takeSign_4 rfl fl_X8_95 ?_
  refine J_iload_n (nx := 8) dX8_takeSign_7 rfl rfl ?_
  refine J_icmp_eq (nx := 11) (tgt := 16) dX8_takeSign_8 rfl (by decide) (fun c_8 => ?_) (fun c_8 => ?_)
  · refine J_aload_n (nx := 17) dX8_takeSign_16 rfl rfl ?_
    refine Jg_7_0 (nx := 20) dX8_takeSign_17 rfl fl_X8_31 ?_
    refine JvV0 (R' := rm (0) 0 0) (nx := 23) dX8_takeSign_20 rfl ml_X7_next lk_X8_92 iv_X7_next rfl rfl ⟨(Nat.le_of_ble_eq_true rfl), (Nat.le_of_ble_eq_true rfl)⟩ (Nat.le_of_ble_eq_true rfl) ⟨rfl, rfl⟩ (ct_nextx o ho rl g b cs h (ho.sgn (h.sgn.symm.trans c_8) hc)) (fun g_20 p_20 => ?_)
    refine J_iconst (nx := 24) (i := 1) (v := 1) (by decide) dX8_takeSign_23 rfl ?_
    exact Jrz dX8_takeSign_24 rfl (by decide) (Nat.zero_le _) (Nat.zero_le _) (RXi.of (PP.yes p_20.1 p_20.2 (if_pos (h.sgn.symm.trans c_8))))
  · refine J_aload_n (nx := 12) dX8_takeSign_11 rfl rfl ?_
    refine JcV0 (R' := rm (0) 0 0) (nx := 15) dX8_takeSign_12 rfl ml_X8_wrong lk_X8_47 iv_X8_wrong rfl rfl ⟨(Nat.le_of_ble_eq_true rfl), (Nat.le_of_ble_eq_true rfl)⟩ (Nat.le_of_ble_eq_true rfl) ⟨rfl, rfl⟩ (ct_wrong _) ?_
    exact Jrz dX8_takeSign_15 rfl (by decide) (Nat.zero_le _) (Nat.zero_le _) (RXi.of (PP.no Fr.rf h (if_neg (fun z => c_8 (h.sgn.trans z)))))

set_option maxRecDepth 100000 in
set_option maxHeartbeats 4000000 in
theorem ct_takeWord (o : Ob) (ho : ObOK o) (rl : Bool) (g : GS) (b : Nat) (cs : List Int32) (h : TS o rl g b cs) (j : Nat) (hj : j < 23) (hj0 : ¬ j = 0) : Ct mX8_takeWord (rm 1 0 0) [.ref 7, .ref (CST + j)] (Wd g) (RXi (PP o rl g (if oWrd o b = j then .inr (oNxt o b, cs) else .inl b))) := by
  refine Ct.of (by decide +kernel) (Nat.le_of_ble_eq_true rfl) ?_
  show J _ _ _ _ 0 [some (.ref 7), some (.ref (CST + j))] [] _ 0 0
  refine J_aload_n (nx := 1) dX8_takeWord_0 rfl rfl ?_
  refine Jg_7_0 (nx := 4) dX8_takeWord_1 rfl fl_X8_31 ?_
  refine Jg_1_11 (nx := 7) dX8_takeWord_4 rfl fl_X8_88 ?_
  rw [h.wrd]
  refine J_aload_n (nx := 8) dX8_takeWord_7 rfl rfl ?_
  refine J_acmp_eq (nx := 11) (i := (oWrd o b)) (j := j) (tgt := 16) dX8_takeWord_8 rfl (by decide) (ho.2.2.2.1 _) hj (fun c_8 => ?_) (fun c_8 => ?_)
  · refine J_aload_n (nx := 17) dX8_takeWord_16 rfl rfl ?_
    refine Jg_7_0 (nx := 20) dX8_takeWord_17 rfl fl_X8_31 ?_
    refine JvV0 (R' := rm (0) 0 0) (nx := 23) dX8_takeWord_20 rfl ml_X7_next lk_X8_92 iv_X7_next rfl rfl ⟨(Nat.le_of_ble_eq_true rfl), (Nat.le_of_ble_eq_true rfl)⟩ (Nat.le_of_ble_eq_true rfl) ⟨rfl, rfl⟩ (ct_nextx o ho rl g b cs h (ho.wrd c_8 hj0)) (fun g_20 p_20 => ?_)
    refine J_iconst (nx := 24) (i := 1) (v := 1) (by decide) dX8_takeWord_23 rfl ?_
    exact Jrz dX8_takeWord_24 rfl (by decide) (Nat.zero_le _) (Nat.zero_le _) (RXi.of (PP.yes p_20.1 p_20.2 (if_pos c_8)))
  · refine J_aload_n (nx := 12) dX8_takeWord_11 rfl rfl ?_
    refine JcV0 (R' := rm (0) 0 0) (nx := 15) dX8_takeWord_12 rfl ml_X8_wrong lk_X8_47 iv_X8_wrong rfl rfl ⟨(Nat.le_of_ble_eq_true rfl), (Nat.le_of_ble_eq_true rfl)⟩ (Nat.le_of_ble_eq_true rfl) ⟨rfl, rfl⟩ (ct_wrong _) ?_
    exact Jrz dX8_takeWord_15 rfl (by decide) (Nat.zero_le _) (Nat.zero_le _) (RXi.of (PP.no Fr.rf h (if_neg c_8)))


def tkB (o : Ob) (b : Nat) (most : Int32) : Prop := oNum o b < 0 ∨ most < oNum o b
def PN (o : Ob) (rl : Bool) (g : GS) (b : Nat) (cs : List Int32) (most : Int32) (x : Int32) (g' : GS) : Prop :=
  Fr fC aC g g' ∧ (if oNum o b < 0 then x = -1 ∧ gF g' 7 7 = nI b else if oNum o b ≤ most then x = oNum o b ∧ TS o rl g' (oNxt o b) cs else x = -1 ∧ gF g' 7 7 = nI b)
set_option maxRecDepth 100000 in
set_option maxHeartbeats 4000000 in
theorem ct_takeNumber (o : Ob) (ho : ObOK o) (rl : Bool) (g : GS) (b : Nat) (cs : List Int32) (h : TS o rl g b cs) (most : Int32) : Ct mX8_takeNumber (rm 1 0 0) [.ref 7, .int most] (Wd g) (RXi (PN o rl g b cs most)) := by
  refine Ct.of (by decide +kernel) (Nat.le_of_ble_eq_true rfl) ?_
  show J _ _ _ _ 0 [some (.ref 7), some (.int most), none] [] _ 0 0
  refine J_aload_n (nx := 1) dX8_takeNumber_0 rfl rfl ?_
  refine Jg_7_0 (nx := 4) dX8_takeNumber_1 rfl fl_X8_31 ?_
  refine Jg_1_9 (nx := 7) dX8_takeNumber_4 rfl fl_X8_98 ?_
  rw [h.num]
  refine J_istore_n (nx := 8) dX8_takeNumber_7 rfl rfl (Nat.le_of_ble_eq_true rfl) ?_
  refine J_iload_n (nx := 9) dX8_takeNumber_8 rfl rfl ?_
  refine J_if_lt (nx := 12) (tgt := 17) dX8_takeNumber_9 rfl (by decide) (fun c_9 => ?_) (fun c_9 => ?_)
  · refine J_aload_n (nx := 18) dX8_takeNumber_17 rfl rfl ?_
    refine JcV0 (R' := rm (0) 0 0) (nx := 21) dX8_takeNumber_18 rfl ml_X8_wrong lk_X8_47 iv_X8_wrong rfl rfl ⟨(Nat.le_of_ble_eq_true rfl), (Nat.le_of_ble_eq_true rfl)⟩ (Nat.le_of_ble_eq_true rfl) ⟨rfl, rfl⟩ (ct_wrong _) ?_
    refine J_pop (nx := 22) rfl dX8_takeNumber_21 rfl ?_
    refine J_iconst (nx := 23) (i := -1) (v := -1) (by decide) dX8_takeNumber_22 rfl ?_
    exact Jri dX8_takeNumber_23 rfl (Nat.zero_le _) (Nat.zero_le _) (RXi.of ⟨wrG_fr g, by first | (rw [if_pos c_9]; exact ⟨rfl, h.beg⟩) | (rw [if_neg c_9, if_neg c_14]; exact ⟨rfl, h.beg⟩)⟩)
  · refine J_iload_n (nx := 13) dX8_takeNumber_12 rfl rfl ?_
    refine J_iload_n (nx := 14) dX8_takeNumber_13 rfl rfl ?_
    refine J_icmp_le (nx := 17) (tgt := 24) dX8_takeNumber_14 rfl (by decide) (fun c_14 => ?_) (fun c_14 => ?_)
    · refine J_aload_n (nx := 25) dX8_takeNumber_24 rfl rfl ?_
      refine Jg_7_0 (nx := 28) dX8_takeNumber_25 rfl fl_X8_31 ?_
      refine JvV0 (R' := rm (0) 0 0) (nx := 31) dX8_takeNumber_28 rfl ml_X7_next lk_X8_92 iv_X7_next rfl rfl ⟨(Nat.le_of_ble_eq_true rfl), (Nat.le_of_ble_eq_true rfl)⟩ (Nat.le_of_ble_eq_true rfl) ⟨rfl, rfl⟩ (ct_nextx o ho rl g b cs h (ho.num (fun z => c_9 (z ▸ by decide)))) (fun g_28 p_28 => ?_)
      refine J_iload_n (nx := 32) dX8_takeNumber_31 rfl rfl ?_
      exact Jri dX8_takeNumber_32 rfl (Nat.zero_le _) (Nat.zero_le _) (RXi.of ⟨p_28.1, by rw [if_neg c_9, if_pos c_14]; exact ⟨rfl, p_28.2⟩⟩)
    · refine J_aload_n (nx := 18) dX8_takeNumber_17 rfl rfl ?_
      refine JcV0 (R' := rm (0) 0 0) (nx := 21) dX8_takeNumber_18 rfl ml_X8_wrong lk_X8_47 iv_X8_wrong rfl rfl ⟨(Nat.le_of_ble_eq_true rfl), (Nat.le_of_ble_eq_true rfl)⟩ (Nat.le_of_ble_eq_true rfl) ⟨rfl, rfl⟩ (ct_wrong _) ?_
      refine J_pop (nx := 22) rfl dX8_takeNumber_21 rfl ?_
      refine J_iconst (nx := 23) (i := -1) (v := -1) (by decide) dX8_takeNumber_22 rfl ?_
      exact Jri dX8_takeNumber_23 rfl (Nat.zero_le _) (Nat.zero_le _) (RXi.of ⟨wrG_fr g, by first | (rw [if_pos c_9]; exact ⟨rfl, h.beg⟩) | (rw [if_neg c_9, if_neg c_14]; exact ⟨rfl, h.beg⟩)⟩)


theorem nI_le0 {n : Nat} (hn : n < 2 ^ 31) (h : nI n ≤ 0) : n = 0 := by
  have := (nI_leI hn (by decide)).mp (show nI n ≤ nI 0 from h)
  omega

set_option maxRecDepth 100000 in
set_option maxHeartbeats 4000000 in
theorem sg_sum (o : Ob) (ho : ObOK o) (rl : Bool) (g0 : GS) (k n b : Nat) (cs : List Int32) (r : PR) (g : GS) (hr : r = pSumL o rl (k + 1) n b cs) (hc : ¬ pCell o rl b = -1) (hT : TS o rl g (oNxt o b) (if n = 0 then cs ++ [pCell o rl b] else cs ++ [pCell o rl b] ++ [10010])) (hG : Fr fC aC g0 g) {n0 : Nat} (ih : ∀ (n b : Nat) (cs : List Int32) (g : GS) (r : PR) (l2 l3 : Option Value), k + n = 400 → TS o rl g b cs → Fr fC aC g0 g → cs.length + (if n = 0 then 0 else 1) ≤ b → r = pSumL o rl k n b cs → J mX8_readSum (rm 1 0 0) (RXi (PP o rl g0 r)) n0 2 [some (.ref 7), some (.int (nI n)), l2, l3] [] (Wd g) 0 0) (hkn : (k + 1) + n = 400) (hl : cs.length + (if n = 0 then 0 else 1) ≤ b) {l2 l3 : Option Value} : J mX8_readSum (rm 1 0 0) (RXi (PP o rl g0 r)) n0 68 [some (.ref 7), some (.int (nI n)), l2, l3] [] (Wd g) 0 0 := by
  refine J_aload_n (nx := 69) dX8_readSum_68 rfl rfl ?_
  refine Jg_7_0 (nx := 72) dX8_readSum_69 rfl fl_X8_31 ?_
  refine Jg_1_10 (nx := 75) dX8_readSum_72 rfl fl_X8_95 ?_
  refine J_bipush (nx := 77) (i := 43) (v := 43) (by decide) dX8_readSum_75 rfl ?_
  refine J_icmp_eq (nx := 80) (tgt := 82) dX8_readSum_77 rfl (by decide) (fun c_77 => ?_) (fun c_77 => ?_)
  · refine J_aload_n (nx := 83) dX8_readSum_82 rfl rfl ?_
    refine Jg_7_0 (nx := 86) dX8_readSum_83 rfl fl_X8_31 ?_
    refine JvV0 (R' := rm (0) 0 0) (nx := 89) dX8_readSum_86 rfl ml_X7_next lk_X8_92 iv_X7_next rfl rfl ⟨(Nat.le_of_ble_eq_true rfl), (Nat.le_of_ble_eq_true rfl)⟩ (Nat.le_of_ble_eq_true rfl) ⟨rfl, rfl⟩ (ct_nextx o ho rl g _ _ hT (ho.sgn (hT.sgn.symm.trans c_77) (by decide))) (fun g_86 p_86 => ?_)
    refine J_iinc (nx := 92) dX8_readSum_89 rfl rfl rfl (Nat.le_of_ble_eq_true rfl) ?_
    refine J_goto (nx := 2) dX8_readSum_92 (by decide) ?_
    show J _ _ _ _ 2 [some (.ref 7), some (.int (nI n + Int32.ofInt 1)), _, _] [] _ 0 0
    rw [nI_s]
    have hh := ho.2.1 b (ho.cell hc)
    have hh2 := ho.2.1 _ (ho.sgn (hT.sgn.symm.trans c_77) (by decide))
    refine ih (n + 1) _ _ g_86 r _ _ (by omega) p_86.2 (hG.tr p_86.1) ?_ (hr.trans ((if_neg hc).trans (if_pos (hT.sgn.symm.trans c_77))))
    rw [show (if n + 1 = 0 then 0 else 1) = 1 from if_neg (by omega)]
    by_cases hn : n = 0
    · rw [if_pos hn] at hl ⊢; rw [List.length_append, List.length_singleton]; omega
    · rw [if_neg hn] at hl ⊢; rw [List.length_append, List.length_append, List.length_singleton, List.length_singleton]; omega
  · refine J_iconst (nx := 81) (i := 1) (v := 1) (by decide) dX8_readSum_80 rfl ?_
    exact Jrz dX8_readSum_81 rfl (by decide) (Nat.zero_le _) (Nat.zero_le _) (RXi.of (PP.yes hG hT (hr.trans ((if_neg hc).trans (if_neg (fun z => c_77 (hT.sgn.trans z)))))))

set_option maxRecDepth 100000 in
set_option maxHeartbeats 4000000 in
theorem lp_readSum (o : Ob) (ho : ObOK o) (rl : Bool) (g0 : GS) (n0 : Nat) : ∀ (k : Nat) (n b : Nat) (cs : List Int32) (g : GS) (r : PR) (l2 l3 : Option Value), k + n = 400 → TS o rl g b cs → Fr fC aC g0 g → cs.length + (if n = 0 then 0 else 1) ≤ b → r = pSumL o rl k n b cs → J mX8_readSum (rm 1 0 0) (RXi (PP o rl g0 r)) n0 2 [some (.ref 7), some (.int (nI n)), l2, l3] [] (Wd g) 0 0 := by
  intro k
  induction k with
  | zero =>
    intro n b cs g r l2 l3 hkn h h0 hl hr
    refine J_iload_n (nx := 3) dX8_readSum_2 rfl rfl ?_
    refine J_sipush (nx := 6) (i := 400) (v := 400) (by decide) dX8_readSum_3 rfl ?_
    refine J_icmp_ge (nx := 9) (tgt := 95) dX8_readSum_6 rfl (by decide) (fun c_6 => ?_) (fun c_6 => ?_)
    · refine J_aload_n (nx := 96) dX8_readSum_95 rfl rfl ?_
      refine JcV0 (R' := rm (0) 0 0) (nx := 99) dX8_readSum_96 rfl ml_X8_wrong lk_X8_47 iv_X8_wrong rfl rfl ⟨(Nat.le_of_ble_eq_true rfl), (Nat.le_of_ble_eq_true rfl)⟩ (Nat.le_of_ble_eq_true rfl) ⟨rfl, rfl⟩ (ct_wrong _) ?_
      exact Jrz dX8_readSum_99 rfl (by decide) (Nat.zero_le _) (Nat.zero_le _) (RXi.of (PP.no h0 h hr))
    · exact absurd (show nI 400 ≤ nI n from by rw [show n = 400 by omega]; exact le_self_nI) c_6
  | succ k ih =>
    intro n b cs g r l2 l3 hkn h h0 hl hr
    refine J_iload_n (nx := 3) dX8_readSum_2 rfl rfl ?_
    refine J_sipush (nx := 6) (i := 400) (v := 400) (by decide) dX8_readSum_3 rfl ?_
    refine J_icmp_ge (nx := 9) (tgt := 95) dX8_readSum_6 rfl (by decide) (fun c_6 => ?_) (fun c_6 => ?_)
    · exact absurd c_6 (nlt_nI (n := 400) (by omega) (by omega))
    · refine J_aload_n (nx := 10) dX8_readSum_9 rfl rfl ?_
      refine JcV0 (R' := rm (0) 0 0) (nx := 13) dX8_readSum_10 rfl ml_X8_factHere lk_X8_181 iv_X8_factHere rfl rfl ⟨(Nat.le_of_ble_eq_true rfl), (Nat.le_of_ble_eq_true rfl)⟩ (Nat.le_of_ble_eq_true rfl) ⟨rfl, rfl⟩ (ct_factHere o ho rl g b cs h) ?_
      refine J_istore_n (nx := 14) dX8_readSum_13 rfl rfl (Nat.le_of_ble_eq_true rfl) ?_
      refine J_iload_n (nx := 15) dX8_readSum_14 rfl rfl ?_
      refine J_iconst (nx := 16) (i := -1) (v := -1) (by decide) dX8_readSum_15 rfl ?_
      refine J_icmp_ne (nx := 19) (tgt := 29) dX8_readSum_16 rfl (by decide) (fun c_16 => ?_) (fun c_16 => ?_)
      · refine J_sipush (nx := 32) (i := 10000) (v := 10000) (by decide) dX8_readSum_29 rfl ?_
        refine J_iload_n (nx := 33) dX8_readSum_32 rfl rfl ?_
        refine J_iadd (nx := 34) dX8_readSum_33 rfl ?_
        first
          | rw [show gF g 1 9 = pCell o rl b from h.num.trans (if_pos c_16).symm]
          | rw [show (10000 : Int32) + pFact o rl b = pCell o rl b from (if_neg c_16).symm]
        refine J_istore_n (nx := 35) dX8_readSum_34 rfl rfl (Nat.le_of_ble_eq_true rfl) ?_
        refine J_iload_n (nx := 36) dX8_readSum_35 rfl rfl ?_
        refine J_iconst (nx := 37) (i := -1) (v := -1) (by decide) dX8_readSum_36 rfl ?_
        refine J_icmp_ne (nx := 40) (tgt := 45) dX8_readSum_37 rfl (by decide) (fun c_37 => ?_) (fun c_37 => ?_)
        · refine J_aload_n (nx := 46) dX8_readSum_45 rfl rfl ?_
          refine Jg_7_0 (nx := 49) dX8_readSum_46 rfl fl_X8_31 ?_
          refine JvV0 (R' := rm (0) 0 0) (nx := 52) dX8_readSum_49 rfl ml_X7_next lk_X8_92 iv_X7_next rfl rfl ⟨(Nat.le_of_ble_eq_true rfl), (Nat.le_of_ble_eq_true rfl)⟩ (Nat.le_of_ble_eq_true rfl) ⟨rfl, rfl⟩ (ct_nextx o ho rl g b cs h (ho.cell c_37)) (fun g_49 p_49 => ?_)
          refine J_aload_n (nx := 53) dX8_readSum_52 rfl rfl ?_
          refine J_iload_n (nx := 54) dX8_readSum_53 rfl rfl ?_
          refine JvV1 (R' := rm (0) 0 0) (nx := 57) dX8_readSum_54 rfl ml_X8_addCell lk_X8_190 iv_X8_addCell rfl rfl ⟨(Nat.le_of_ble_eq_true rfl), (Nat.le_of_ble_eq_true rfl)⟩ (Nat.le_of_ble_eq_true rfl) ⟨rfl, rfl⟩ (ct_addx o rl g_49 (oNxt o b) cs (pCell o rl b) p_49.2 (by have := ho.2.1 b (ho.cell c_37); have := ho.1; omega)) (fun g_54 p_54 => ?_)
          refine J_iload_n (nx := 58) dX8_readSum_57 rfl rfl ?_
          refine J_if_le (nx := 61) (tgt := 68) dX8_readSum_58 rfl (by decide) (fun c_58 => ?_) (fun c_58 => ?_)
          · first
              | (have hT : TS o rl g_65 (oNxt o b) (if n = 0 then cs ++ [pCell o rl b] else cs ++ [pCell o rl b] ++ [10010]) := by
                   rw [if_neg (fun z => c_58 (by rw [z]; decide))]; exact p_65.2
                 have hG := (h0.tr p_49.1).tr (p_54.1.tr p_65.1)
                 exact sg_sum o ho rl g0 k n b cs r g_65 hr c_37 hT hG ih hkn (by exact hl))
              | (have hT : TS o rl g_54 (oNxt o b) (if n = 0 then cs ++ [pCell o rl b] else cs ++ [pCell o rl b] ++ [10010]) := by
                   rw [if_pos (nI_le0 (by omega) c_58)]; exact p_54.2
                 have hG := (h0.tr p_49.1).tr p_54.1
                 exact sg_sum o ho rl g0 k n b cs r g_54 hr c_37 hT hG ih hkn (by exact hl))
          · refine J_aload_n (nx := 62) dX8_readSum_61 rfl rfl ?_
            refine J_sipush (nx := 65) (i := 10010) (v := 10010) (by decide) dX8_readSum_62 rfl ?_
            refine JvV1 (R' := rm (0) 0 0) (nx := 68) dX8_readSum_65 rfl ml_X8_addCell lk_X8_190 iv_X8_addCell rfl rfl ⟨(Nat.le_of_ble_eq_true rfl), (Nat.le_of_ble_eq_true rfl)⟩ (Nat.le_of_ble_eq_true rfl) ⟨rfl, rfl⟩ (ct_addx o rl g_54 (oNxt o b) (cs ++ [pCell o rl b]) 10010 p_54.2 (by have := ho.2.1 b (ho.cell c_37); have := ho.1; rw [List.length_append, List.length_singleton]; rw [if_neg (fun z => c_58 (by rw [z]; decide))] at hl; omega)) (fun g_65 p_65 => ?_)
            first
              | (have hT : TS o rl g_65 (oNxt o b) (if n = 0 then cs ++ [pCell o rl b] else cs ++ [pCell o rl b] ++ [10010]) := by
                   rw [if_neg (fun z => c_58 (by rw [z]; decide))]; exact p_65.2
                 have hG := (h0.tr p_49.1).tr (p_54.1.tr p_65.1)
                 exact sg_sum o ho rl g0 k n b cs r g_65 hr c_37 hT hG ih hkn (by exact hl))
              | (have hT : TS o rl g_54 (oNxt o b) (if n = 0 then cs ++ [pCell o rl b] else cs ++ [pCell o rl b] ++ [10010]) := by
                   rw [if_pos (nI_le0 (by omega) c_58)]; exact p_54.2
                 have hG := (h0.tr p_49.1).tr p_54.1
                 exact sg_sum o ho rl g0 k n b cs r g_54 hr c_37 hT hG ih hkn (by exact hl))
        · refine J_aload_n (nx := 41) dX8_readSum_40 rfl rfl ?_
          refine JcV0 (R' := rm (0) 0 0) (nx := 44) dX8_readSum_41 rfl ml_X8_wrong lk_X8_47 iv_X8_wrong rfl rfl ⟨(Nat.le_of_ble_eq_true rfl), (Nat.le_of_ble_eq_true rfl)⟩ (Nat.le_of_ble_eq_true rfl) ⟨rfl, rfl⟩ (ct_wrong _) ?_
          exact Jrz dX8_readSum_44 rfl (by decide) (Nat.zero_le _) (Nat.zero_le _) (RXi.of (PP.no h0 h (hr.trans (if_pos c_37))))
      · refine J_aload_n (nx := 20) dX8_readSum_19 rfl rfl ?_
        refine Jg_7_0 (nx := 23) dX8_readSum_20 rfl fl_X8_31 ?_
        refine Jg_1_9 (nx := 26) dX8_readSum_23 rfl fl_X8_98 ?_
        refine J_goto (nx := 34) dX8_readSum_26 (by decide) ?_
        first
          | rw [show gF g 1 9 = pCell o rl b from h.num.trans (if_pos c_16).symm]
          | rw [show (10000 : Int32) + pFact o rl b = pCell o rl b from (if_neg c_16).symm]
        refine J_istore_n (nx := 35) dX8_readSum_34 rfl rfl (Nat.le_of_ble_eq_true rfl) ?_
        refine J_iload_n (nx := 36) dX8_readSum_35 rfl rfl ?_
        refine J_iconst (nx := 37) (i := -1) (v := -1) (by decide) dX8_readSum_36 rfl ?_
        refine J_icmp_ne (nx := 40) (tgt := 45) dX8_readSum_37 rfl (by decide) (fun c_37 => ?_) (fun c_37 => ?_)
        · refine J_aload_n (nx := 46) dX8_readSum_45 rfl rfl ?_
          refine Jg_7_0 (nx := 49) dX8_readSum_46 rfl fl_X8_31 ?_
          refine JvV0 (R' := rm (0) 0 0) (nx := 52) dX8_readSum_49 rfl ml_X7_next lk_X8_92 iv_X7_next rfl rfl ⟨(Nat.le_of_ble_eq_true rfl), (Nat.le_of_ble_eq_true rfl)⟩ (Nat.le_of_ble_eq_true rfl) ⟨rfl, rfl⟩ (ct_nextx o ho rl g b cs h (ho.cell c_37)) (fun g_49 p_49 => ?_)
          refine J_aload_n (nx := 53) dX8_readSum_52 rfl rfl ?_
          refine J_iload_n (nx := 54) dX8_readSum_53 rfl rfl ?_
          refine JvV1 (R' := rm (0) 0 0) (nx := 57) dX8_readSum_54 rfl ml_X8_addCell lk_X8_190 iv_X8_addCell rfl rfl ⟨(Nat.le_of_ble_eq_true rfl), (Nat.le_of_ble_eq_true rfl)⟩ (Nat.le_of_ble_eq_true rfl) ⟨rfl, rfl⟩ (ct_addx o rl g_49 (oNxt o b) cs (pCell o rl b) p_49.2 (by have := ho.2.1 b (ho.cell c_37); have := ho.1; omega)) (fun g_54 p_54 => ?_)
          refine J_iload_n (nx := 58) dX8_readSum_57 rfl rfl ?_
          refine J_if_le (nx := 61) (tgt := 68) dX8_readSum_58 rfl (by decide) (fun c_58 => ?_) (fun c_58 => ?_)
          · first
              | (have hT : TS o rl g_65 (oNxt o b) (if n = 0 then cs ++ [pCell o rl b] else cs ++ [pCell o rl b] ++ [10010]) := by
                   rw [if_neg (fun z => c_58 (by rw [z]; decide))]; exact p_65.2
                 have hG := (h0.tr p_49.1).tr (p_54.1.tr p_65.1)
                 exact sg_sum o ho rl g0 k n b cs r g_65 hr c_37 hT hG ih hkn (by exact hl))
              | (have hT : TS o rl g_54 (oNxt o b) (if n = 0 then cs ++ [pCell o rl b] else cs ++ [pCell o rl b] ++ [10010]) := by
                   rw [if_pos (nI_le0 (by omega) c_58)]; exact p_54.2
                 have hG := (h0.tr p_49.1).tr p_54.1
                 exact sg_sum o ho rl g0 k n b cs r g_54 hr c_37 hT hG ih hkn (by exact hl))
          · refine J_aload_n (nx := 62) dX8_readSum_61 rfl rfl ?_
            refine J_sipush (nx := 65) (i := 10010) (v := 10010) (by decide) dX8_readSum_62 rfl ?_
            refine JvV1 (R' := rm (0) 0 0) (nx := 68) dX8_readSum_65 rfl ml_X8_addCell lk_X8_190 iv_X8_addCell rfl rfl ⟨(Nat.le_of_ble_eq_true rfl), (Nat.le_of_ble_eq_true rfl)⟩ (Nat.le_of_ble_eq_true rfl) ⟨rfl, rfl⟩ (ct_addx o rl g_54 (oNxt o b) (cs ++ [pCell o rl b]) 10010 p_54.2 (by have := ho.2.1 b (ho.cell c_37); have := ho.1; rw [List.length_append, List.length_singleton]; rw [if_neg (fun z => c_58 (by rw [z]; decide))] at hl; omega)) (fun g_65 p_65 => ?_)
            first
              | (have hT : TS o rl g_65 (oNxt o b) (if n = 0 then cs ++ [pCell o rl b] else cs ++ [pCell o rl b] ++ [10010]) := by
                   rw [if_neg (fun z => c_58 (by rw [z]; decide))]; exact p_65.2
                 have hG := (h0.tr p_49.1).tr (p_54.1.tr p_65.1)
                 exact sg_sum o ho rl g0 k n b cs r g_65 hr c_37 hT hG ih hkn (by exact hl))
              | (have hT : TS o rl g_54 (oNxt o b) (if n = 0 then cs ++ [pCell o rl b] else cs ++ [pCell o rl b] ++ [10010]) := by
                   rw [if_pos (nI_le0 (by omega) c_58)]; exact p_54.2
                 have hG := (h0.tr p_49.1).tr p_54.1
                 exact sg_sum o ho rl g0 k n b cs r g_54 hr c_37 hT hG ih hkn (by exact hl))
        · refine J_aload_n (nx := 41) dX8_readSum_40 rfl rfl ?_
          refine JcV0 (R' := rm (0) 0 0) (nx := 44) dX8_readSum_41 rfl ml_X8_wrong lk_X8_47 iv_X8_wrong rfl rfl ⟨(Nat.le_of_ble_eq_true rfl), (Nat.le_of_ble_eq_true rfl)⟩ (Nat.le_of_ble_eq_true rfl) ⟨rfl, rfl⟩ (ct_wrong _) ?_
          exact Jrz dX8_readSum_44 rfl (by decide) (Nat.zero_le _) (Nat.zero_le _) (RXi.of (PP.no h0 h (hr.trans (if_pos c_37))))

set_option maxRecDepth 100000 in
set_option maxHeartbeats 4000000 in
theorem ct_readSum (o : Ob) (ho : ObOK o) (rl : Bool) (g : GS) (b : Nat) (cs : List Int32) (h : TS o rl g b cs) (hl : cs.length ≤ b) : Ct mX8_readSum (rm 1 0 0) [.ref 7] (Wd g) (RXi (PP o rl g (pSum o rl b cs))) := by
  refine Ct.of (by decide +kernel) (Nat.le_of_ble_eq_true rfl) ?_
  show J _ _ _ _ 0 [some (.ref 7), none, none, none] [] _ 0 0
  refine J_iconst (nx := 1) (i := 0) (v := 0) (by decide) dX8_readSum_0 rfl ?_
  refine J_istore_n (nx := 2) dX8_readSum_1 rfl rfl (Nat.le_of_ble_eq_true rfl) ?_
  exact lp_readSum o ho rl g _ 400 0 b cs g _ none none rfl h Fr.rf (by rw [if_pos rfl]; omega) rfl

theorem okAtom (o : Ob) (ho : ObOK o) (rl : Bool) (d b : Nat) (cs : List Int32) (hb : b ≤ oN o) : PRok o b cs (pAtom o rl d b cs) := pAtom_ok ho rl d b cs hb
theorem okAll (o : Ob) (ho : ObOK o) (rl : Bool) (d b : Nat) (cs : List Int32) (hb : b ≤ oN o) : PRok o b cs (pAll o rl d b cs) := pAll_ok ho rl d b cs hb
set_option maxRecDepth 100000 in
set_option maxHeartbeats 4000000 in
theorem lp_readAll (o : Ob) (ho : ObOK o) (rl : Bool) (d : Nat) (x : Int32) (g0 : GS) (hI : ∀ (g : GS) (b : Nat) (cs : List Int32), TS o rl g b cs → cs.length ≤ b → Ct mX8_readAtom (rm (2 + 4 * d) 0 0) [.ref 7, .int x] (Wd g) (RXi (PP o rl g (pAtom o rl d b cs)))) (n0 : Nat) : ∀ (k : Nat) (n b : Nat) (cs : List Int32) (g : GS) (r : PR), TS o rl g b cs → Fr fC aC g0 g → cs.length ≤ b → k + n = 400 → r = pLoop o (pAtom o rl d) 13 10014 k b cs → J mX8_readAll (rm (3 + 4 * d) 0 0) (RXi (PP o rl g0 r)) n0 12 [some (.ref 7), some (.int x), some (.int (nI n))] [] (Wd g) 0 0 := by
  intro k
  induction k with
  | zero =>
    intro n b cs g r h h0 hl hkn hr
    refine J_iload_n (nx := 13) dX8_readAll_12 rfl rfl ?_
    refine J_sipush (nx := 16) (i := 400) (v := 400) (by decide) dX8_readAll_13 rfl ?_
    refine J_icmp_ge (nx := 19) (tgt := 62) dX8_readAll_16 rfl (by decide) (fun c_16 => ?_) (fun c_16 => ?_)
    · refine J_iconst (nx := 63) (i := 1) (v := 1) (by decide) dX8_readAll_62 rfl ?_
      exact Jrz dX8_readAll_63 rfl (by decide) (Nat.zero_le _) (Nat.zero_le _) (RXi.of (PP.yes h0 h hr))
    · exact absurd (show nI 400 ≤ nI n from by rw [show n = 400 by omega]; exact le_self_nI) c_16
  | succ k ih =>
    intro n b cs g r h h0 hl hkn hr
    refine J_iload_n (nx := 13) dX8_readAll_12 rfl rfl ?_
    refine J_sipush (nx := 16) (i := 400) (v := 400) (by decide) dX8_readAll_13 rfl ?_
    refine J_icmp_ge (nx := 19) (tgt := 62) dX8_readAll_16 rfl (by decide) (fun c_16 => ?_) (fun c_16 => ?_)
    · exact absurd c_16 (nlt_nI (n := 400) (by omega) (by omega))
    · refine J_aload_n (nx := 20) dX8_readAll_19 rfl rfl ?_
      refine Jg_7_0 (nx := 23) dX8_readAll_20 rfl fl_X8_31 ?_
      refine Jg_1_11 (nx := 26) dX8_readAll_23 rfl fl_X8_88 ?_
      rw [h.wrd]
      refine J_getsW (nx := 29) (j := 13) dX8_readAll_26 rfl (by decide) gs_X8_197 ?_
      refine J_acmp_ne (nx := 32) (i := (oWrd o b)) (j := 13) (tgt := 62) dX8_readAll_29 rfl (by decide) (ho.2.2.2.1 _) (by decide) (fun c_29 => ?_) (fun c_29 => ?_)
      · refine J_iconst (nx := 63) (i := 1) (v := 1) (by decide) dX8_readAll_62 rfl ?_
        exact Jrz dX8_readAll_63 rfl (by decide) (Nat.zero_le _) (Nat.zero_le _) (RXi.of (PP.yes h0 h (hr.trans (if_neg c_29))))
      · refine J_aload_n (nx := 33) dX8_readAll_32 rfl rfl ?_
        refine Jg_7_0 (nx := 36) dX8_readAll_33 rfl fl_X8_31 ?_
        refine JvV0 (R' := rm (0) 0 0) (nx := 39) dX8_readAll_36 rfl ml_X7_next lk_X8_92 iv_X7_next rfl rfl (rm_room (by omega) (by decide)) (Nat.le_of_ble_eq_true rfl) ⟨rfl, rfl⟩ (ct_nextx o ho rl g b cs h (ho.wrd c_29 (by decide))) (fun g_36 p_36 => ?_)
        refine J_aload_n (nx := 40) dX8_readAll_39 rfl rfl ?_
        refine J_iload_n (nx := 41) dX8_readAll_40 rfl rfl ?_
        refine JiV1 (R' := rm (2 + 4 * d) 0 0) (nx := 44) dX8_readAll_41 rfl ml_X8_readAtom lk_X8_194 iv_X8_readAtom rfl rfl (rm_room (by omega) (by decide)) (Nat.le_of_ble_eq_true rfl) ⟨rfl, rfl⟩ (hI g_36 (oNxt o b) cs p_36.2 (by have := ho.2.1 b (ho.wrd c_29 (by decide)); omega)) (fun x_41 g_41 p_41 => ?_)
        refine J_if_ne (nx := 47) (tgt := 49) dX8_readAll_44 rfl (by decide) (fun c_44 => ?_) (fun c_44 => ?_)
        · obtain ⟨q, hq, hT⟩ := p_41.goes c_44
          have hok := okAtom o ho rl d (oNxt o b) cs (ho.2.1 b (ho.wrd c_29 (by decide))).2
          rw [hq] at hok
          refine J_aload_n (nx := 50) dX8_readAll_49 rfl rfl ?_
          refine J_sipush (nx := 53) (i := 10014) (v := 10014) (by decide) dX8_readAll_50 rfl ?_
          refine JvV1 (R' := rm (0) 0 0) (nx := 56) dX8_readAll_53 rfl ml_X8_addCell lk_X8_190 iv_X8_addCell rfl rfl (rm_room (by omega) (by decide)) (Nat.le_of_ble_eq_true rfl) ⟨rfl, rfl⟩ (ct_addx o rl g_41 q.1 q.2 10014 hT (by have := hok.2; have := ho.1; have := ho.2.1 b (ho.wrd c_29 (by decide)); omega)) (fun g_53 p_53 => ?_)
          refine J_iinc (nx := 59) dX8_readAll_56 rfl rfl rfl (Nat.le_of_ble_eq_true rfl) ?_
          refine J_goto (nx := 12) dX8_readAll_59 (by decide) ?_
          show J _ _ _ _ 12 [some (.ref 7), some (.int x), some (.int (nI n + Int32.ofInt 1))] [] _ 0 0
          rw [nI_s]
          exact ih (n + 1) q.1 _ g_53 r p_53.2 ((h0.tr p_36.1).tr (p_41.1.tr p_53.1)) (by have := hok.2; have := ho.2.1 b (ho.wrd c_29 (by decide)); rw [List.length_append, List.length_singleton]; omega) (by omega) (hr.trans ((if_pos c_29).trans (by rw [hq])))
        · refine J_iconst (nx := 48) (i := 0) (v := 0) (by decide) dX8_readAll_47 rfl ?_
          exact Jrz dX8_readAll_48 rfl (by decide) (Nat.zero_le _) (Nat.zero_le _) (RXi.of (PP.fail (h0.tr p_36.1) p_41 c_44 (fun e he => hr.trans ((if_pos c_29).trans (by rw [he])))))

set_option maxRecDepth 100000 in
set_option maxHeartbeats 4000000 in
theorem ct_readAll (o : Ob) (ho : ObOK o) (rl : Bool) (d : Nat) (x : Int32) (hI : ∀ (g : GS) (b : Nat) (cs : List Int32), TS o rl g b cs → cs.length ≤ b → Ct mX8_readAtom (rm (2 + 4 * d) 0 0) [.ref 7, .int x] (Wd g) (RXi (PP o rl g (pAtom o rl d b cs)))) (g : GS) (b : Nat) (cs : List Int32) (h : TS o rl g b cs) (hl : cs.length ≤ b) : Ct mX8_readAll (rm (3 + 4 * d) 0 0) [.ref 7, .int x] (Wd g) (RXi (PP o rl g (pAll o rl d b cs))) := by
  refine Ct.of (by decide +kernel) (Nat.le_of_ble_eq_true rfl) ?_
  show J _ _ _ _ 0 [some (.ref 7), some (.int x), none] [] _ 0 0
  refine J_aload_n (nx := 1) dX8_readAll_0 rfl rfl ?_
  refine J_iload_n (nx := 2) dX8_readAll_1 rfl rfl ?_
  refine JiV1 (R' := rm ((2 + 4 * d)) 0 0) (nx := 5) dX8_readAll_2 rfl ml_X8_readAtom lk_X8_194 iv_X8_readAtom rfl rfl (rm_room (by omega) (by decide)) (Nat.le_of_ble_eq_true rfl) ⟨rfl, rfl⟩ (hI g b cs h hl) (fun x_2 g_2 p_2 => ?_)
  refine J_if_ne (nx := 8) (tgt := 10) dX8_readAll_5 rfl (by decide) (fun c_5 => ?_) (fun c_5 => ?_)
  · refine J_iconst (nx := 11) (i := 0) (v := 0) (by decide) dX8_readAll_10 rfl ?_
    refine J_istore_n (nx := 12) dX8_readAll_11 rfl rfl (Nat.le_of_ble_eq_true rfl) ?_
    obtain ⟨q, hq, hT⟩ := p_2.goes c_5
    have hok := okAtom o ho rl d b cs h.1.le
    rw [hq] at hok
    exact lp_readAll o ho rl d x g hI _ 400 0 q.1 q.2 g_2 _ hT p_2.1 (by have := hok.2; omega) rfl (by unfold pAll pSeq; rw [hq])
  · refine J_iconst (nx := 9) (i := 0) (v := 0) (by decide) dX8_readAll_8 rfl ?_
    exact Jrz dX8_readAll_9 rfl (by decide) (Nat.zero_le _) (Nat.zero_le _) (RXi.of (PP.fail Fr.rf p_2 c_5 (fun e he => by unfold pAll pSeq; rw [he])))

set_option maxRecDepth 100000 in
set_option maxHeartbeats 4000000 in
theorem lp_readCondition (o : Ob) (ho : ObOK o) (rl : Bool) (d : Nat) (x : Int32) (g0 : GS) (hI : ∀ (g : GS) (b : Nat) (cs : List Int32), TS o rl g b cs → cs.length ≤ b → Ct mX8_readAll (rm (3 + 4 * d) 0 0) [.ref 7, .int x] (Wd g) (RXi (PP o rl g (pAll o rl d b cs)))) (n0 : Nat) : ∀ (k : Nat) (n b : Nat) (cs : List Int32) (g : GS) (r : PR), TS o rl g b cs → Fr fC aC g0 g → cs.length ≤ b → k + n = 400 → r = pLoop o (pAll o rl d) 12 10015 k b cs → J mX8_readCondition (rm (4 + 4 * d) 0 0) (RXi (PP o rl g0 r)) n0 12 [some (.ref 7), some (.int x), some (.int (nI n))] [] (Wd g) 0 0 := by
  intro k
  induction k with
  | zero =>
    intro n b cs g r h h0 hl hkn hr
    refine J_iload_n (nx := 13) dX8_readCondition_12 rfl rfl ?_
    refine J_sipush (nx := 16) (i := 400) (v := 400) (by decide) dX8_readCondition_13 rfl ?_
    refine J_icmp_ge (nx := 19) (tgt := 62) dX8_readCondition_16 rfl (by decide) (fun c_16 => ?_) (fun c_16 => ?_)
    · refine J_iconst (nx := 63) (i := 1) (v := 1) (by decide) dX8_readCondition_62 rfl ?_
      exact Jrz dX8_readCondition_63 rfl (by decide) (Nat.zero_le _) (Nat.zero_le _) (RXi.of (PP.yes h0 h hr))
    · exact absurd (show nI 400 ≤ nI n from by rw [show n = 400 by omega]; exact le_self_nI) c_16
  | succ k ih =>
    intro n b cs g r h h0 hl hkn hr
    refine J_iload_n (nx := 13) dX8_readCondition_12 rfl rfl ?_
    refine J_sipush (nx := 16) (i := 400) (v := 400) (by decide) dX8_readCondition_13 rfl ?_
    refine J_icmp_ge (nx := 19) (tgt := 62) dX8_readCondition_16 rfl (by decide) (fun c_16 => ?_) (fun c_16 => ?_)
    · exact absurd c_16 (nlt_nI (n := 400) (by omega) (by omega))
    · refine J_aload_n (nx := 20) dX8_readCondition_19 rfl rfl ?_
      refine Jg_7_0 (nx := 23) dX8_readCondition_20 rfl fl_X8_31 ?_
      refine Jg_1_11 (nx := 26) dX8_readCondition_23 rfl fl_X8_88 ?_
      rw [h.wrd]
      refine J_getsW (nx := 29) (j := 12) dX8_readCondition_26 rfl (by decide) gs_X8_187 ?_
      refine J_acmp_ne (nx := 32) (i := (oWrd o b)) (j := 12) (tgt := 62) dX8_readCondition_29 rfl (by decide) (ho.2.2.2.1 _) (by decide) (fun c_29 => ?_) (fun c_29 => ?_)
      · refine J_iconst (nx := 63) (i := 1) (v := 1) (by decide) dX8_readCondition_62 rfl ?_
        exact Jrz dX8_readCondition_63 rfl (by decide) (Nat.zero_le _) (Nat.zero_le _) (RXi.of (PP.yes h0 h (hr.trans (if_neg c_29))))
      · refine J_aload_n (nx := 33) dX8_readCondition_32 rfl rfl ?_
        refine Jg_7_0 (nx := 36) dX8_readCondition_33 rfl fl_X8_31 ?_
        refine JvV0 (R' := rm (0) 0 0) (nx := 39) dX8_readCondition_36 rfl ml_X7_next lk_X8_92 iv_X7_next rfl rfl (rm_room (by omega) (by decide)) (Nat.le_of_ble_eq_true rfl) ⟨rfl, rfl⟩ (ct_nextx o ho rl g b cs h (ho.wrd c_29 (by decide))) (fun g_36 p_36 => ?_)
        refine J_aload_n (nx := 40) dX8_readCondition_39 rfl rfl ?_
        refine J_iload_n (nx := 41) dX8_readCondition_40 rfl rfl ?_
        refine JiV1 (R' := rm (3 + 4 * d) 0 0) (nx := 44) dX8_readCondition_41 rfl ml_X8_readAll lk_X8_184 iv_X8_readAll rfl rfl (rm_room (by omega) (by decide)) (Nat.le_of_ble_eq_true rfl) ⟨rfl, rfl⟩ (hI g_36 (oNxt o b) cs p_36.2 (by have := ho.2.1 b (ho.wrd c_29 (by decide)); omega)) (fun x_41 g_41 p_41 => ?_)
        refine J_if_ne (nx := 47) (tgt := 49) dX8_readCondition_44 rfl (by decide) (fun c_44 => ?_) (fun c_44 => ?_)
        · obtain ⟨q, hq, hT⟩ := p_41.goes c_44
          have hok := okAll o ho rl d (oNxt o b) cs (ho.2.1 b (ho.wrd c_29 (by decide))).2
          rw [hq] at hok
          refine J_aload_n (nx := 50) dX8_readCondition_49 rfl rfl ?_
          refine J_sipush (nx := 53) (i := 10015) (v := 10015) (by decide) dX8_readCondition_50 rfl ?_
          refine JvV1 (R' := rm (0) 0 0) (nx := 56) dX8_readCondition_53 rfl ml_X8_addCell lk_X8_190 iv_X8_addCell rfl rfl (rm_room (by omega) (by decide)) (Nat.le_of_ble_eq_true rfl) ⟨rfl, rfl⟩ (ct_addx o rl g_41 q.1 q.2 10015 hT (by have := hok.2; have := ho.1; have := ho.2.1 b (ho.wrd c_29 (by decide)); omega)) (fun g_53 p_53 => ?_)
          refine J_iinc (nx := 59) dX8_readCondition_56 rfl rfl rfl (Nat.le_of_ble_eq_true rfl) ?_
          refine J_goto (nx := 12) dX8_readCondition_59 (by decide) ?_
          show J _ _ _ _ 12 [some (.ref 7), some (.int x), some (.int (nI n + Int32.ofInt 1))] [] _ 0 0
          rw [nI_s]
          exact ih (n + 1) q.1 _ g_53 r p_53.2 ((h0.tr p_36.1).tr (p_41.1.tr p_53.1)) (by have := hok.2; have := ho.2.1 b (ho.wrd c_29 (by decide)); rw [List.length_append, List.length_singleton]; omega) (by omega) (hr.trans ((if_pos c_29).trans (by rw [hq])))
        · refine J_iconst (nx := 48) (i := 0) (v := 0) (by decide) dX8_readCondition_47 rfl ?_
          exact Jrz dX8_readCondition_48 rfl (by decide) (Nat.zero_le _) (Nat.zero_le _) (RXi.of (PP.fail (h0.tr p_36.1) p_41 c_44 (fun e he => hr.trans ((if_pos c_29).trans (by rw [he])))))

set_option maxRecDepth 100000 in
set_option maxHeartbeats 4000000 in
theorem ct_readCond (o : Ob) (ho : ObOK o) (rl : Bool) (d : Nat) (x : Int32) (hI : ∀ (g : GS) (b : Nat) (cs : List Int32), TS o rl g b cs → cs.length ≤ b → Ct mX8_readAll (rm (3 + 4 * d) 0 0) [.ref 7, .int x] (Wd g) (RXi (PP o rl g (pAll o rl d b cs)))) (g : GS) (b : Nat) (cs : List Int32) (h : TS o rl g b cs) (hl : cs.length ≤ b) : Ct mX8_readCondition (rm (4 + 4 * d) 0 0) [.ref 7, .int x] (Wd g) (RXi (PP o rl g (pCond o rl d b cs))) := by
  refine Ct.of (by decide +kernel) (Nat.le_of_ble_eq_true rfl) ?_
  show J _ _ _ _ 0 [some (.ref 7), some (.int x), none] [] _ 0 0
  refine J_aload_n (nx := 1) dX8_readCondition_0 rfl rfl ?_
  refine J_iload_n (nx := 2) dX8_readCondition_1 rfl rfl ?_
  refine JiV1 (R' := rm ((3 + 4 * d)) 0 0) (nx := 5) dX8_readCondition_2 rfl ml_X8_readAll lk_X8_184 iv_X8_readAll rfl rfl (rm_room (by omega) (by decide)) (Nat.le_of_ble_eq_true rfl) ⟨rfl, rfl⟩ (hI g b cs h hl) (fun x_2 g_2 p_2 => ?_)
  refine J_if_ne (nx := 8) (tgt := 10) dX8_readCondition_5 rfl (by decide) (fun c_5 => ?_) (fun c_5 => ?_)
  · refine J_iconst (nx := 11) (i := 0) (v := 0) (by decide) dX8_readCondition_10 rfl ?_
    refine J_istore_n (nx := 12) dX8_readCondition_11 rfl rfl (Nat.le_of_ble_eq_true rfl) ?_
    obtain ⟨q, hq, hT⟩ := p_2.goes c_5
    have hok := okAll o ho rl d b cs h.1.le
    rw [hq] at hok
    exact lp_readCondition o ho rl d x g hI _ 400 0 q.1 q.2 g_2 _ hT p_2.1 (by have := hok.2; omega) rfl (by unfold pCond pSeq; rw [hq])
  · refine J_iconst (nx := 9) (i := 0) (v := 0) (by decide) dX8_readCondition_8 rfl ?_
    exact Jrz dX8_readCondition_9 rfl (by decide) (Nat.zero_le _) (Nat.zero_le _) (RXi.of (PP.fail Fr.rf p_2 c_5 (fun e he => by unfold pCond pSeq; rw [he])))

