
/-! Lesson -/
def lb1 (p : Nat) (g : GS) : GS := sA g 56 (rPut 192 (gA g 56) (nI p) (-1))
def lb2 (p : Nat) (g : GS) : GS := sA g 57 (rPut 192 (gA g 57) (nI p) 100000)
def lbS (p : Nat) (g : GS) : GS := lb2 p (lb1 p g)
def lb0 (g : GS) : GS := sA g 55 (rCopy 192 192 (gA g 25) (gA g 55))
def lbAll (g : GS) : GS := itN lbS 192 (lb0 g)
def luG (g : GS) : GS := sA g 25 (rCopy 192 192 (gA g 55) (gA g 25))
def lwY (g : GS) (so st : Int32) (q : Option CD) (G : Nat) : GS := lyAll g so (st / 4) (bk_cn g 20 so) q G
def lwR (g : GS) (so st : Int32) (q : Option CD) (G : Nat) : Bool :=
  if rAt 192 (gA g 56) (32 * so + st) < bk_cn g 20 so then (if bk_cn g 20 so < rAt 192 (gA g 57) (32 * so + st) then (if gnI (lwY g so st q G) st ≤ 0 then false else true) else false) else true
def lwG (g : GS) (so st : Int32) (q : Option CD) (G : Nat) : GS :=
  if rAt 192 (gA g 56) (32 * so + st) < bk_cn g 20 so then (if bk_cn g 20 so < rAt 192 (gA g 57) (32 * so + st) then
    (if gnI (lwY g so st q G) st ≤ 0 then sA (lwY g so st q G) 57 (rPut 192 (gA (lwY g so st q G) 57) (32 * so + st) (bk_cn g 20 so)) else sA (lwY g so st q G) 56 (rPut 192 (gA (lwY g so st q G) 56) (32 * so + st) (bk_cn g 20 so)))
    else g) else g
theorem bI_or (b c : Bool) : bI b ||| bI c = bI (b || c) := by cases b <;> cases c <;> decide
theorem LayOK.sa {g : GS} {q : Option CD} {G : Nat} (h : LayOK g q G) (c : Nat) (f : Nat → Int32) : LayOK (sA g c f) q G := ⟨h.1.congr rfl rfl rfl, h.2.1, h.2.2⟩
theorem LayOK.lw {g : GS} {q : Option CD} {G : Nat} (h : LayOK g q G) (so st : Int32) : LayOK (lwG g so st q G) q G := by
  unfold lwG lwY
  split
  · split
    · split
      · exact (h.ly _ _ _).sa _ _
      · exact (h.ly _ _ _).sa _ _
    · exact h
  · exact h
theorem ly_F11 (g : GS) (so z card : Int32) (q : Option CD) (G : Nat) : gF (lyAll g so z card q G) 20 11 = gF g 20 11 := by unfold lyAll; rw [lyD_F]; rfl
theorem lw_F11 (g : GS) (so st : Int32) (q : Option CD) (G : Nat) : gF (lwG g so st q G) 20 11 = gF g 20 11 := by
  unfold lwG lwY
  split
  · split
    · split
      · exact ly_F11 _ _ _ _ _ _
      · exact ly_F11 _ _ _ _ _ _
    · rfl
  · rfl
def lrN (g : GS) (so s : Nat) (q : Option CD) (G : Nat) : Int32 := if lwR g (nI so) (nI s) q G = false then bk_rt g 20 (nI so) (nI s) - 1 else mnI 999 (bk_rt g 20 (nI so) (nI s) + 1)
def lrS (q : Option CD) (G so s : Nat) (p : Bool × GS) : Bool × GS :=
  if bk_rt p.2 20 (nI so) (nI s) ≤ 0 then p else
    (p.1 || (if lrN p.2 so s q G = bk_rt p.2 20 (nI so) (nI s) then false else true), bk_sr (lwG p.2 (nI so) (nI s) q G) 20 (nI so) (nI s) (lrN p.2 so s q G))
theorem LayOK.lr {p : Bool × GS} {q : Option CD} {G : Nat} (h : LayOK p.2 q G) (so s : Nat) : LayOK (lrS q G so s p).2 q G := by
  unfold lrS
  split
  · exact h
  · exact (h.lw _ _).sa _ _
theorem LayOK.lrI {p : Bool × GS} {q : Option CD} {G : Nat} (h : LayOK p.2 q G) (so n : Nat) : LayOK (itN (lrS q G so) n p).2 q G := by
  induction n with
  | zero => exact h
  | succ n ih => rw [itN_s]; exact ih.lr so n
theorem lr_F11 (p : Bool × GS) (q : Option CD) (G so s : Nat) : gF (lrS q G so s p).2 20 11 = gF p.2 20 11 := by
  unfold lrS
  split
  · rfl
  · exact lw_F11 _ _ _ _ _
theorem lrI_F11 (p : Bool × GS) (q : Option CD) (G so n : Nat) : gF (itN (lrS q G so) n p).2 20 11 = gF p.2 20 11 := by
  induction n with
  | zero => rfl
  | succ n ih => rw [itN_s, lr_F11, ih]
def lrT (q : Option CD) (G so : Nat) (p : Bool × GS) : Bool × GS := itN (lrS q G so) 32 p
theorem lrT_e (q : Option CD) (G so : Nat) (p : Bool × GS) : lrT q G so p = itN (lrS q G so) 32 p := by unfold lrT; rfl
theorem LayOK.lrT {p : Bool × GS} {q : Option CD} {G : Nat} (h : LayOK p.2 q G) (n : Nat) : LayOK (itN (lrT q G) n p).2 q G := by
  induction n with
  | zero => exact h
  | succ n ih => rw [itN_s, lrT_e]; exact ih.lrI n 32
theorem lrT_F11 (p : Bool × GS) (q : Option CD) (G n : Nat) : gF (itN (lrT q G) n p).2 20 11 = gF p.2 20 11 := by
  induction n with
  | zero => rfl
  | succ n ih => rw [itN_s, lrT_e, lrI_F11, ih]

set_option maxRecDepth 100000 in
set_option maxHeartbeats 4000000 in
theorem lp_begin (g : GS) (Q : Res → List ME → Prop) (n0 : Nat) (hK : J mX4_begin (rm 1 0 0) Q n0 48 [some (.ref 54), some (.int (nI 192))] [] (Wd (itN lbS 192 g)) 0 0) : ∀ (k w : Nat), w ≤ 192 → 192 + 1 ≤ w + k → J mX4_begin (rm 1 0 0) Q n0 16 [some (.ref 54), some (.int (nI w))] [] (Wd (itN lbS w g)) 0 0 := by
  intro k
  induction k with
  | zero => intro w h1 h2; exact absurd h2 (by omega)
  | succ k ih =>
    intro w h1 h2
    refine J_iload_n (nx := 17) dX4_begin_16 rfl rfl ?_
    refine J_sipush (nx := 20) (i := 192) (v := 192) (by decide) dX4_begin_17 rfl ?_
    refine J_icmp_ge (nx := 23) (tgt := 48) dX4_begin_20 rfl (by decide) (fun c_20 => ?_) (fun c_20 => ?_)
    · obtain rfl : w = 192 := cge h1 (by omega) c_20
      exact hK
    · have hw : w < 192 := clt h1 (by omega) c_20
      have ih2 := ih (w + 1) (by omega) (by omega)
      rw [← nI_s w, itN_s lbS w g] at ih2
      generalize itN lbS w g = X at ih2 ⊢
      refine J_aload_n (nx := 24) dX4_begin_23 rfl rfl ?_
      refine Jg_54_3 (nx := 27) dX4_begin_24 rfl fl_X4_15 ?_
      refine J_iload_n (nx := 28) dX4_begin_27 rfl rfl ?_
      refine J_iconst (nx := 29) (i := -1) (v := -1) (by decide) dX4_begin_28 rfl ?_
      refine JcS3 (R' := rm 0 0 0) (nx := 32) dX4_begin_29 rfl ml_X6_put lk_X4_40 st_X6_put ⟨(Nat.le_of_ble_eq_true rfl), (Nat.le_of_ble_eq_true rfl)⟩ (Nat.le_of_ble_eq_true rfl) ⟨rfl, rfl⟩ (ct_put _ 56 192 _ _ rfl (fun _ => rfl) (by decide)) ?_
      refine J.gen (fun g_29 hg_29 => ?_)
      refine J_aload_n (nx := 33) dX4_begin_32 rfl rfl ?_
      refine Jg_54_4 (nx := 36) dX4_begin_33 rfl fl_X4_18 ?_
      refine J_iload_n (nx := 37) dX4_begin_36 rfl rfl ?_
      refine J_ldc (nx := 39) cn_X4_44 dX4_begin_37 rfl ?_
      refine JcS3 (R' := rm 0 0 0) (nx := 42) dX4_begin_39 rfl ml_X6_put lk_X4_40 st_X6_put ⟨(Nat.le_of_ble_eq_true rfl), (Nat.le_of_ble_eq_true rfl)⟩ (Nat.le_of_ble_eq_true rfl) ⟨rfl, rfl⟩ (ct_put _ 57 192 _ _ rfl (fun _ => rfl) (by decide)) ?_
      refine J.gen (fun g_39 hg_39 => ?_)
      refine J_iinc (nx := 45) dX4_begin_42 rfl rfl rfl (Nat.le_of_ble_eq_true rfl) ?_
      refine J_goto (nx := 16) dX4_begin_45 (by decide) ?_
      subst hg_39
      subst hg_29
      exact ih2

set_option maxRecDepth 100000 in
set_option maxHeartbeats 4000000 in
theorem lp_begin0 (g : GS) (Q : Res → List ME → Prop) (n0 : Nat) (hK : J mX4_begin (rm 1 0 0) Q n0 48 [some (.ref 54), some (.int (nI 192))] [] (Wd (itN lbS 192 g)) 0 0) : J mX4_begin (rm 1 0 0) Q n0 16 [some (.ref 54), some (.int 0)] [] (Wd g) 0 0 := lp_begin g Q n0 hK 193 0 (by omega) (by omega)

set_option maxRecDepth 100000 in
set_option maxHeartbeats 4000000 in
theorem ct_begin (g : GS) : Ct mX4_begin (rm 1 0 0) [.ref 54] (Wd g) (RR (.inl none) (lbAll g)) := by
  refine Ct.of (by decide +kernel) (Nat.le_of_ble_eq_true rfl) ?_
  show J _ _ _ _ 0 [some (.ref 54), none] [] _ 0 0
  refine J_aload_n (nx := 1) dX4_begin_0 rfl rfl ?_
  refine Jg_54_0 (nx := 4) dX4_begin_1 rfl fl_X4_21 ?_
  refine Jg_20_4 (nx := 7) dX4_begin_4 rfl fl_X4_29 ?_
  refine J_aload_n (nx := 8) dX4_begin_7 rfl rfl ?_
  refine Jg_54_2 (nx := 11) dX4_begin_8 rfl fl_X4_9 ?_
  refine JcS2 (R' := rm 0 0 0) (nx := 14) dX4_begin_11 rfl ml_X6_copy lk_X4_34 st_X6_copy ⟨(Nat.le_of_ble_eq_true rfl), (Nat.le_of_ble_eq_true rfl)⟩ (Nat.le_of_ble_eq_true rfl) ⟨rfl, rfl⟩ (ct_copy _ 25 55 192 192 _ (by decide) rfl rfl (fun _ => rfl) (by decide) (by decide)) ?_
  refine J.gen (fun g_11 hg_11 => ?_)
  refine J_iconst (nx := 15) (i := 0) (v := 0) (by decide) dX4_begin_14 rfl ?_
  refine J_istore_n (nx := 16) dX4_begin_15 rfl rfl (Nat.le_of_ble_eq_true rfl) ?_
  have e : lb0 g = g_11 := by rw [hg_11]; rfl
  unfold lbAll
  rw [e]
  refine lp_begin0 g_11 _ _ ?_
  generalize itN lbS 192 g_11 = Y
  exact Jrv dX4_begin_48 rfl (Nat.zero_le _) (Nat.zero_le _) ⟨rfl, rfl⟩

set_option maxRecDepth 100000 in
set_option maxHeartbeats 4000000 in
theorem ct_undo (g : GS) : Ct mX4_undo (rm 1 0 0) [.ref 54] (Wd g) (RR (.inl none) (luG g)) := by
  refine Ct.of (by decide +kernel) (Nat.le_of_ble_eq_true rfl) ?_
  show J _ _ _ _ 0 [some (.ref 54)] [] _ 0 0
  refine J_aload_n (nx := 1) dX4_undo_0 rfl rfl ?_
  refine Jg_54_2 (nx := 4) dX4_undo_1 rfl fl_X4_9 ?_
  refine J_aload_n (nx := 5) dX4_undo_4 rfl rfl ?_
  refine Jg_54_0 (nx := 8) dX4_undo_5 rfl fl_X4_21 ?_
  refine Jg_20_4 (nx := 11) dX4_undo_8 rfl fl_X4_29 ?_
  refine JcS2 (R' := rm 0 0 0) (nx := 14) dX4_undo_11 rfl ml_X6_copy lk_X4_34 st_X6_copy ⟨(Nat.le_of_ble_eq_true rfl), (Nat.le_of_ble_eq_true rfl)⟩ (Nat.le_of_ble_eq_true rfl) ⟨rfl, rfl⟩ (ct_copy _ 55 25 192 192 _ (by decide) rfl rfl (fun _ => rfl) (by decide) (by decide)) ?_
  refine J.gen (fun g_11 hg_11 => ?_)
  subst hg_11
  exact Jrv dX4_undo_14 rfl (Nat.zero_le _) (Nat.zero_le _) ⟨rfl, rfl⟩

set_option maxRecDepth 100000 in
set_option maxHeartbeats 4000000 in
theorem ct_isWorthIt (g : GS) (so st : Int32) (q : Option CD) (G : Nat) (hP : LayOK g q G) : Ct mX4_isWorthIt (rm 5 0 0) [.ref 54, .int so, .int st] (Wd g) (RR (.inl (some (.int (bI (lwR g so st q G))))) (lwG g so st q G)) := by
  refine Ct.of (by decide +kernel) (Nat.le_of_ble_eq_true rfl) ?_
  show J _ _ _ _ 0 [some (.ref 54), some (.int so), some (.int st), none, none, none] [] _ 0 0
  refine J_aload_n (nx := 1) dX4_isWorthIt_0 rfl rfl ?_
  refine Jg_54_0 (nx := 4) dX4_isWorthIt_1 rfl fl_X4_21 ?_
  refine J_iload_n (nx := 5) dX4_isWorthIt_4 rfl rfl ?_
  refine JcV1 (R' := rm 3 0 0) (nx := 8) dX4_isWorthIt_5 rfl ml_X1_cardNow lk_X4_66 iv_X1_cardNow rfl rfl ⟨(Nat.le_of_ble_eq_true rfl), (Nat.le_of_ble_eq_true rfl)⟩ (Nat.le_of_ble_eq_true rfl) ⟨rfl, rfl⟩ (ct_X1_cardNow _ _) ?_
  refine J_istore_n (nx := 9) dX4_isWorthIt_8 rfl rfl (Nat.le_of_ble_eq_true rfl) ?_
  refine J_bipush (nx := 11) (i := 32) (v := 32) (by decide) dX4_isWorthIt_9 rfl ?_
  refine J_iload_n (nx := 12) dX4_isWorthIt_11 rfl rfl ?_
  refine J_imul (nx := 13) dX4_isWorthIt_12 rfl ?_
  refine J_iload_n (nx := 14) dX4_isWorthIt_13 rfl rfl ?_
  refine J_iadd (nx := 15) dX4_isWorthIt_14 rfl ?_
  refine J_istore (nx := 17) dX4_isWorthIt_15 rfl rfl (Nat.le_of_ble_eq_true rfl) ?_
  refine J_iload_n (nx := 18) dX4_isWorthIt_17 rfl rfl ?_
  refine J_aload_n (nx := 19) dX4_isWorthIt_18 rfl rfl ?_
  refine Jg_54_3 (nx := 22) dX4_isWorthIt_19 rfl fl_X4_15 ?_
  refine J_iload (nx := 24) dX4_isWorthIt_22 rfl rfl ?_
  refine JcS2 (R' := rm 0 0 0) (nx := 27) dX4_isWorthIt_24 rfl ml_X6_at lk_X4_70 st_X6_at ⟨(Nat.le_of_ble_eq_true rfl), (Nat.le_of_ble_eq_true rfl)⟩ (Nat.le_of_ble_eq_true rfl) ⟨rfl, rfl⟩ (ct_at _ 56 192 _ _ rfl (by decide)) ?_
  refine J_icmp_gt (nx := 30) (tgt := 32) dX4_isWorthIt_27 rfl (by decide) (fun c_27 => ?_) (fun c_27 => ?_)
  · refine J_iload_n (nx := 33) dX4_isWorthIt_32 rfl rfl ?_
    refine J_aload_n (nx := 34) dX4_isWorthIt_33 rfl rfl ?_
    refine Jg_54_4 (nx := 37) dX4_isWorthIt_34 rfl fl_X4_18 ?_
    refine J_iload (nx := 39) dX4_isWorthIt_37 rfl rfl ?_
    refine JcS2 (R' := rm 0 0 0) (nx := 42) dX4_isWorthIt_39 rfl ml_X6_at lk_X4_70 st_X6_at ⟨(Nat.le_of_ble_eq_true rfl), (Nat.le_of_ble_eq_true rfl)⟩ (Nat.le_of_ble_eq_true rfl) ⟨rfl, rfl⟩ (ct_at _ 57 192 _ _ rfl (by decide)) ?_
    refine J_icmp_lt (nx := 45) (tgt := 47) dX4_isWorthIt_42 rfl (by decide) (fun c_42 => ?_) (fun c_42 => ?_)
    · refine J_aload_n (nx := 48) dX4_isWorthIt_47 rfl rfl ?_
      refine Jg_54_1 (nx := 51) dX4_isWorthIt_48 rfl fl_X4_25 ?_
      refine J_iload_n (nx := 52) dX4_isWorthIt_51 rfl rfl ?_
      refine J_iload_n (nx := 53) dX4_isWorthIt_52 rfl rfl ?_
      refine J_iconst (nx := 54) (i := 4) (v := 4) (by decide) dX4_isWorthIt_53 rfl ?_
      refine J_idiv (nx := 55) (by decide) dX4_isWorthIt_54 rfl ?_
      refine J_iload_n (nx := 56) dX4_isWorthIt_55 rfl rfl ?_
      refine JcV3 (R' := rm 4 0 0) (nx := 59) dX4_isWorthIt_56 rfl ml_X0_lay lk_X4_74 iv_X0_lay rfl rfl ⟨(Nat.le_of_ble_eq_true rfl), (Nat.le_of_ble_eq_true rfl)⟩ (Nat.le_of_ble_eq_true rfl) ⟨rfl, rfl⟩ (ct_lay1 _ _ _ _ q G (hP)) ?_
      refine J.gen (fun g_56 hg_56 => ?_)
      refine J_aload_n (nx := 60) dX4_isWorthIt_59 rfl rfl ?_
      refine Jg_54_1 (nx := 63) dX4_isWorthIt_60 rfl fl_X4_25 ?_
      refine J_iload_n (nx := 64) dX4_isWorthIt_63 rfl rfl ?_
      refine JcV1 (R' := rm 2 0 0) (nx := 67) dX4_isWorthIt_64 rfl ml_X0_gain lk_X4_79 iv_X0_gain rfl rfl ⟨(Nat.le_of_ble_eq_true rfl), (Nat.le_of_ble_eq_true rfl)⟩ (Nat.le_of_ble_eq_true rfl) ⟨rfl, rfl⟩ (ct_gain _ _) ?_
      refine J_if_le (nx := 70) (tgt := 74) dX4_isWorthIt_67 rfl (by decide) (fun c_67 => ?_) (fun c_67 => ?_)
      · have e5 : lwY g so st q G = g_56 := by rw [hg_56]; rfl
        refine J_iconst (nx := 75) (i := 0) (v := 0) (by decide) dX4_isWorthIt_74 rfl ?_
        refine J_istore (nx := 77) dX4_isWorthIt_75 rfl rfl (Nat.le_of_ble_eq_true rfl) ?_
        refine J_iload (nx := 79) dX4_isWorthIt_77 rfl rfl ?_
        refine J_if_eq (nx := 82) (tgt := 89) dX4_isWorthIt_79 rfl (by decide) (fun c_79 => ?_) (fun c_79 => ?_)
        · refine J_aload_n (nx := 90) dX4_isWorthIt_89 rfl rfl ?_
          refine Jg_54_4 (nx := 93) dX4_isWorthIt_90 rfl fl_X4_18 ?_
          refine J_iload (nx := 95) dX4_isWorthIt_93 rfl rfl ?_
          refine J_iload_n (nx := 96) dX4_isWorthIt_95 rfl rfl ?_
          refine JcS3 (R' := rm 0 0 0) (nx := 99) dX4_isWorthIt_96 rfl ml_X6_put lk_X4_40 st_X6_put ⟨(Nat.le_of_ble_eq_true rfl), (Nat.le_of_ble_eq_true rfl)⟩ (Nat.le_of_ble_eq_true rfl) ⟨rfl, rfl⟩ (ct_put _ 57 192 _ _ rfl (fun _ => rfl) (by decide)) ?_
          refine J.gen (fun g_96 hg_96 => ?_)
          refine J_iload (nx := 101) dX4_isWorthIt_99 rfl rfl ?_
          exact Jrz dX4_isWorthIt_101 rfl (by decide) (Nat.zero_le _) (Nat.zero_le _) ⟨(show Sum.inl (some (Value.int 0)) = Sum.inl (some (Value.int (bI (lwR g so st q G)))) from by rw [show lwR g so st q G = false from (if_pos c_27).trans ((if_pos c_42).trans (if_pos (show gnI (lwY g so st q G) st ≤ 0 from by rw [e5]; exact c_67)))]; rfl), by rw [hg_96, show lwG g so st q G = sA (lwY g so st q G) 57 (rPut 192 (gA (lwY g so st q G) 57) (32 * so + st) (bk_cn g 20 so)) from (if_pos c_27).trans ((if_pos c_42).trans (if_pos (show gnI (lwY g so st q G) st ≤ 0 from by rw [e5]; exact c_67))), e5]⟩
        · refine J_aload_n (nx := 83) dX4_isWorthIt_82 rfl rfl ?_
          refine Jg_54_3 (nx := 86) dX4_isWorthIt_83 rfl fl_X4_15 ?_
          refine J_goto (nx := 93) dX4_isWorthIt_86 (by decide) ?_
          refine J_iload (nx := 95) dX4_isWorthIt_93 rfl rfl ?_
          refine J_iload_n (nx := 96) dX4_isWorthIt_95 rfl rfl ?_
          refine JcS3 (R' := rm 0 0 0) (nx := 99) dX4_isWorthIt_96 rfl ml_X6_put lk_X4_40 st_X6_put ⟨(Nat.le_of_ble_eq_true rfl), (Nat.le_of_ble_eq_true rfl)⟩ (Nat.le_of_ble_eq_true rfl) ⟨rfl, rfl⟩ (ct_put _ 56 192 _ _ rfl (fun _ => rfl) (by decide)) ?_
          refine J.gen (fun g_96 hg_96 => ?_)
          refine J_iload (nx := 101) dX4_isWorthIt_99 rfl rfl ?_
          exact Jrz dX4_isWorthIt_101 rfl (by decide) (Nat.zero_le _) (Nat.zero_le _) (absurd rfl c_79)
      · have e5 : lwY g so st q G = g_56 := by rw [hg_56]; rfl
        refine J_iconst (nx := 71) (i := 1) (v := 1) (by decide) dX4_isWorthIt_70 rfl ?_
        refine J_goto (nx := 75) dX4_isWorthIt_71 (by decide) ?_
        refine J_istore (nx := 77) dX4_isWorthIt_75 rfl rfl (Nat.le_of_ble_eq_true rfl) ?_
        refine J_iload (nx := 79) dX4_isWorthIt_77 rfl rfl ?_
        refine J_if_eq (nx := 82) (tgt := 89) dX4_isWorthIt_79 rfl (by decide) (fun c_79 => ?_) (fun c_79 => ?_)
        · refine J_aload_n (nx := 90) dX4_isWorthIt_89 rfl rfl ?_
          refine Jg_54_4 (nx := 93) dX4_isWorthIt_90 rfl fl_X4_18 ?_
          refine J_iload (nx := 95) dX4_isWorthIt_93 rfl rfl ?_
          refine J_iload_n (nx := 96) dX4_isWorthIt_95 rfl rfl ?_
          refine JcS3 (R' := rm 0 0 0) (nx := 99) dX4_isWorthIt_96 rfl ml_X6_put lk_X4_40 st_X6_put ⟨(Nat.le_of_ble_eq_true rfl), (Nat.le_of_ble_eq_true rfl)⟩ (Nat.le_of_ble_eq_true rfl) ⟨rfl, rfl⟩ (ct_put _ 57 192 _ _ rfl (fun _ => rfl) (by decide)) ?_
          refine J.gen (fun g_96 hg_96 => ?_)
          refine J_iload (nx := 101) dX4_isWorthIt_99 rfl rfl ?_
          exact Jrz dX4_isWorthIt_101 rfl (by decide) (Nat.zero_le _) (Nat.zero_le _) (absurd c_79 (by decide))
        · refine J_aload_n (nx := 83) dX4_isWorthIt_82 rfl rfl ?_
          refine Jg_54_3 (nx := 86) dX4_isWorthIt_83 rfl fl_X4_15 ?_
          refine J_goto (nx := 93) dX4_isWorthIt_86 (by decide) ?_
          refine J_iload (nx := 95) dX4_isWorthIt_93 rfl rfl ?_
          refine J_iload_n (nx := 96) dX4_isWorthIt_95 rfl rfl ?_
          refine JcS3 (R' := rm 0 0 0) (nx := 99) dX4_isWorthIt_96 rfl ml_X6_put lk_X4_40 st_X6_put ⟨(Nat.le_of_ble_eq_true rfl), (Nat.le_of_ble_eq_true rfl)⟩ (Nat.le_of_ble_eq_true rfl) ⟨rfl, rfl⟩ (ct_put _ 56 192 _ _ rfl (fun _ => rfl) (by decide)) ?_
          refine J.gen (fun g_96 hg_96 => ?_)
          refine J_iload (nx := 101) dX4_isWorthIt_99 rfl rfl ?_
          exact Jrz dX4_isWorthIt_101 rfl (by decide) (Nat.zero_le _) (Nat.zero_le _) ⟨(show Sum.inl (some (Value.int 1)) = Sum.inl (some (Value.int (bI (lwR g so st q G)))) from by rw [show lwR g so st q G = true from (if_pos c_27).trans ((if_pos c_42).trans (if_neg (show ¬ gnI (lwY g so st q G) st ≤ 0 from by rw [e5]; exact c_67)))]; rfl), by rw [hg_96, show lwG g so st q G = sA (lwY g so st q G) 56 (rPut 192 (gA (lwY g so st q G) 56) (32 * so + st) (bk_cn g 20 so)) from (if_pos c_27).trans ((if_pos c_42).trans (if_neg (show ¬ gnI (lwY g so st q G) st ≤ 0 from by rw [e5]; exact c_67))), e5]⟩
    · refine J_iconst (nx := 46) (i := 0) (v := 0) (by decide) dX4_isWorthIt_45 rfl ?_
      exact Jrz dX4_isWorthIt_46 rfl (by decide) (Nat.zero_le _) (Nat.zero_le _) ⟨(show Sum.inl (some (Value.int 0)) = Sum.inl (some (Value.int (bI (lwR g so st q G)))) from by rw [show lwR g so st q G = false from (if_pos c_27).trans (if_neg c_42)]; rfl), by rw [show lwG g so st q G = g from (if_pos c_27).trans (if_neg c_42)]⟩
  · refine J_iconst (nx := 31) (i := 1) (v := 1) (by decide) dX4_isWorthIt_30 rfl ?_
    exact Jrz dX4_isWorthIt_31 rfl (by decide) (Nat.zero_le _) (Nat.zero_le _) ⟨(show Sum.inl (some (Value.int 1)) = Sum.inl (some (Value.int (bI (lwR g so st q G)))) from by rw [show lwR g so st q G = true from if_neg c_27]; rfl), by rw [show lwG g so st q G = g from if_neg c_27]⟩

theorem lrS_no {q : Option CD} {G so s : Nat} {p : Bool × GS} (h : bk_rt p.2 20 (nI so) (nI s) ≤ 0) : lrS q G so s p = p := by unfold lrS; exact if_pos h
theorem lrS_yes {q : Option CD} {G so s : Nat} {p : Bool × GS} {g1 g2 : GS} {nx : Int32} {c : Bool} (h : ¬ bk_rt p.2 20 (nI so) (nI s) ≤ 0) (hw : g1 = lwG p.2 (nI so) (nI s) q G) (hN : lrN p.2 so s q G = nx) (h2 : g2 = bk_sr g1 20 (nI so) (nI s) nx) (hc : (if nx = bk_rt p.2 20 (nI so) (nI s) then false else true) = c) : lrS q G so s p = (p.1 || c, g2) := by
  unfold lrS
  rw [if_neg h, hN, hc, ← hw, h2]
theorem lrN_y {g : GS} {q : Option CD} {G so s : Nat} (c : ¬ bI (lwR g (nI so) (nI s) q G) = 0) : lrN g so s q G = mnI 999 (bk_rt g 20 (nI so) (nI s) + 1) := by
  unfold lrN
  cases h : lwR g (nI so) (nI s) q G
  · rw [h] at c; exact absurd rfl c
  · rfl
theorem lrN_n {g : GS} {q : Option CD} {G so s : Nat} (c : bI (lwR g (nI so) (nI s) q G) = 0) : lrN g so s q G = bk_rt g 20 (nI so) (nI s) - 1 := by
  unfold lrN
  cases h : lwR g (nI so) (nI s) q G
  · rfl
  · rw [h] at c; exact absurd c (by decide)
theorem bI_or1 (b : Bool) : bI b ||| 1 = bI (b || true) := bI_or b true
theorem bI_or0 (b : Bool) : bI b ||| 0 = bI (b || false) := bI_or b false

set_option maxRecDepth 100000 in
set_option maxHeartbeats 4000000 in
theorem lp_round (q : Option CD) (G so : Nat) (p : Bool × GS) (hL : LayOK p.2 q G) (Q : Res → List ME → Prop) (n0 : Nat) (hK : J mX4_roundChanges (rm 6 0 0) Q n0 99 [some (.ref 54), some (.int (bI (itN (lrS q G so) 32 p).1)), some (.int (nI so)), some (.int (nI 32)), none, none] [] (Wd (itN (lrS q G so) 32 p).2) 0 0) : ∀ (k w : Nat), w ≤ 32 → 32 + 1 ≤ w + k → J mX4_roundChanges (rm 6 0 0) Q n0 17 [some (.ref 54), some (.int (bI (itN (lrS q G so) w p).1)), some (.int (nI so)), some (.int (nI w)), none, none] [] (Wd (itN (lrS q G so) w p).2) 0 0 := by
  intro k
  induction k with
  | zero => intro w h1 h2; exact absurd h2 (by omega)
  | succ k ih =>
    intro w h1 h2
    refine J_iload_n (nx := 18) dX4_roundChanges_17 rfl rfl ?_
    refine J_bipush (nx := 20) (i := 32) (v := 32) (by decide) dX4_roundChanges_18 rfl ?_
    refine J_icmp_ge (nx := 23) (tgt := 99) dX4_roundChanges_20 rfl (by decide) (fun c_20 => ?_) (fun c_20 => ?_)
    · obtain rfl : w = 32 := cge h1 (by omega) c_20
      exact hK
    · have hw : w < 32 := clt h1 (by omega) c_20
      have ih2 := ih (w + 1) (by omega) (by omega)
      have hP := hL.lrI so w
      rw [← nI_s w, itN_s (lrS q G so) w p] at ih2
      generalize itN (lrS q G so) w p = P at ih2 hP ⊢
      refine J_aload_n (nx := 24) dX4_roundChanges_23 rfl rfl ?_
      refine Jg_54_0 (nx := 27) dX4_roundChanges_24 rfl fl_X4_21 ?_
      refine J_iload_n (nx := 28) dX4_roundChanges_27 rfl rfl ?_
      refine J_iload_n (nx := 29) dX4_roundChanges_28 rfl rfl ?_
      refine JcV2 (R' := rm 1 0 0) (nx := 32) dX4_roundChanges_29 rfl ml_X1_rateOf lk_X4_49 iv_X1_rateOf rfl rfl ⟨(Nat.le_of_ble_eq_true rfl), (Nat.le_of_ble_eq_true rfl)⟩ (Nat.le_of_ble_eq_true rfl) ⟨rfl, rfl⟩ (ct_X1_rateOf _ _ _) ?_
      refine J_istore (nx := 34) dX4_roundChanges_32 rfl rfl (Nat.le_of_ble_eq_true rfl) ?_
      refine J_iload (nx := 36) dX4_roundChanges_34 rfl rfl ?_
      refine J_if_le (nx := 39) (tgt := 93) dX4_roundChanges_36 rfl (by decide) (fun c_36 => ?_) (fun c_36 => ?_)
      · refine J_iinc (nx := 96) dX4_roundChanges_93 rfl rfl rfl (Nat.le_of_ble_eq_true rfl) ?_
        refine J_goto (nx := 17) dX4_roundChanges_96 (by decide) ?_
        first
          | (rw [lrS_no c_36] at ih2; refine J_kill (nx := 0) 4 ?_; exact ih2)
          | (refine J_kill (nx := 0) 4 ?_
             refine J_kill (nx := 0) 5 ?_
             first
               | (rw [lrS_yes c_36 hg_42 (by first | exact lrN_y c_45 | exact lrN_n c_45) hg_75 (if_pos c_83), ← bI_or0] at ih2; exact ih2)
               | (rw [lrS_yes c_36 hg_42 (by first | exact lrN_y c_45 | exact lrN_n c_45) hg_75 (if_neg c_83), ← bI_or1] at ih2; exact ih2))
      · refine J_aload_n (nx := 40) dX4_roundChanges_39 rfl rfl ?_
        refine J_iload_n (nx := 41) dX4_roundChanges_40 rfl rfl ?_
        refine J_iload_n (nx := 42) dX4_roundChanges_41 rfl rfl ?_
        refine JcV2 (R' := rm 5 0 0) (nx := 45) dX4_roundChanges_42 rfl ml_X4_isWorthIt lk_X4_53 iv_X4_isWorthIt rfl rfl ⟨(Nat.le_of_ble_eq_true rfl), (Nat.le_of_ble_eq_true rfl)⟩ (Nat.le_of_ble_eq_true rfl) ⟨rfl, rfl⟩ (ct_isWorthIt _ _ _ q G (hP)) ?_
        refine J.gen (fun g_42 hg_42 => ?_)
        refine J_if_eq (nx := 48) (tgt := 61) dX4_roundChanges_45 rfl (by decide) (fun c_45 => ?_) (fun c_45 => ?_)
        · refine J_iload (nx := 63) dX4_roundChanges_61 rfl rfl ?_
          refine J_iconst (nx := 64) (i := 1) (v := 1) (by decide) dX4_roundChanges_63 rfl ?_
          refine J_isub (nx := 65) dX4_roundChanges_64 rfl ?_
          refine J_istore (nx := 67) dX4_roundChanges_65 rfl rfl (Nat.le_of_ble_eq_true rfl) ?_
          refine J_aload_n (nx := 68) dX4_roundChanges_67 rfl rfl ?_
          refine Jg_54_0 (nx := 71) dX4_roundChanges_68 rfl fl_X4_21 ?_
          refine J_iload_n (nx := 72) dX4_roundChanges_71 rfl rfl ?_
          refine J_iload_n (nx := 73) dX4_roundChanges_72 rfl rfl ?_
          refine J_iload (nx := 75) dX4_roundChanges_73 rfl rfl ?_
          refine JcV3 (R' := rm 1 0 0) (nx := 78) dX4_roundChanges_75 rfl ml_X1_setRate lk_X4_62 iv_X1_setRate rfl rfl ⟨(Nat.le_of_ble_eq_true rfl), (Nat.le_of_ble_eq_true rfl)⟩ (Nat.le_of_ble_eq_true rfl) ⟨rfl, rfl⟩ (ct_X1_setRate _ _ _ _) ?_
          refine J.gen (fun g_75 hg_75 => ?_)
          refine J_iload_n (nx := 79) dX4_roundChanges_78 rfl rfl ?_
          refine J_iload (nx := 81) dX4_roundChanges_79 rfl rfl ?_
          refine J_iload (nx := 83) dX4_roundChanges_81 rfl rfl ?_
          refine J_icmp_eq (nx := 86) (tgt := 90) dX4_roundChanges_83 rfl (by decide) (fun c_83 => ?_) (fun c_83 => ?_)
          · refine J_iconst (nx := 91) (i := 0) (v := 0) (by decide) dX4_roundChanges_90 rfl ?_
            refine J_ior (nx := 92) dX4_roundChanges_91 rfl ?_
            refine J_istore_n (nx := 93) dX4_roundChanges_92 rfl rfl (Nat.le_of_ble_eq_true rfl) ?_
            refine J_iinc (nx := 96) dX4_roundChanges_93 rfl rfl rfl (Nat.le_of_ble_eq_true rfl) ?_
            refine J_goto (nx := 17) dX4_roundChanges_96 (by decide) ?_
            first
              | (rw [lrS_no c_36] at ih2; refine J_kill (nx := 0) 4 ?_; exact ih2)
              | (refine J_kill (nx := 0) 4 ?_
                 refine J_kill (nx := 0) 5 ?_
                 first
                   | (rw [lrS_yes c_36 hg_42 (by first | exact lrN_y c_45 | exact lrN_n c_45) hg_75 (if_pos c_83), ← bI_or0] at ih2; exact ih2)
                   | (rw [lrS_yes c_36 hg_42 (by first | exact lrN_y c_45 | exact lrN_n c_45) hg_75 (if_neg c_83), ← bI_or1] at ih2; exact ih2))
          · refine J_iconst (nx := 87) (i := 1) (v := 1) (by decide) dX4_roundChanges_86 rfl ?_
            refine J_goto (nx := 91) dX4_roundChanges_87 (by decide) ?_
            refine J_ior (nx := 92) dX4_roundChanges_91 rfl ?_
            refine J_istore_n (nx := 93) dX4_roundChanges_92 rfl rfl (Nat.le_of_ble_eq_true rfl) ?_
            refine J_iinc (nx := 96) dX4_roundChanges_93 rfl rfl rfl (Nat.le_of_ble_eq_true rfl) ?_
            refine J_goto (nx := 17) dX4_roundChanges_96 (by decide) ?_
            first
              | (rw [lrS_no c_36] at ih2; refine J_kill (nx := 0) 4 ?_; exact ih2)
              | (refine J_kill (nx := 0) 4 ?_
                 refine J_kill (nx := 0) 5 ?_
                 first
                   | (rw [lrS_yes c_36 hg_42 (by first | exact lrN_y c_45 | exact lrN_n c_45) hg_75 (if_pos c_83), ← bI_or0] at ih2; exact ih2)
                   | (rw [lrS_yes c_36 hg_42 (by first | exact lrN_y c_45 | exact lrN_n c_45) hg_75 (if_neg c_83), ← bI_or1] at ih2; exact ih2))
        · refine J_sipush (nx := 51) (i := 999) (v := 999) (by decide) dX4_roundChanges_48 rfl ?_
          refine J_iload (nx := 53) dX4_roundChanges_51 rfl rfl ?_
          refine J_iconst (nx := 54) (i := 1) (v := 1) (by decide) dX4_roundChanges_53 rfl ?_
          refine J_iadd (nx := 55) dX4_roundChanges_54 rfl ?_
          refine JcS2 (R' := rm 0 0 0) (nx := 58) dX4_roundChanges_55 rfl ml_J9_min_7cf53 lk_X4_57 st_J9_min_7cf53 ⟨(Nat.le_of_ble_eq_true rfl), (Nat.le_of_ble_eq_true rfl)⟩ (Nat.le_of_ble_eq_true rfl) ⟨rfl, rfl⟩ (ct_min _ _ _) ?_
          refine J_goto (nx := 65) dX4_roundChanges_58 (by decide) ?_
          refine J_istore (nx := 67) dX4_roundChanges_65 rfl rfl (Nat.le_of_ble_eq_true rfl) ?_
          refine J_aload_n (nx := 68) dX4_roundChanges_67 rfl rfl ?_
          refine Jg_54_0 (nx := 71) dX4_roundChanges_68 rfl fl_X4_21 ?_
          refine J_iload_n (nx := 72) dX4_roundChanges_71 rfl rfl ?_
          refine J_iload_n (nx := 73) dX4_roundChanges_72 rfl rfl ?_
          refine J_iload (nx := 75) dX4_roundChanges_73 rfl rfl ?_
          refine JcV3 (R' := rm 1 0 0) (nx := 78) dX4_roundChanges_75 rfl ml_X1_setRate lk_X4_62 iv_X1_setRate rfl rfl ⟨(Nat.le_of_ble_eq_true rfl), (Nat.le_of_ble_eq_true rfl)⟩ (Nat.le_of_ble_eq_true rfl) ⟨rfl, rfl⟩ (ct_X1_setRate _ _ _ _) ?_
          refine J.gen (fun g_75 hg_75 => ?_)
          refine J_iload_n (nx := 79) dX4_roundChanges_78 rfl rfl ?_
          refine J_iload (nx := 81) dX4_roundChanges_79 rfl rfl ?_
          refine J_iload (nx := 83) dX4_roundChanges_81 rfl rfl ?_
          refine J_icmp_eq (nx := 86) (tgt := 90) dX4_roundChanges_83 rfl (by decide) (fun c_83 => ?_) (fun c_83 => ?_)
          · refine J_iconst (nx := 91) (i := 0) (v := 0) (by decide) dX4_roundChanges_90 rfl ?_
            refine J_ior (nx := 92) dX4_roundChanges_91 rfl ?_
            refine J_istore_n (nx := 93) dX4_roundChanges_92 rfl rfl (Nat.le_of_ble_eq_true rfl) ?_
            refine J_iinc (nx := 96) dX4_roundChanges_93 rfl rfl rfl (Nat.le_of_ble_eq_true rfl) ?_
            refine J_goto (nx := 17) dX4_roundChanges_96 (by decide) ?_
            first
              | (rw [lrS_no c_36] at ih2; refine J_kill (nx := 0) 4 ?_; exact ih2)
              | (refine J_kill (nx := 0) 4 ?_
                 refine J_kill (nx := 0) 5 ?_
                 first
                   | (rw [lrS_yes c_36 hg_42 (by first | exact lrN_y c_45 | exact lrN_n c_45) hg_75 (if_pos c_83), ← bI_or0] at ih2; exact ih2)
                   | (rw [lrS_yes c_36 hg_42 (by first | exact lrN_y c_45 | exact lrN_n c_45) hg_75 (if_neg c_83), ← bI_or1] at ih2; exact ih2))
          · refine J_iconst (nx := 87) (i := 1) (v := 1) (by decide) dX4_roundChanges_86 rfl ?_
            refine J_goto (nx := 91) dX4_roundChanges_87 (by decide) ?_
            refine J_ior (nx := 92) dX4_roundChanges_91 rfl ?_
            refine J_istore_n (nx := 93) dX4_roundChanges_92 rfl rfl (Nat.le_of_ble_eq_true rfl) ?_
            refine J_iinc (nx := 96) dX4_roundChanges_93 rfl rfl rfl (Nat.le_of_ble_eq_true rfl) ?_
            refine J_goto (nx := 17) dX4_roundChanges_96 (by decide) ?_
            first
              | (rw [lrS_no c_36] at ih2; refine J_kill (nx := 0) 4 ?_; exact ih2)
              | (refine J_kill (nx := 0) 4 ?_
                 refine J_kill (nx := 0) 5 ?_
                 first
                   | (rw [lrS_yes c_36 hg_42 (by first | exact lrN_y c_45 | exact lrN_n c_45) hg_75 (if_pos c_83), ← bI_or0] at ih2; exact ih2)
                   | (rw [lrS_yes c_36 hg_42 (by first | exact lrN_y c_45 | exact lrN_n c_45) hg_75 (if_neg c_83), ← bI_or1] at ih2; exact ih2))

set_option maxRecDepth 100000 in
set_option maxHeartbeats 4000000 in
theorem lp_round0 (q : Option CD) (G so : Nat) (p : Bool × GS) (hL : LayOK p.2 q G) (Q : Res → List ME → Prop) (n0 : Nat) (hK : J mX4_roundChanges (rm 6 0 0) Q n0 99 [some (.ref 54), some (.int (bI (itN (lrS q G so) 32 p).1)), some (.int (nI so)), some (.int (nI 32)), none, none] [] (Wd (itN (lrS q G so) 32 p).2) 0 0) : J mX4_roundChanges (rm 6 0 0) Q n0 17 [some (.ref 54), some (.int (bI p.1)), some (.int (nI so)), some (.int 0), none, none] [] (Wd p.2) 0 0 := lp_round q G so p hL Q n0 hK 33 0 (by omega) (by omega)

set_option maxRecDepth 100000 in
set_option maxHeartbeats 4000000 in
theorem lp_rounds (q : Option CD) (G n : Nat) (p : Bool × GS) (hL : LayOK p.2 q G) (hn : n < 2 ^ 30) (hN : gF p.2 20 11 = nI n) (Q : Res → List ME → Prop) (n0 : Nat) (hK : J mX4_roundChanges (rm 6 0 0) Q n0 105 [some (.ref 54), some (.int (bI (itN (lrT q G) n p).1)), some (.int (nI n)), none, none, none] [] (Wd (itN (lrT q G) n p).2) 0 0) : ∀ (k w : Nat), w ≤ n → n + 1 ≤ w + k → J mX4_roundChanges (rm 6 0 0) Q n0 4 [some (.ref 54), some (.int (bI (itN (lrT q G) w p).1)), some (.int (nI w)), none, none, none] [] (Wd (itN (lrT q G) w p).2) 0 0 := by
  intro k
  induction k with
  | zero => intro w h1 h2; exact absurd h2 (by omega)
  | succ k ih =>
    intro w h1 h2
    refine J_iload_n (nx := 5) dX4_roundChanges_4 rfl rfl ?_
    refine J_aload_n (nx := 6) dX4_roundChanges_5 rfl rfl ?_
    refine Jg_54_0 (nx := 9) dX4_roundChanges_6 rfl fl_X4_21 ?_
    refine Jg_20_11 (nx := 12) dX4_roundChanges_9 rfl fl_X4_45 ?_
    refine J_icmp_ge (nx := 15) (tgt := 105) dX4_roundChanges_12 rfl (by decide) (fun c_12 => ?_) (fun c_12 => ?_)
    · rw [lrT_F11, hN] at c_12
      obtain rfl : w = n := cge h1 (by omega) c_12
      exact hK
    · rw [lrT_F11, hN] at c_12
      have hw : w < n := clt h1 (by omega) c_12
      have ih2 := ih (w + 1) (by omega) (by omega)
      have hP := hL.lrT w
      rw [← nI_s w, itN_s (lrT q G) w p] at ih2
      generalize itN (lrT q G) w p = P at ih2 hP ⊢
      refine J_iconst (nx := 16) (i := 0) (v := 0) (by decide) dX4_roundChanges_15 rfl ?_
      refine J_istore_n (nx := 17) dX4_roundChanges_16 rfl rfl (Nat.le_of_ble_eq_true rfl) ?_
      refine lp_round0 q G w P hP _ _ ?_
      rw [lrT_e] at ih2
      generalize itN (lrS q G w) 32 P = Z at ih2 ⊢
      refine J_iinc (nx := 102) dX4_roundChanges_99 rfl rfl rfl (Nat.le_of_ble_eq_true rfl) ?_
      refine J_goto (nx := 4) dX4_roundChanges_102 (by decide) ?_
      refine J_kill (nx := 0) 3 ?_
      exact ih2
theorem lp_rounds0 (q : Option CD) (G n : Nat) (p : Bool × GS) (hL : LayOK p.2 q G) (hn : n < 2 ^ 30) (hN : gF p.2 20 11 = nI n) (Q : Res → List ME → Prop) (n0 : Nat) (hK : J mX4_roundChanges (rm 6 0 0) Q n0 105 [some (.ref 54), some (.int (bI (itN (lrT q G) n p).1)), some (.int (nI n)), none, none, none] [] (Wd (itN (lrT q G) n p).2) 0 0) : J mX4_roundChanges (rm 6 0 0) Q n0 4 [some (.ref 54), some (.int (bI p.1)), some (.int 0), none, none, none] [] (Wd p.2) 0 0 := lp_rounds q G n p hL hn hN Q n0 hK (n + 1) 0 (by omega) (by omega)

set_option maxRecDepth 100000 in
set_option maxHeartbeats 4000000 in
theorem ct_round (g : GS) (q : Option CD) (G n : Nat) (hL : LayOK g q G) (hn : n < 2 ^ 30) (hN : gF g 20 11 = nI n) : Ct mX4_roundChanges (rm 6 0 0) [.ref 54] (Wd g) (RR (.inl (some (.int (bI (itN (lrT q G) n (false, g)).1)))) (itN (lrT q G) n (false, g)).2) := by
  refine Ct.of (by decide +kernel) (Nat.le_of_ble_eq_true rfl) ?_
  show J _ _ _ _ 0 [some (.ref 54), none, none, none, none, none] [] _ 0 0
  refine J_iconst (nx := 1) (i := 0) (v := 0) (by decide) dX4_roundChanges_0 rfl ?_
  refine J_istore_n (nx := 2) dX4_roundChanges_1 rfl rfl (Nat.le_of_ble_eq_true rfl) ?_
  refine J_iconst (nx := 3) (i := 0) (v := 0) (by decide) dX4_roundChanges_2 rfl ?_
  refine J_istore_n (nx := 4) dX4_roundChanges_3 rfl rfl (Nat.le_of_ble_eq_true rfl) ?_
  refine lp_rounds0 q G n (false, g) hL hn hN _ _ ?_
  generalize itN (lrT q G) n (false, g) = P
  refine J_iload_n (nx := 106) dX4_roundChanges_105 rfl rfl ?_
  exact Jrz dX4_roundChanges_106 rfl (bI_nar _) (Nat.zero_le _) (Nat.zero_le _) ⟨rfl, rfl⟩

