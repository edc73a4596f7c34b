
/-! Bench -/
def fput (g : GS) (i x : Int32) : GS := sA g 48 (rPut 8 (gA g 48) i x)
def gwG0 (g : GS) (m : Int32) : GS := fput (fput (fput g 4 m) 5 (mxI 0 (gF g 20 15))) 6 (mxI 0 (-(gF g 20 15)))
def gwV (g : GS) (m : Int32) : Option CD → Int32
  | none => 10000
  | some cd => mxI 0 (mnI 30000 (cdT cd (gA (gwG0 g m) 48) cd.1 0 0 (gA (gwG0 g m) 49)).1)
def gwG (g : GS) (m : Int32) : Option CD → GS
  | none => gwG0 g m
  | some cd => sA (gwG0 g m) 49 (cdT cd (gA (gwG0 g m) 48) cd.1 0 0 (gA (gwG0 g m) 49)).2
/-- the GOALS that the book holds: none told, or a Code -/
def GoalsAt (g : GS) : Option CD → Prop
  | none => gF g 20 8 = 0
  | some cd => (¬ gF g 20 8 = 0) ∧ ∃ c, gV g 20 7 = .ref c ∧ CodeT (gT g) c cd
def ltI (g : GS) (st t : Int32) : Int32 := rAt 1952 (gA g 50) (mxI 0 t * 32 + st)
def wsI (g : GS) (j s on wt : Int32) : Int32 :=
  if gF g 40 8 = -1 then (if s / 4 < gF g 40 10 then 0 else if gF g 40 11 ≤ s - s / 4 * 4 then 2 else 0)
  else if gF g 40 8 = 0 then 0 else if gF g 40 8 = 1 then 1
  else if gF g 40 8 = 2 then (if s < gF g 40 9 then 0 else 2)
  else if gF g 40 8 = 3 then (if gF g 40 14 < on then (if on < wt then 2 else 1) else if gF g 40 14 < wt then (if on < wt then 2 else 1) else 0)
  else if gF g 40 8 = 4 then (if gF g 40 12 ≤ j then (if gF g 40 14 < on then 1 else 0) else 2)
  else 2

set_option maxRecDepth 100000 in
set_option maxHeartbeats 4000000 in
theorem ct_gw0 (g : GS) (m : Int32) (h8 : gF g 20 8 = 0) : Ct mX0_goalWorthAt (rm 3 0 0) [.ref 40, .int m] (Wd g) (RR (.inl (some (.int (gwV g m none)))) (gwG g m none)) := by
  refine Ct.of (by decide +kernel) (Nat.le_of_ble_eq_true rfl) ?_
  show J _ _ _ _ 0 [some (.ref 40), some (.int m)] [] _ 0 0
  refine J_aload_n (nx := 1) dX0_goalWorthAt_0 rfl rfl ?_
  refine Jg_40_2 (nx := 4) dX0_goalWorthAt_1 rfl fl_X0_18 ?_
  refine J_iconst (nx := 5) (i := 4) (v := 4) (by decide) dX0_goalWorthAt_4 rfl ?_
  refine J_iload_n (nx := 6) dX0_goalWorthAt_5 rfl rfl ?_
  refine JcS3 (R' := rm 0 0 0) (nx := 9) dX0_goalWorthAt_6 rfl ml_X6_put lk_X0_41 st_X6_put ⟨(Nat.le_of_ble_eq_true rfl), (Nat.le_of_ble_eq_true rfl)⟩ (Nat.le_of_ble_eq_true rfl) ⟨rfl, rfl⟩ (ct_put _ 48 8 _ _ rfl (fun _ => rfl) (by decide)) ?_
  refine J.gen (fun g_6 hg_6 => ?_)
  refine J_aload_n (nx := 10) dX0_goalWorthAt_9 rfl rfl ?_
  refine Jg_40_2 (nx := 13) dX0_goalWorthAt_10 rfl fl_X0_18 ?_
  refine J_iconst (nx := 14) (i := 5) (v := 5) (by decide) dX0_goalWorthAt_13 rfl ?_
  refine J_iconst (nx := 15) (i := 0) (v := 0) (by decide) dX0_goalWorthAt_14 rfl ?_
  refine J_aload_n (nx := 16) dX0_goalWorthAt_15 rfl rfl ?_
  refine Jg_40_0 (nx := 19) dX0_goalWorthAt_16 rfl fl_X0_37 ?_
  refine Jg_20_15 (nx := 22) dX0_goalWorthAt_19 rfl fl_X0_47 ?_
  refine JcS2 (R' := rm 0 0 0) (nx := 25) dX0_goalWorthAt_22 rfl ml_J9_max_7cf53 lk_X0_53 st_J9_max_7cf53 ⟨(Nat.le_of_ble_eq_true rfl), (Nat.le_of_ble_eq_true rfl)⟩ (Nat.le_of_ble_eq_true rfl) ⟨rfl, rfl⟩ (ct_max _ _ _) ?_
  refine JcS3 (R' := rm 0 0 0) (nx := 28) dX0_goalWorthAt_25 rfl ml_X6_put lk_X0_41 st_X6_put ⟨(Nat.le_of_ble_eq_true rfl), (Nat.le_of_ble_eq_true rfl)⟩ (Nat.le_of_ble_eq_true rfl) ⟨rfl, rfl⟩ (ct_put _ 48 8 _ _ rfl (fun _ => rfl) (by decide)) ?_
  refine J.gen (fun g_25 hg_25 => ?_)
  refine J_aload_n (nx := 29) dX0_goalWorthAt_28 rfl rfl ?_
  refine Jg_40_2 (nx := 32) dX0_goalWorthAt_29 rfl fl_X0_18 ?_
  refine J_bipush (nx := 34) (i := 6) (v := 6) (by decide) dX0_goalWorthAt_32 rfl ?_
  refine J_iconst (nx := 35) (i := 0) (v := 0) (by decide) dX0_goalWorthAt_34 rfl ?_
  refine J_aload_n (nx := 36) dX0_goalWorthAt_35 rfl rfl ?_
  refine Jg_40_0 (nx := 39) dX0_goalWorthAt_36 rfl fl_X0_37 ?_
  refine Jg_20_15 (nx := 42) dX0_goalWorthAt_39 rfl fl_X0_47 ?_
  refine J_ineg (nx := 43) dX0_goalWorthAt_42 rfl ?_
  refine JcS2 (R' := rm 0 0 0) (nx := 46) dX0_goalWorthAt_43 rfl ml_J9_max_7cf53 lk_X0_53 st_J9_max_7cf53 ⟨(Nat.le_of_ble_eq_true rfl), (Nat.le_of_ble_eq_true rfl)⟩ (Nat.le_of_ble_eq_true rfl) ⟨rfl, rfl⟩ (ct_max _ _ _) ?_
  refine JcS3 (R' := rm 0 0 0) (nx := 49) dX0_goalWorthAt_46 rfl ml_X6_put lk_X0_41 st_X6_put ⟨(Nat.le_of_ble_eq_true rfl), (Nat.le_of_ble_eq_true rfl)⟩ (Nat.le_of_ble_eq_true rfl) ⟨rfl, rfl⟩ (ct_put _ 48 8 _ _ rfl (fun _ => rfl) (by decide)) ?_
  refine J.gen (fun g_46 hg_46 => ?_)
  refine J_aload_n (nx := 50) dX0_goalWorthAt_49 rfl rfl ?_
  refine Jg_40_0 (nx := 53) dX0_goalWorthAt_50 rfl fl_X0_37 ?_
  refine Jg_20_8 (nx := 56) dX0_goalWorthAt_53 rfl fl_X0_59 ?_
  refine J_if_ne (nx := 59) (tgt := 63) dX0_goalWorthAt_56 rfl (by decide) (fun c_56 => ?_) (fun c_56 => ?_)
  · exact absurd (show gF g_46 20 8 = 0 from by rw [hg_46, hg_25, hg_6]; exact h8) c_56
  · refine J_sipush (nx := 62) (i := 10000) (v := 10000) (by decide) dX0_goalWorthAt_59 rfl ?_
    subst hg_46
    subst hg_25
    subst hg_6
    exact Jri dX0_goalWorthAt_62 rfl (Nat.zero_le _) (Nat.zero_le _) ⟨rfl, rfl⟩

set_option maxRecDepth 100000 in
set_option maxHeartbeats 4000000 in
theorem ct_gw1 (g : GS) (m : Int32) (c : Nat) (cd : CD) (h8 : ¬ gF g 20 8 = 0) (hV : gV g 20 7 = .ref c) (hc : CodeT (gT g) c cd) : Ct mX0_goalWorthAt (rm 3 0 0) [.ref 40, .int m] (Wd g) (RR (.inl (some (.int (gwV g m (some cd))))) (gwG g m (some cd))) := by
  refine Ct.of (by decide +kernel) (Nat.le_of_ble_eq_true rfl) ?_
  show J _ _ _ _ 0 [some (.ref 40), some (.int m)] [] _ 0 0
  refine J_aload_n (nx := 1) dX0_goalWorthAt_0 rfl rfl ?_
  refine Jg_40_2 (nx := 4) dX0_goalWorthAt_1 rfl fl_X0_18 ?_
  refine J_iconst (nx := 5) (i := 4) (v := 4) (by decide) dX0_goalWorthAt_4 rfl ?_
  refine J_iload_n (nx := 6) dX0_goalWorthAt_5 rfl rfl ?_
  refine JcS3 (R' := rm 0 0 0) (nx := 9) dX0_goalWorthAt_6 rfl ml_X6_put lk_X0_41 st_X6_put ⟨(Nat.le_of_ble_eq_true rfl), (Nat.le_of_ble_eq_true rfl)⟩ (Nat.le_of_ble_eq_true rfl) ⟨rfl, rfl⟩ (ct_put _ 48 8 _ _ rfl (fun _ => rfl) (by decide)) ?_
  refine J.gen (fun g_6 hg_6 => ?_)
  refine J_aload_n (nx := 10) dX0_goalWorthAt_9 rfl rfl ?_
  refine Jg_40_2 (nx := 13) dX0_goalWorthAt_10 rfl fl_X0_18 ?_
  refine J_iconst (nx := 14) (i := 5) (v := 5) (by decide) dX0_goalWorthAt_13 rfl ?_
  refine J_iconst (nx := 15) (i := 0) (v := 0) (by decide) dX0_goalWorthAt_14 rfl ?_
  refine J_aload_n (nx := 16) dX0_goalWorthAt_15 rfl rfl ?_
  refine Jg_40_0 (nx := 19) dX0_goalWorthAt_16 rfl fl_X0_37 ?_
  refine Jg_20_15 (nx := 22) dX0_goalWorthAt_19 rfl fl_X0_47 ?_
  refine JcS2 (R' := rm 0 0 0) (nx := 25) dX0_goalWorthAt_22 rfl ml_J9_max_7cf53 lk_X0_53 st_J9_max_7cf53 ⟨(Nat.le_of_ble_eq_true rfl), (Nat.le_of_ble_eq_true rfl)⟩ (Nat.le_of_ble_eq_true rfl) ⟨rfl, rfl⟩ (ct_max _ _ _) ?_
  refine JcS3 (R' := rm 0 0 0) (nx := 28) dX0_goalWorthAt_25 rfl ml_X6_put lk_X0_41 st_X6_put ⟨(Nat.le_of_ble_eq_true rfl), (Nat.le_of_ble_eq_true rfl)⟩ (Nat.le_of_ble_eq_true rfl) ⟨rfl, rfl⟩ (ct_put _ 48 8 _ _ rfl (fun _ => rfl) (by decide)) ?_
  refine J.gen (fun g_25 hg_25 => ?_)
  refine J_aload_n (nx := 29) dX0_goalWorthAt_28 rfl rfl ?_
  refine Jg_40_2 (nx := 32) dX0_goalWorthAt_29 rfl fl_X0_18 ?_
  refine J_bipush (nx := 34) (i := 6) (v := 6) (by decide) dX0_goalWorthAt_32 rfl ?_
  refine J_iconst (nx := 35) (i := 0) (v := 0) (by decide) dX0_goalWorthAt_34 rfl ?_
  refine J_aload_n (nx := 36) dX0_goalWorthAt_35 rfl rfl ?_
  refine Jg_40_0 (nx := 39) dX0_goalWorthAt_36 rfl fl_X0_37 ?_
  refine Jg_20_15 (nx := 42) dX0_goalWorthAt_39 rfl fl_X0_47 ?_
  refine J_ineg (nx := 43) dX0_goalWorthAt_42 rfl ?_
  refine JcS2 (R' := rm 0 0 0) (nx := 46) dX0_goalWorthAt_43 rfl ml_J9_max_7cf53 lk_X0_53 st_J9_max_7cf53 ⟨(Nat.le_of_ble_eq_true rfl), (Nat.le_of_ble_eq_true rfl)⟩ (Nat.le_of_ble_eq_true rfl) ⟨rfl, rfl⟩ (ct_max _ _ _) ?_
  refine JcS3 (R' := rm 0 0 0) (nx := 49) dX0_goalWorthAt_46 rfl ml_X6_put lk_X0_41 st_X6_put ⟨(Nat.le_of_ble_eq_true rfl), (Nat.le_of_ble_eq_true rfl)⟩ (Nat.le_of_ble_eq_true rfl) ⟨rfl, rfl⟩ (ct_put _ 48 8 _ _ rfl (fun _ => rfl) (by decide)) ?_
  refine J.gen (fun g_46 hg_46 => ?_)
  refine J_aload_n (nx := 50) dX0_goalWorthAt_49 rfl rfl ?_
  refine Jg_40_0 (nx := 53) dX0_goalWorthAt_50 rfl fl_X0_37 ?_
  refine Jg_20_8 (nx := 56) dX0_goalWorthAt_53 rfl fl_X0_59 ?_
  refine J_if_ne (nx := 59) (tgt := 63) dX0_goalWorthAt_56 rfl (by decide) (fun c_56 => ?_) (fun c_56 => ?_)
  · refine J_iconst (nx := 64) (i := 0) (v := 0) (by decide) dX0_goalWorthAt_63 rfl ?_
    refine J_sipush (nx := 67) (i := 30000) (v := 30000) (by decide) dX0_goalWorthAt_64 rfl ?_
    refine J_aload_n (nx := 68) dX0_goalWorthAt_67 rfl rfl ?_
    refine Jg_40_0 (nx := 71) dX0_goalWorthAt_68 rfl fl_X0_37 ?_
    refine Jg_20_7 (nx := 74) dX0_goalWorthAt_71 rfl fl_X0_63 ?_
    rw [show gV g_46 20 7 = Value.ref c from by rw [hg_46, hg_25, hg_6]; exact hV]
    refine J_aload_n (nx := 75) dX0_goalWorthAt_74 rfl rfl ?_
    refine Jg_40_2 (nx := 78) dX0_goalWorthAt_75 rfl fl_X0_18 ?_
    refine J_aload_n (nx := 79) dX0_goalWorthAt_78 rfl rfl ?_
    refine Jg_40_3 (nx := 82) dX0_goalWorthAt_79 rfl fl_X0_22 ?_
    refine JcV2 (R' := rm 2 0 0) (nx := 85) dX0_goalWorthAt_82 rfl ml_X2_total lk_X0_67 iv_X2_total rfl (hc.oo (by rw [hg_46, hg_25, hg_6]; rfl)) ⟨(Nat.le_of_ble_eq_true rfl), (Nat.le_of_ble_eq_true rfl)⟩ (Nat.le_of_ble_eq_true rfl) ⟨rfl, rfl⟩ (ct_X2_total _ c cd (by rw [hg_46, hg_25, hg_6]; exact hc)) ?_
    refine J.gen (fun g_82 hg_82 => ?_)
    refine JcS2 (R' := rm 0 0 0) (nx := 88) dX0_goalWorthAt_85 rfl ml_J9_min_7cf53 lk_X0_73 st_J9_min_7cf53 ⟨(Nat.le_of_ble_eq_true rfl), (Nat.le_of_ble_eq_true rfl)⟩ (Nat.le_of_ble_eq_true rfl) ⟨rfl, rfl⟩ (ct_min _ _ _) ?_
    refine JcS2 (R' := rm 0 0 0) (nx := 91) dX0_goalWorthAt_88 rfl ml_J9_max_7cf53 lk_X0_53 st_J9_max_7cf53 ⟨(Nat.le_of_ble_eq_true rfl), (Nat.le_of_ble_eq_true rfl)⟩ (Nat.le_of_ble_eq_true rfl) ⟨rfl, rfl⟩ (ct_max _ _ _) ?_
    subst hg_82
    subst hg_46
    subst hg_25
    subst hg_6
    exact Jri dX0_goalWorthAt_91 rfl (Nat.zero_le _) (Nat.zero_le _) ⟨rfl, rfl⟩
  · exact absurd (show ¬ gF g_46 20 8 = 0 from by rw [hg_46, hg_25, hg_6]; exact h8) (fun z => z c_56)

theorem ct_gw (g : GS) (m : Int32) (q : Option CD) (h : GoalsAt g q) : Ct mX0_goalWorthAt (rm 3 0 0) [.ref 40, .int m] (Wd g) (RR (.inl (some (.int (gwV g m q)))) (gwG g m q)) := by
  cases q with
  | none => exact ct_gw0 g m h
  | some cd =>
    obtain ⟨h8, c, hV, hc⟩ := h
    exact ct_gw1 g m c cd h8 hV hc

set_option maxRecDepth 100000 in
set_option maxHeartbeats 4000000 in
theorem ct_lettingOn (g : GS) (st t : Int32) : Ct mX0_lettingOn (rm 1 0 0) [.ref 40, .int st, .int t] (Wd g) (RR (.inl (some (.int (ltI g st t)))) g) := by
  refine Ct.of (by decide +kernel) (Nat.le_of_ble_eq_true rfl) ?_
  show J _ _ _ _ 0 [some (.ref 40), some (.int st), some (.int t)] [] _ 0 0
  refine J_aload_n (nx := 1) dX0_lettingOn_0 rfl rfl ?_
  refine Jg_40_4 (nx := 4) dX0_lettingOn_1 rfl fl_X0_25 ?_
  refine J_iconst (nx := 5) (i := 0) (v := 0) (by decide) dX0_lettingOn_4 rfl ?_
  refine J_iload_n (nx := 6) dX0_lettingOn_5 rfl rfl ?_
  refine JcS2 (R' := rm 0 0 0) (nx := 9) dX0_lettingOn_6 rfl ml_J9_max_7cf53 lk_X0_53 st_J9_max_7cf53 ⟨(Nat.le_of_ble_eq_true rfl), (Nat.le_of_ble_eq_true rfl)⟩ (Nat.le_of_ble_eq_true rfl) ⟨rfl, rfl⟩ (ct_max _ _ _) ?_
  refine J_bipush (nx := 11) (i := 32) (v := 32) (by decide) dX0_lettingOn_9 rfl ?_
  refine J_imul (nx := 12) dX0_lettingOn_11 rfl ?_
  refine J_iload_n (nx := 13) dX0_lettingOn_12 rfl rfl ?_
  refine J_iadd (nx := 14) dX0_lettingOn_13 rfl ?_
  refine JcS2 (R' := rm 0 0 0) (nx := 17) dX0_lettingOn_14 rfl ml_X6_at lk_X0_100 st_X6_at ⟨(Nat.le_of_ble_eq_true rfl), (Nat.le_of_ble_eq_true rfl)⟩ (Nat.le_of_ble_eq_true rfl) ⟨rfl, rfl⟩ (ct_at _ 50 1952 _ _ rfl (by decide)) ?_
  exact Jri dX0_lettingOn_17 rfl (Nat.zero_le _) (Nat.zero_le _) ⟨rfl, rfl⟩

set_option maxRecDepth 100000 in
set_option maxHeartbeats 4000000 in
theorem ct_seat (g : GS) (a b : Int32) : Ct mX0_seat (rm 0 0 0) [.ref 40, .int a, .int b] (Wd g) (RR (.inl none) (sF (sF g 40 8 a) 40 9 b)) := by
  refine Ct.of (by decide +kernel) (Nat.le_of_ble_eq_true rfl) ?_
  show J _ _ _ _ 0 [some (.ref 40), some (.int a), some (.int b)] [] _ 0 0
  refine J_aload_n (nx := 1) dX0_seat_0 rfl rfl ?_
  refine J_iload_n (nx := 2) dX0_seat_1 rfl rfl ?_
  refine Jp_40_8 (nx := 5) dX0_seat_2 rfl fl_X0_104 ?_
  refine J.gen (fun g_2 hg_2 => ?_)
  refine J_aload_n (nx := 6) dX0_seat_5 rfl rfl ?_
  refine J_iload_n (nx := 7) dX0_seat_6 rfl rfl ?_
  refine Jp_40_9 (nx := 10) dX0_seat_7 rfl fl_X0_107 ?_
  refine J.gen (fun g_7 hg_7 => ?_)
  subst hg_7
  subst hg_2
  exact Jrv dX0_seat_10 rfl (Nat.zero_le _) (Nat.zero_le _) ⟨rfl, rfl⟩

set_option maxRecDepth 100000 in
set_option maxHeartbeats 4000000 in
theorem ct_seatPlain (g : GS) (a b : Int32) : Ct mX0_seatPlain (rm 0 0 0) [.ref 40, .int a, .int b] (Wd g) (RR (.inl none) (sF (sF (sF g 40 8 (-1)) 40 10 a) 40 11 b)) := by
  refine Ct.of (by decide +kernel) (Nat.le_of_ble_eq_true rfl) ?_
  show J _ _ _ _ 0 [some (.ref 40), some (.int a), some (.int b)] [] _ 0 0
  refine J_aload_n (nx := 1) dX0_seatPlain_0 rfl rfl ?_
  refine J_iconst (nx := 2) (i := -1) (v := -1) (by decide) dX0_seatPlain_1 rfl ?_
  refine Jp_40_8 (nx := 5) dX0_seatPlain_2 rfl fl_X0_104 ?_
  refine J.gen (fun g_2 hg_2 => ?_)
  refine J_aload_n (nx := 6) dX0_seatPlain_5 rfl rfl ?_
  refine J_iload_n (nx := 7) dX0_seatPlain_6 rfl rfl ?_
  refine Jp_40_10 (nx := 10) dX0_seatPlain_7 rfl fl_X0_110 ?_
  refine J.gen (fun g_7 hg_7 => ?_)
  refine J_aload_n (nx := 11) dX0_seatPlain_10 rfl rfl ?_
  refine J_iload_n (nx := 12) dX0_seatPlain_11 rfl rfl ?_
  refine Jp_40_11 (nx := 15) dX0_seatPlain_12 rfl fl_X0_113 ?_
  refine J.gen (fun g_12 hg_12 => ?_)
  subst hg_12
  subst hg_7
  subst hg_2
  exact Jrv dX0_seatPlain_15 rfl (Nat.zero_le _) (Nat.zero_le _) ⟨rfl, rfl⟩

set_option maxRecDepth 100000 in
set_option maxHeartbeats 4000000 in
theorem ct_wish (g : GS) (j s on wt : Int32) : Ct mX0_wish (rm 0 0 0) [.ref 40, .int j, .int s, .int on, .int wt] (Wd g) (RR (.inl (some (.int (wsI g j s on wt)))) g) := by
  refine Ct.of (by decide +kernel) (Nat.le_of_ble_eq_true rfl) ?_
  show J _ _ _ _ 0 [some (.ref 40), some (.int j), some (.int s), some (.int on), some (.int wt)] [] _ 0 0
  refine J_aload_n (nx := 1) dX0_wish_0 rfl rfl ?_
  refine Jg_40_8 (nx := 4) dX0_wish_1 rfl fl_X0_104 ?_
  by_cases s_4_m1 : gF g 40 8 = -1
  · refine J_tabIn (nx := 0) (tgt := 121) (off := 117) dX0_wish_4 (by rw [s_4_m1]; decide) (by rw [s_4_m1]; decide) (by rw [s_4_m1]; rfl) (by decide) ?_
    refine J_iload_n (nx := 122) dX0_wish_121 rfl rfl ?_
    refine J_iconst (nx := 123) (i := 4) (v := 4) (by decide) dX0_wish_122 rfl ?_
    refine J_idiv (nx := 124) (by decide) dX0_wish_123 rfl ?_
    refine J_aload_n (nx := 125) dX0_wish_124 rfl rfl ?_
    refine Jg_40_10 (nx := 128) dX0_wish_125 rfl fl_X0_110 ?_
    refine J_icmp_lt (nx := 131) (tgt := 141) dX0_wish_128 rfl (by decide) (fun c_128 => ?_) (fun c_128 => ?_)
    · refine J_iconst (nx := 142) (i := 0) (v := 0) (by decide) dX0_wish_141 rfl ?_
      refine J_goto (nx := 146) dX0_wish_142 (by decide) ?_
      exact Jri dX0_wish_146 rfl (Nat.zero_le _) (Nat.zero_le _) (RR.i (by unfold wsI; repeat (first | rw [if_pos (by assumption)] | rw [if_neg (by assumption)] | rw [if_neg (fun z => absurd (s_4_0.symm.trans z) (by decide))] | rw [if_neg (fun z => absurd (s_4_1.symm.trans z) (by decide))] | rw [if_neg (fun z => absurd (s_4_2.symm.trans z) (by decide))] | rw [if_neg (fun z => absurd (s_4_3.symm.trans z) (by decide))] | rw [if_neg (fun z => absurd (s_4_4.symm.trans z) (by decide))])) rfl)
    · refine J_iload_n (nx := 132) dX0_wish_131 rfl rfl ?_
      refine J_iconst (nx := 133) (i := 4) (v := 4) (by decide) dX0_wish_132 rfl ?_
      refine J_irem (nx := 134) (by decide) dX0_wish_133 rfl ?_
      refine J_aload_n (nx := 135) dX0_wish_134 rfl rfl ?_
      refine Jg_40_11 (nx := 138) dX0_wish_135 rfl fl_X0_113 ?_
      refine J_icmp_ge (nx := 141) (tgt := 145) dX0_wish_138 rfl (by decide) (fun c_138 => ?_) (fun c_138 => ?_)
      · refine J_iconst (nx := 146) (i := 2) (v := 2) (by decide) dX0_wish_145 rfl ?_
        exact Jri dX0_wish_146 rfl (Nat.zero_le _) (Nat.zero_le _) (RR.i (by unfold wsI; repeat (first | rw [if_pos (by assumption)] | rw [if_neg (by assumption)] | rw [if_neg (fun z => absurd (s_4_0.symm.trans z) (by decide))] | rw [if_neg (fun z => absurd (s_4_1.symm.trans z) (by decide))] | rw [if_neg (fun z => absurd (s_4_2.symm.trans z) (by decide))] | rw [if_neg (fun z => absurd (s_4_3.symm.trans z) (by decide))] | rw [if_neg (fun z => absurd (s_4_4.symm.trans z) (by decide))])) rfl)
      · refine J_iconst (nx := 142) (i := 0) (v := 0) (by decide) dX0_wish_141 rfl ?_
        refine J_goto (nx := 146) dX0_wish_142 (by decide) ?_
        exact Jri dX0_wish_146 rfl (Nat.zero_le _) (Nat.zero_le _) (RR.i (by unfold wsI; repeat (first | rw [if_pos (by assumption)] | rw [if_neg (by assumption)] | rw [if_neg (fun z => absurd (s_4_0.symm.trans z) (by decide))] | rw [if_neg (fun z => absurd (s_4_1.symm.trans z) (by decide))] | rw [if_neg (fun z => absurd (s_4_2.symm.trans z) (by decide))] | rw [if_neg (fun z => absurd (s_4_3.symm.trans z) (by decide))] | rw [if_neg (fun z => absurd (s_4_4.symm.trans z) (by decide))])) rfl)
  by_cases s_4_0 : gF g 40 8 = 0
  · refine J_tabIn (nx := 0) (tgt := 44) (off := 40) dX0_wish_4 (by rw [s_4_0]; decide) (by rw [s_4_0]; decide) (by rw [s_4_0]; rfl) (by decide) ?_
    refine J_iconst (nx := 45) (i := 0) (v := 0) (by decide) dX0_wish_44 rfl ?_
    exact Jri dX0_wish_45 rfl (Nat.zero_le _) (Nat.zero_le _) (RR.i (by unfold wsI; repeat (first | rw [if_pos (by assumption)] | rw [if_neg (by assumption)] | rw [if_neg (fun z => absurd (s_4_0.symm.trans z) (by decide))] | rw [if_neg (fun z => absurd (s_4_1.symm.trans z) (by decide))] | rw [if_neg (fun z => absurd (s_4_2.symm.trans z) (by decide))] | rw [if_neg (fun z => absurd (s_4_3.symm.trans z) (by decide))] | rw [if_neg (fun z => absurd (s_4_4.symm.trans z) (by decide))])) rfl)
  by_cases s_4_1 : gF g 40 8 = 1
  · refine J_tabIn (nx := 0) (tgt := 46) (off := 42) dX0_wish_4 (by rw [s_4_1]; decide) (by rw [s_4_1]; decide) (by rw [s_4_1]; rfl) (by decide) ?_
    refine J_iconst (nx := 47) (i := 1) (v := 1) (by decide) dX0_wish_46 rfl ?_
    exact Jri dX0_wish_47 rfl (Nat.zero_le _) (Nat.zero_le _) (RR.i (by unfold wsI; repeat (first | rw [if_pos (by assumption)] | rw [if_neg (by assumption)] | rw [if_neg (fun z => absurd (s_4_0.symm.trans z) (by decide))] | rw [if_neg (fun z => absurd (s_4_1.symm.trans z) (by decide))] | rw [if_neg (fun z => absurd (s_4_2.symm.trans z) (by decide))] | rw [if_neg (fun z => absurd (s_4_3.symm.trans z) (by decide))] | rw [if_neg (fun z => absurd (s_4_4.symm.trans z) (by decide))])) rfl)
  by_cases s_4_2 : gF g 40 8 = 2
  · refine J_tabIn (nx := 0) (tgt := 48) (off := 44) dX0_wish_4 (by rw [s_4_2]; decide) (by rw [s_4_2]; decide) (by rw [s_4_2]; rfl) (by decide) ?_
    refine J_iload_n (nx := 49) dX0_wish_48 rfl rfl ?_
    refine J_aload_n (nx := 50) dX0_wish_49 rfl rfl ?_
    refine Jg_40_9 (nx := 53) dX0_wish_50 rfl fl_X0_107 ?_
    refine J_icmp_lt (nx := 56) (tgt := 60) dX0_wish_53 rfl (by decide) (fun c_53 => ?_) (fun c_53 => ?_)
    · refine J_iconst (nx := 61) (i := 0) (v := 0) (by decide) dX0_wish_60 rfl ?_
      exact Jri dX0_wish_61 rfl (Nat.zero_le _) (Nat.zero_le _) (RR.i (by unfold wsI; repeat (first | rw [if_pos (by assumption)] | rw [if_neg (by assumption)] | rw [if_neg (fun z => absurd (s_4_0.symm.trans z) (by decide))] | rw [if_neg (fun z => absurd (s_4_1.symm.trans z) (by decide))] | rw [if_neg (fun z => absurd (s_4_2.symm.trans z) (by decide))] | rw [if_neg (fun z => absurd (s_4_3.symm.trans z) (by decide))] | rw [if_neg (fun z => absurd (s_4_4.symm.trans z) (by decide))])) rfl)
    · refine J_iconst (nx := 57) (i := 2) (v := 2) (by decide) dX0_wish_56 rfl ?_
      refine J_goto (nx := 61) dX0_wish_57 (by decide) ?_
      exact Jri dX0_wish_61 rfl (Nat.zero_le _) (Nat.zero_le _) (RR.i (by unfold wsI; repeat (first | rw [if_pos (by assumption)] | rw [if_neg (by assumption)] | rw [if_neg (fun z => absurd (s_4_0.symm.trans z) (by decide))] | rw [if_neg (fun z => absurd (s_4_1.symm.trans z) (by decide))] | rw [if_neg (fun z => absurd (s_4_2.symm.trans z) (by decide))] | rw [if_neg (fun z => absurd (s_4_3.symm.trans z) (by decide))] | rw [if_neg (fun z => absurd (s_4_4.symm.trans z) (by decide))])) rfl)
  by_cases s_4_3 : gF g 40 8 = 3
  · refine J_tabIn (nx := 0) (tgt := 62) (off := 58) dX0_wish_4 (by rw [s_4_3]; decide) (by rw [s_4_3]; decide) (by rw [s_4_3]; rfl) (by decide) ?_
    refine J_aload_n (nx := 63) dX0_wish_62 rfl rfl ?_
    refine Jg_40_14 (nx := 66) dX0_wish_63 rfl fl_X0_119 ?_
    refine J_iload_n (nx := 67) dX0_wish_66 rfl rfl ?_
    refine J_icmp_lt (nx := 70) (tgt := 83) dX0_wish_67 rfl (by decide) (fun c_67 => ?_) (fun c_67 => ?_)
    · refine J_iload_n (nx := 84) dX0_wish_83 rfl rfl ?_
      refine J_iload (nx := 86) dX0_wish_84 rfl rfl ?_
      refine J_icmp_lt (nx := 89) (tgt := 93) dX0_wish_86 rfl (by decide) (fun c_86 => ?_) (fun c_86 => ?_)
      · refine J_iconst (nx := 94) (i := 2) (v := 2) (by decide) dX0_wish_93 rfl ?_
        exact Jri dX0_wish_94 rfl (Nat.zero_le _) (Nat.zero_le _) (RR.i (by unfold wsI; repeat (first | rw [if_pos (by assumption)] | rw [if_neg (by assumption)] | rw [if_neg (fun z => absurd (s_4_0.symm.trans z) (by decide))] | rw [if_neg (fun z => absurd (s_4_1.symm.trans z) (by decide))] | rw [if_neg (fun z => absurd (s_4_2.symm.trans z) (by decide))] | rw [if_neg (fun z => absurd (s_4_3.symm.trans z) (by decide))] | rw [if_neg (fun z => absurd (s_4_4.symm.trans z) (by decide))])) rfl)
      · refine J_iconst (nx := 90) (i := 1) (v := 1) (by decide) dX0_wish_89 rfl ?_
        refine J_goto (nx := 94) dX0_wish_90 (by decide) ?_
        exact Jri dX0_wish_94 rfl (Nat.zero_le _) (Nat.zero_le _) (RR.i (by unfold wsI; repeat (first | rw [if_pos (by assumption)] | rw [if_neg (by assumption)] | rw [if_neg (fun z => absurd (s_4_0.symm.trans z) (by decide))] | rw [if_neg (fun z => absurd (s_4_1.symm.trans z) (by decide))] | rw [if_neg (fun z => absurd (s_4_2.symm.trans z) (by decide))] | rw [if_neg (fun z => absurd (s_4_3.symm.trans z) (by decide))] | rw [if_neg (fun z => absurd (s_4_4.symm.trans z) (by decide))])) rfl)
    · refine J_aload_n (nx := 71) dX0_wish_70 rfl rfl ?_
      refine Jg_40_14 (nx := 74) dX0_wish_71 rfl fl_X0_119 ?_
      refine J_iload (nx := 76) dX0_wish_74 rfl rfl ?_
      refine J_icmp_lt (nx := 79) (tgt := 83) dX0_wish_76 rfl (by decide) (fun c_76 => ?_) (fun c_76 => ?_)
      · refine J_iload_n (nx := 84) dX0_wish_83 rfl rfl ?_
        refine J_iload (nx := 86) dX0_wish_84 rfl rfl ?_
        refine J_icmp_lt (nx := 89) (tgt := 93) dX0_wish_86 rfl (by decide) (fun c_86 => ?_) (fun c_86 => ?_)
        · refine J_iconst (nx := 94) (i := 2) (v := 2) (by decide) dX0_wish_93 rfl ?_
          exact Jri dX0_wish_94 rfl (Nat.zero_le _) (Nat.zero_le _) (RR.i (by unfold wsI; repeat (first | rw [if_pos (by assumption)] | rw [if_neg (by assumption)] | rw [if_neg (fun z => absurd (s_4_0.symm.trans z) (by decide))] | rw [if_neg (fun z => absurd (s_4_1.symm.trans z) (by decide))] | rw [if_neg (fun z => absurd (s_4_2.symm.trans z) (by decide))] | rw [if_neg (fun z => absurd (s_4_3.symm.trans z) (by decide))] | rw [if_neg (fun z => absurd (s_4_4.symm.trans z) (by decide))])) rfl)
        · refine J_iconst (nx := 90) (i := 1) (v := 1) (by decide) dX0_wish_89 rfl ?_
          refine J_goto (nx := 94) dX0_wish_90 (by decide) ?_
          exact Jri dX0_wish_94 rfl (Nat.zero_le _) (Nat.zero_le _) (RR.i (by unfold wsI; repeat (first | rw [if_pos (by assumption)] | rw [if_neg (by assumption)] | rw [if_neg (fun z => absurd (s_4_0.symm.trans z) (by decide))] | rw [if_neg (fun z => absurd (s_4_1.symm.trans z) (by decide))] | rw [if_neg (fun z => absurd (s_4_2.symm.trans z) (by decide))] | rw [if_neg (fun z => absurd (s_4_3.symm.trans z) (by decide))] | rw [if_neg (fun z => absurd (s_4_4.symm.trans z) (by decide))])) rfl)
      · refine J_iconst (nx := 80) (i := 0) (v := 0) (by decide) dX0_wish_79 rfl ?_
        refine J_goto (nx := 94) dX0_wish_80 (by decide) ?_
        exact Jri dX0_wish_94 rfl (Nat.zero_le _) (Nat.zero_le _) (RR.i (by unfold wsI; repeat (first | rw [if_pos (by assumption)] | rw [if_neg (by assumption)] | rw [if_neg (fun z => absurd (s_4_0.symm.trans z) (by decide))] | rw [if_neg (fun z => absurd (s_4_1.symm.trans z) (by decide))] | rw [if_neg (fun z => absurd (s_4_2.symm.trans z) (by decide))] | rw [if_neg (fun z => absurd (s_4_3.symm.trans z) (by decide))] | rw [if_neg (fun z => absurd (s_4_4.symm.trans z) (by decide))])) rfl)
  by_cases s_4_4 : gF g 40 8 = 4
  · refine J_tabIn (nx := 0) (tgt := 95) (off := 91) dX0_wish_4 (by rw [s_4_4]; decide) (by rw [s_4_4]; decide) (by rw [s_4_4]; rfl) (by decide) ?_
    refine J_iload_n (nx := 96) dX0_wish_95 rfl rfl ?_
    refine J_aload_n (nx := 97) dX0_wish_96 rfl rfl ?_
    refine Jg_40_12 (nx := 100) dX0_wish_97 rfl fl_X0_86 ?_
    refine J_icmp_ge (nx := 103) (tgt := 107) dX0_wish_100 rfl (by decide) (fun c_100 => ?_) (fun c_100 => ?_)
    · refine J_aload_n (nx := 108) dX0_wish_107 rfl rfl ?_
      refine Jg_40_14 (nx := 111) dX0_wish_108 rfl fl_X0_119 ?_
      refine J_iload_n (nx := 112) dX0_wish_111 rfl rfl ?_
      refine J_icmp_lt (nx := 115) (tgt := 119) dX0_wish_112 rfl (by decide) (fun c_112 => ?_) (fun c_112 => ?_)
      · refine J_iconst (nx := 120) (i := 1) (v := 1) (by decide) dX0_wish_119 rfl ?_
        exact Jri dX0_wish_120 rfl (Nat.zero_le _) (Nat.zero_le _) (RR.i (by unfold wsI; repeat (first | rw [if_pos (by assumption)] | rw [if_neg (by assumption)] | rw [if_neg (fun z => absurd (s_4_0.symm.trans z) (by decide))] | rw [if_neg (fun z => absurd (s_4_1.symm.trans z) (by decide))] | rw [if_neg (fun z => absurd (s_4_2.symm.trans z) (by decide))] | rw [if_neg (fun z => absurd (s_4_3.symm.trans z) (by decide))] | rw [if_neg (fun z => absurd (s_4_4.symm.trans z) (by decide))])) rfl)
      · refine J_iconst (nx := 116) (i := 0) (v := 0) (by decide) dX0_wish_115 rfl ?_
        refine J_goto (nx := 120) dX0_wish_116 (by decide) ?_
        exact Jri dX0_wish_120 rfl (Nat.zero_le _) (Nat.zero_le _) (RR.i (by unfold wsI; repeat (first | rw [if_pos (by assumption)] | rw [if_neg (by assumption)] | rw [if_neg (fun z => absurd (s_4_0.symm.trans z) (by decide))] | rw [if_neg (fun z => absurd (s_4_1.symm.trans z) (by decide))] | rw [if_neg (fun z => absurd (s_4_2.symm.trans z) (by decide))] | rw [if_neg (fun z => absurd (s_4_3.symm.trans z) (by decide))] | rw [if_neg (fun z => absurd (s_4_4.symm.trans z) (by decide))])) rfl)
    · refine J_iconst (nx := 104) (i := 2) (v := 2) (by decide) dX0_wish_103 rfl ?_
      refine J_goto (nx := 120) dX0_wish_104 (by decide) ?_
      exact Jri dX0_wish_120 rfl (Nat.zero_le _) (Nat.zero_le _) (RR.i (by unfold wsI; repeat (first | rw [if_pos (by assumption)] | rw [if_neg (by assumption)] | rw [if_neg (fun z => absurd (s_4_0.symm.trans z) (by decide))] | rw [if_neg (fun z => absurd (s_4_1.symm.trans z) (by decide))] | rw [if_neg (fun z => absurd (s_4_2.symm.trans z) (by decide))] | rw [if_neg (fun z => absurd (s_4_3.symm.trans z) (by decide))] | rw [if_neg (fun z => absurd (s_4_4.symm.trans z) (by decide))])) rfl)
  refine J_tabOut (nx := 0) (tgt := 147) dX0_wish_4 (by have e0 : ¬ (gF g 40 8).toInt = -1 := fun z => s_4_m1 (Int32.toInt_inj.mp (z.trans (by decide))); have e1 : ¬ (gF g 40 8).toInt = 0 := fun z => s_4_0 (Int32.toInt_inj.mp (z.trans (by decide))); have e2 : ¬ (gF g 40 8).toInt = 1 := fun z => s_4_1 (Int32.toInt_inj.mp (z.trans (by decide))); have e3 : ¬ (gF g 40 8).toInt = 2 := fun z => s_4_2 (Int32.toInt_inj.mp (z.trans (by decide))); have e4 : ¬ (gF g 40 8).toInt = 3 := fun z => s_4_3 (Int32.toInt_inj.mp (z.trans (by decide))); have e5 : ¬ (gF g 40 8).toInt = 4 := fun z => s_4_4 (Int32.toInt_inj.mp (z.trans (by decide))); omega) (by decide) ?_
  refine J_iconst (nx := 148) (i := 2) (v := 2) (by decide) dX0_wish_147 rfl ?_
  exact Jri dX0_wish_148 rfl (Nat.zero_le _) (Nat.zero_le _) (RR.i (by unfold wsI; repeat (first | rw [if_pos (by assumption)] | rw [if_neg (by assumption)] | rw [if_neg (fun z => absurd (s_4_0.symm.trans z) (by decide))] | rw [if_neg (fun z => absurd (s_4_1.symm.trans z) (by decide))] | rw [if_neg (fun z => absurd (s_4_2.symm.trans z) (by decide))] | rw [if_neg (fun z => absurd (s_4_3.symm.trans z) (by decide))] | rw [if_neg (fun z => absurd (s_4_4.symm.trans z) (by decide))])) rfl)

def woI (g : GS) (j st : Int32) : Int32 := rAt 352 (gA g 51) (j * 32 + st)

set_option maxRecDepth 100000 in
set_option maxHeartbeats 4000000 in
theorem ct_worthAt (g : GS) (j st : Int32) : Ct mX0_worthAt (rm 1 0 0) [.ref 40, .int j, .int st] (Wd g) (RR (.inl (some (.int (woI g j st)))) g) := by
  refine Ct.of (by decide +kernel) (Nat.le_of_ble_eq_true rfl) ?_
  show J _ _ _ _ 0 [some (.ref 40), some (.int j), some (.int st)] [] _ 0 0
  refine J_aload_n (nx := 1) dX0_worthAt_0 rfl rfl ?_
  refine Jg_40_5 (nx := 4) dX0_worthAt_1 rfl fl_X0_28 ?_
  refine J_iload_n (nx := 5) dX0_worthAt_4 rfl rfl ?_
  refine J_bipush (nx := 7) (i := 32) (v := 32) (by decide) dX0_worthAt_5 rfl ?_
  refine J_imul (nx := 8) dX0_worthAt_7 rfl ?_
  refine J_iload_n (nx := 9) dX0_worthAt_8 rfl rfl ?_
  refine J_iadd (nx := 10) dX0_worthAt_9 rfl ?_
  refine JcS2 (R' := rm 0 0 0) (nx := 13) dX0_worthAt_10 rfl ml_X6_at lk_X0_100 st_X6_at ⟨(Nat.le_of_ble_eq_true rfl), (Nat.le_of_ble_eq_true rfl)⟩ (Nat.le_of_ble_eq_true rfl) ⟨rfl, rfl⟩ (ct_at _ 51 352 _ _ rfl (by decide)) ?_
  exact Jri dX0_worthAt_13 rfl (Nat.zero_le _) (Nat.zero_le _) ⟨rfl, rfl⟩

def deI (g : GS) (j st : Int32) : Int32 := rAt 352 (gA g 52) (j * 32 + st)

set_option maxRecDepth 100000 in
set_option maxHeartbeats 4000000 in
theorem ct_deedAt (g : GS) (j st : Int32) : Ct mX0_deedAt (rm 1 0 0) [.ref 40, .int j, .int st] (Wd g) (RR (.inl (some (.int (deI g j st)))) g) := by
  refine Ct.of (by decide +kernel) (Nat.le_of_ble_eq_true rfl) ?_
  show J _ _ _ _ 0 [some (.ref 40), some (.int j), some (.int st)] [] _ 0 0
  refine J_aload_n (nx := 1) dX0_deedAt_0 rfl rfl ?_
  refine Jg_40_6 (nx := 4) dX0_deedAt_1 rfl fl_X0_31 ?_
  refine J_iload_n (nx := 5) dX0_deedAt_4 rfl rfl ?_
  refine J_bipush (nx := 7) (i := 32) (v := 32) (by decide) dX0_deedAt_5 rfl ?_
  refine J_imul (nx := 8) dX0_deedAt_7 rfl ?_
  refine J_iload_n (nx := 9) dX0_deedAt_8 rfl rfl ?_
  refine J_iadd (nx := 10) dX0_deedAt_9 rfl ?_
  refine JcS2 (R' := rm 0 0 0) (nx := 13) dX0_deedAt_10 rfl ml_X6_at lk_X0_100 st_X6_at ⟨(Nat.le_of_ble_eq_true rfl), (Nat.le_of_ble_eq_true rfl)⟩ (Nat.le_of_ble_eq_true rfl) ⟨rfl, rfl⟩ (ct_at _ 52 352 _ _ rfl (by decide)) ?_
  exact Jri dX0_deedAt_13 rfl (Nat.zero_le _) (Nat.zero_le _) ⟨rfl, rfl⟩

