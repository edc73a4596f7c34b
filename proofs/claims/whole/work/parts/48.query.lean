set_option maxRecDepth 100000 in
set_option maxHeartbeats 4000000 in
theorem ct_goal (g : GS) (q : Option CD) (T G : Nat) (hC : Cl g q T G) : Ct mX11_goal (rm 4 0 0) [.ref 0] (Wd g) (RR (.inl (some (.int (gwV g (gF g 20 14) q)))) (gwG g (gF g 20 14) q)) := by
  refine Ct.of (by decide +kernel) (Nat.le_of_ble_eq_true rfl) ?_
  show J _ _ _ _ 0 [some (.ref 0)] [] _ 0 0
  refine J_aload_n (nx := 1) dX11_goal_0 rfl rfl ?_
  refine Jg_0_5 (nx := 4) dX11_goal_1 rfl fl_X11_40 ?_
  refine J_aload_n (nx := 5) dX11_goal_4 rfl rfl ?_
  refine Jg_0_2 (nx := 8) dX11_goal_5 rfl fl_X11_28 ?_
  refine Jg_20_14 (nx := 11) dX11_goal_8 rfl fl_X11_161 ?_
  refine JcV1 (R' := rm (3) 0 0) (nx := 14) dX11_goal_11 rfl ml_X0_goalWorthAt lk_X11_167 iv_X0_goalWorthAt rfl rfl ⟨(Nat.le_of_ble_eq_true rfl), (Nat.le_of_ble_eq_true rfl)⟩ (Nat.le_of_ble_eq_true rfl) ⟨rfl, rfl⟩ (ct_gw _ _ q hC.1) ?_
  exact Jri dX11_goal_14 rfl (Nat.zero_le _) (Nat.zero_le _) ⟨rfl, rfl⟩

set_option maxRecDepth 100000 in
set_option maxHeartbeats 4000000 in
theorem ct_seat4 (g : GS) (j b so z : Int32) (q q2 : Option CD) (T G : Nat) (hC : Cl g q T G) (hJ : JAt g j q2) : Ct mX11_seat (rm 6 0 0) [.ref 0, .int j, .int b, .int so, .int z] (Wd g) (RR (.inl none) (stG g j b so z q q2 T G)) := by
  refine Ct.of (by decide +kernel) (Nat.le_of_ble_eq_true rfl) ?_
  show J _ _ _ _ 0 [some (.ref 0), some (.int j), some (.int b), some (.int so), some (.int z)] [] _ 0 0
  refine J_aload_n (nx := 1) dX11_seat_0 rfl rfl ?_
  refine Jg_0_5 (nx := 4) dX11_seat_1 rfl fl_X11_40 ?_
  refine J_aload_n (nx := 5) dX11_seat_4 rfl rfl ?_
  refine Jg_0_2 (nx := 8) dX11_seat_5 rfl fl_X11_28 ?_
  refine Jg_20_14 (nx := 11) dX11_seat_8 rfl fl_X11_161 ?_
  refine J_aload_n (nx := 12) dX11_seat_11 rfl rfl ?_
  refine Jg_0_2 (nx := 15) dX11_seat_12 rfl fl_X11_28 ?_
  refine Jg_20_13 (nx := 18) dX11_seat_15 rfl fl_X11_173 ?_
  rw [hC.2.1]
  refine JcV2 (R' := rm (4) 0 0) (nx := 21) dX11_seat_18 rfl ml_X0_open lk_X11_188 iv_X0_open rfl rfl ⟨(Nat.le_of_ble_eq_true rfl), (Nat.le_of_ble_eq_true rfl)⟩ (Nat.le_of_ble_eq_true rfl) ⟨rfl, rfl⟩ (ct_open g _ T q hC.1 (by have := hC.2.2.1; omega)) ?_
  refine J.gen (fun g_18 hg_18 => ?_)
  have k1 : KF g g_18 := by rw [hg_18]; exact kf_open Fr.rf _ _ _
  have e1 : gF g_18 40 12 = nI G := by rw [hg_18]; exact hC.opened _ _
  refine J_aload_n (nx := 22) dX11_seat_21 rfl rfl ?_
  refine Jg_0_5 (nx := 25) dX11_seat_22 rfl fl_X11_40 ?_
  refine J_iload_n (nx := 26) dX11_seat_25 rfl rfl ?_
  refine J_iload_n (nx := 27) dX11_seat_26 rfl rfl ?_
  refine JcV2 (R' := rm (0) 0 0) (nx := 30) dX11_seat_27 rfl ml_X0_seat lk_X11_222 iv_X0_seat rfl rfl ⟨(Nat.le_of_ble_eq_true rfl), (Nat.le_of_ble_eq_true rfl)⟩ (Nat.le_of_ble_eq_true rfl) ⟨rfl, rfl⟩ (ct_seat _ _ _) ?_
  refine J.gen (fun g_27 hg_27 => ?_)
  have hL : LayOK g_27 q2 G := by rw [hg_27]; exact LayOK.st e1 hC.2.2.2.2 (hJ.kf k1)
  refine J_aload_n (nx := 31) dX11_seat_30 rfl rfl ?_
  refine Jg_0_5 (nx := 34) dX11_seat_31 rfl fl_X11_40 ?_
  refine J_iload_n (nx := 35) dX11_seat_34 rfl rfl ?_
  refine J_iload (nx := 37) dX11_seat_35 rfl rfl ?_
  refine J_aload_n (nx := 38) dX11_seat_37 rfl rfl ?_
  refine Jg_0_2 (nx := 41) dX11_seat_38 rfl fl_X11_28 ?_
  refine J_iload_n (nx := 42) dX11_seat_41 rfl rfl ?_
  refine JcV1 (R' := rm (3) 0 0) (nx := 45) dX11_seat_42 rfl ml_X1_cardNow lk_X11_197 iv_X1_cardNow rfl rfl ⟨(Nat.le_of_ble_eq_true rfl), (Nat.le_of_ble_eq_true rfl)⟩ (Nat.le_of_ble_eq_true rfl) ⟨rfl, rfl⟩ (ct_X1_cardNow _ _) ?_
  refine JcV3 (R' := rm (4) 0 0) (nx := 48) dX11_seat_45 rfl ml_X0_lay lk_X11_241 iv_X0_lay rfl rfl ⟨(Nat.le_of_ble_eq_true rfl), (Nat.le_of_ble_eq_true rfl)⟩ (Nat.le_of_ble_eq_true rfl) ⟨rfl, rfl⟩ (ct_lay1 g_27 _ _ _ q2 G hL) ?_
  refine J.gen (fun g_45 hg_45 => ?_)
  subst hg_45
  subst hg_27
  subst hg_18
  exact Jrv dX11_seat_48 rfl (Nat.zero_le _) (Nat.zero_le _) ⟨rfl, rfl⟩

def bbG (g : GS) (so z : Int32) (n : Nat) : GS := lyAll (sF g 40 12 (nI n)) so z (bk_cn (sF g 40 12 (nI n)) 20 so) none n
theorem bb_kf {g0 g : GS} (h : KF g0 g) (so z : Int32) (n : Nat) : KF g0 (bbG g so z n) := kf_ly (h.sF rfl) _ _ _ _ _
theorem bb_J {g : GS} (h : JudgeAt g none) (so z : Int32) {n : Nat} (hn : n ≤ 10) : JudgeAt (bbG g so z n) none := (LayOK.ly (g := sF g 40 12 (nI n)) ⟨(show JudgeAt (sF g 40 12 (nI n)) none from h), rfl, hn⟩ so z _).1
set_option maxRecDepth 100000 in
set_option maxHeartbeats 4000000 in
theorem ct_bestBy (g : GS) (so z st : Int32) (n : Nat) (hn : n ≤ 10) (hJ : JudgeAt g none) : Ct mX11_bestBy (rm 6 0 0) [.ref 0, .int (nI n), .int so, .int z, .int st] (Wd g) (RR (.inl (some (.int (woI (bbG g so z n) 0 st)))) (bbG g so z n)) := by
  refine Ct.of (by decide +kernel) (Nat.le_of_ble_eq_true rfl) ?_
  show J _ _ _ _ 0 [some (.ref 0), some (.int (nI n)), some (.int so), some (.int z), some (.int st)] [] _ 0 0
  refine J_aload_n (nx := 1) dX11_bestBy_0 rfl rfl ?_
  refine Jg_0_5 (nx := 4) dX11_bestBy_1 rfl fl_X11_40 ?_
  refine J_iload_n (nx := 5) dX11_bestBy_4 rfl rfl ?_
  refine Jp_40_12 (nx := 8) dX11_bestBy_5 rfl fl_X11_364 ?_
  refine J.gen (fun g_5 hg_5 => ?_)
  refine J_aload_n (nx := 9) dX11_bestBy_8 rfl rfl ?_
  refine Jg_0_5 (nx := 12) dX11_bestBy_9 rfl fl_X11_40 ?_
  refine J_iload_n (nx := 13) dX11_bestBy_12 rfl rfl ?_
  refine J_iload_n (nx := 14) dX11_bestBy_13 rfl rfl ?_
  refine J_aload_n (nx := 15) dX11_bestBy_14 rfl rfl ?_
  refine Jg_0_2 (nx := 18) dX11_bestBy_15 rfl fl_X11_28 ?_
  refine J_iload_n (nx := 19) dX11_bestBy_18 rfl rfl ?_
  refine JcV1 (R' := rm (3) 0 0) (nx := 22) dX11_bestBy_19 rfl ml_X1_cardNow lk_X11_197 iv_X1_cardNow rfl rfl ⟨(Nat.le_of_ble_eq_true rfl), (Nat.le_of_ble_eq_true rfl)⟩ (Nat.le_of_ble_eq_true rfl) ⟨rfl, rfl⟩ (ct_X1_cardNow _ _) ?_
  refine JcV3 (R' := rm (4) 0 0) (nx := 25) dX11_bestBy_22 rfl ml_X0_lay lk_X11_241 iv_X0_lay rfl rfl ⟨(Nat.le_of_ble_eq_true rfl), (Nat.le_of_ble_eq_true rfl)⟩ (Nat.le_of_ble_eq_true rfl) ⟨rfl, rfl⟩ (ct_lay1 g_5 _ _ _ none n (by rw [hg_5]; exact ⟨hJ, rfl, hn⟩)) ?_
  refine J.gen (fun g_22 hg_22 => ?_)
  refine J_aload_n (nx := 26) dX11_bestBy_25 rfl rfl ?_
  refine Jg_0_5 (nx := 29) dX11_bestBy_26 rfl fl_X11_40 ?_
  refine J_iconst (nx := 30) (i := 0) (v := 0) (by decide) dX11_bestBy_29 rfl ?_
  refine J_iload (nx := 32) dX11_bestBy_30 rfl rfl ?_
  refine JcV2 (R' := rm (1) 0 0) (nx := 35) dX11_bestBy_32 rfl ml_X0_worthAt lk_X11_216 iv_X0_worthAt rfl rfl ⟨(Nat.le_of_ble_eq_true rfl), (Nat.le_of_ble_eq_true rfl)⟩ (Nat.le_of_ble_eq_true rfl) ⟨rfl, rfl⟩ (ct_worthAt _ _ _) ?_
  subst hg_22
  subst hg_5
  exact Jri dX11_bestBy_35 rfl (Nat.zero_le _) (Nat.zero_le _) ⟨rfl, rfl⟩


theorem fWi_nI {x : Int32} {m : Nat} (hm : m < 2 ^ 31) (h : fWi x (nI m) = true) : ∃ n, n ≤ m ∧ x = nI n := by
  unfold fWi at h
  by_cases h1 : x < 0
  · rw [if_pos h1] at h; cases h
  · rw [if_neg h1] at h
    by_cases h2 : nI m < x
    · rw [if_pos h2] at h; cases h
    · obtain ⟨j, hj, rfl⟩ := nI_of h1
      refine ⟨j, ?_, rfl⟩
      rcases Nat.lt_or_ge m j with h3 | h3
      · exact absurd (nI_lt h3 (by omega)) h2
      · exact h3
theorem fSt_nI {x : Int32} (h : fSt x = true) : ∃ n, n < 32 ∧ x = nI n := by
  unfold fSt at h
  by_cases h1 : x < 0
  · rw [if_pos h1] at h; cases h
  · rw [if_neg h1] at h
    by_cases h2 : (32 : Int32) ≤ x
    · rw [if_pos h2] at h; cases h
    · obtain ⟨j, hj, rfl⟩ := nI_of h1
      refine ⟨j, ?_, rfl⟩
      rcases Nat.lt_or_ge j 32 with h3 | h3
      · exact h3
      · exact absurd (show nI 32 ≤ nI j from nI_le h3 (by omega)) h2
theorem fZo_nI {x : Int32} (h : fZo x = true) : ∃ n, n < 8 ∧ x = nI n := by
  unfold fZo at h
  by_cases h1 : x < 0
  · rw [if_pos h1] at h; cases h
  · rw [if_neg h1] at h
    by_cases h2 : (8 : Int32) ≤ x
    · rw [if_pos h2] at h; cases h
    · obtain ⟨j, hj, rfl⟩ := nI_of h1
      refine ⟨j, ?_, rfl⟩
      rcases Nat.lt_or_ge j 8 with h3 | h3
      · exact h3
      · exact absurd (show nI 8 ≤ nI j from nI_le h3 (by omega)) h2
theorem fSo_nI {g : GS} {x : Int32} {N : Nat} (hN : gF g 20 11 = nI N) (hN2 : N < 2 ^ 31) (h : fSo g x = true) : ∃ n, n < N ∧ x = nI n := by
  unfold fSo at h
  by_cases h1 : x < 0
  · rw [if_pos h1] at h; cases h
  · rw [if_neg h1, hN] at h
    by_cases h2 : nI N ≤ x
    · rw [if_pos h2] at h; cases h
    · obtain ⟨j, hj, rfl⟩ := nI_of h1
      refine ⟨j, ?_, rfl⟩
      rcases Nat.lt_or_ge j N with h3 | h3
      · exact h3
      · exact absurd (nI_le h3 (by omega)) h2

set_option maxRecDepth 100000 in
set_option maxHeartbeats 4000000 in
theorem ct_worth (g : GS) (s t : Int32) (q : Option CD) (T G : Nat) (hC : Cl g q T G) : Ct mX11_worth (rm 10 2 12) [.ref 0, .int s, .int t] (Wd g) (FX [(fSt s, x_iob), (fWi t 60, x_iae)] (RR (.inl (some (.long (ltI (opAll g (gF g 20 14) t.toNatClampNeg q) s t).toInt64))) (opAll g (gF g 20 14) t.toNatClampNeg q)) g) := by
  refine Ct.of (by decide +kernel) (Nat.le_of_ble_eq_true rfl) ?_
  show J _ _ _ _ 0 [some (.ref 0), some (.int s), some (.int t)] [] _ 0 0
  refine J_iload_n (nx := 1) dX11_worth_0 rfl rfl ?_
  refine JcKS1 (R' := rm (0) 0 0) (nx := 4) dX11_worth_1 rfl ml_X11_isState lk_X11_130 st_X11_isState ⟨(Nat.le_of_ble_eq_true rfl), (Nat.le_of_ble_eq_true rfl)⟩ (Nat.le_of_ble_eq_true rfl) ⟨rfl, rfl⟩ ⟨(Nat.le_of_ble_eq_true rfl), (Nat.le_of_ble_eq_true rfl)⟩ (ct_isState _ _) ?_
  refine JtKS1 (R' := rm (0) 1 6) (nx := 7) dX11_worth_4 rfl ml_X11_requirePlace lk_X11_133 st_X11_requirePlace ⟨(Nat.le_of_ble_eq_true rfl), (Nat.le_of_ble_eq_true rfl)⟩ (Nat.le_of_ble_eq_true rfl) ⟨rfl, rfl⟩ ⟨(Nat.le_of_ble_eq_true rfl), (Nat.le_of_ble_eq_true rfl)⟩ (ct_requirePlace _ (fSt s)) (fun t_4 => ?_)
  refine J_iload_n (nx := 8) dX11_worth_7 rfl rfl ?_
  refine J_bipush (nx := 10) (i := 60) (v := 60) (by decide) dX11_worth_8 rfl ?_
  refine JcKS2 (R' := rm (0) 0 0) (nx := 13) dX11_worth_10 rfl ml_X11_within lk_X11_75 st_X11_within ⟨(Nat.le_of_ble_eq_true rfl), (Nat.le_of_ble_eq_true rfl)⟩ (Nat.le_of_ble_eq_true rfl) ⟨rfl, rfl⟩ ⟨(Nat.le_of_ble_eq_true rfl), (Nat.le_of_ble_eq_true rfl)⟩ (ct_within _ _ _) ?_
  refine JtKS1 (R' := rm (0) 1 6) (nx := 16) dX11_worth_13 rfl ml_X11_requireNumber lk_X11_83 st_X11_requireNumber ⟨(Nat.le_of_ble_eq_true rfl), (Nat.le_of_ble_eq_true rfl)⟩ (Nat.le_of_ble_eq_true rfl) ⟨rfl, rfl⟩ ⟨(Nat.le_of_ble_eq_true rfl), (Nat.le_of_ble_eq_true rfl)⟩ (ct_requireNumber _ (fWi t 60)) (fun t_13 => ?_)
  refine J_aload_n (nx := 17) dX11_worth_16 rfl rfl ?_
  refine Jg_0_5 (nx := 20) dX11_worth_17 rfl fl_X11_40 ?_
  refine J_aload_n (nx := 21) dX11_worth_20 rfl rfl ?_
  refine Jg_0_2 (nx := 24) dX11_worth_21 rfl fl_X11_28 ?_
  refine Jg_20_14 (nx := 27) dX11_worth_24 rfl fl_X11_161 ?_
  refine J_iload_n (nx := 28) dX11_worth_27 rfl rfl ?_
  obtain ⟨n, hn, rfl⟩ := fWi_nI (m := 60) (by decide) t_13
  refine JcKV2 (R' := rm (4) 0 0) (nx := 31) dX11_worth_28 rfl ml_X0_open lk_X11_188 iv_X0_open rfl rfl ⟨(Nat.le_of_ble_eq_true rfl), (Nat.le_of_ble_eq_true rfl)⟩ (Nat.le_of_ble_eq_true rfl) ⟨rfl, rfl⟩ ⟨(Nat.le_of_ble_eq_true rfl), (Nat.le_of_ble_eq_true rfl)⟩ (ct_open g _ n q hC.1 (by omega)) ?_
  refine J.gen (fun g_28 hg_28 => ?_)
  refine J_aload_n (nx := 32) dX11_worth_31 rfl rfl ?_
  refine Jg_0_5 (nx := 35) dX11_worth_32 rfl fl_X11_40 ?_
  refine J_iload_n (nx := 36) dX11_worth_35 rfl rfl ?_
  refine J_iload_n (nx := 37) dX11_worth_36 rfl rfl ?_
  refine JcKV2 (R' := rm (1) 0 0) (nx := 40) dX11_worth_37 rfl ml_X0_lettingOn lk_X11_191 iv_X0_lettingOn rfl rfl ⟨(Nat.le_of_ble_eq_true rfl), (Nat.le_of_ble_eq_true rfl)⟩ (Nat.le_of_ble_eq_true rfl) ⟨rfl, rfl⟩ ⟨(Nat.le_of_ble_eq_true rfl), (Nat.le_of_ble_eq_true rfl)⟩ (ct_lettingOn _ _ _) ?_
  refine J_i2l (nx := 41) dX11_worth_40 rfl ?_
  subst hg_28
  exact Jrl dX11_worth_41 rfl (Nat.le_of_ble_eq_true rfl) (Nat.le_of_ble_eq_true rfl) ⟨by rw [nI_clamp (by omega)], by rw [nI_clamp (by omega)]⟩

set_option maxRecDepth 100000 in
set_option maxHeartbeats 4000000 in
theorem ct_judge (g : GS) (j b so z st n : Int32) (q q2 : Option CD) (T G : Nat) (hC : Cl g q T G) (hJ : fJu g j = true → JAt g j q2) : Ct mX11_judge (rm 10 4 24) [.ref 0, .int j, .int b, .int so, .int z, .int st, .int n] (Wd g) (FX [(fJu g j, x_iob), (fFo g so z, x_iob), (fSt st, x_iob), (fWi n (gF g 20 12) && fBa j b, x_iae)] (RR (.inl (some (.long (woI (stG g j b so z q q2 T G) n st).toInt64))) (stG g j b so z q q2 T G)) g) := by
  refine Ct.of (by decide +kernel) (Nat.le_of_ble_eq_true rfl) ?_
  show J _ _ _ _ 0 [some (.ref 0), some (.int j), some (.int b), some (.int so), some (.int z), some (.int st), some (.int n)] [] _ 0 0
  refine J_aload_n (nx := 1) dX11_judge_0 rfl rfl ?_
  refine J_iload_n (nx := 2) dX11_judge_1 rfl rfl ?_
  refine JtKV1 (R' := rm (1) 1 6) (nx := 5) dX11_judge_2 rfl ml_X11_requireJudge lk_X11_206 iv_X11_requireJudge rfl rfl ⟨(Nat.le_of_ble_eq_true rfl), (Nat.le_of_ble_eq_true rfl)⟩ (Nat.le_of_ble_eq_true rfl) ⟨rfl, rfl⟩ ⟨(Nat.le_of_ble_eq_true rfl), (Nat.le_of_ble_eq_true rfl)⟩ (ct_requireJudge _ _) (fun t_2 => ?_)
  refine J_aload_n (nx := 6) dX11_judge_5 rfl rfl ?_
  refine J_iload_n (nx := 7) dX11_judge_6 rfl rfl ?_
  refine J_iload (nx := 9) dX11_judge_7 rfl rfl ?_
  refine JtKV2 (R' := rm (1) 1 6) (nx := 12) dX11_judge_9 rfl ml_X11_requireFoul lk_X11_194 iv_X11_requireFoul rfl rfl ⟨(Nat.le_of_ble_eq_true rfl), (Nat.le_of_ble_eq_true rfl)⟩ (Nat.le_of_ble_eq_true rfl) ⟨rfl, rfl⟩ ⟨(Nat.le_of_ble_eq_true rfl), (Nat.le_of_ble_eq_true rfl)⟩ (ct_requireFoul _ _ _) (fun t_9 => ?_)
  refine J_iload (nx := 14) dX11_judge_12 rfl rfl ?_
  refine JcKS1 (R' := rm (0) 0 0) (nx := 17) dX11_judge_14 rfl ml_X11_isState lk_X11_130 st_X11_isState ⟨(Nat.le_of_ble_eq_true rfl), (Nat.le_of_ble_eq_true rfl)⟩ (Nat.le_of_ble_eq_true rfl) ⟨rfl, rfl⟩ ⟨(Nat.le_of_ble_eq_true rfl), (Nat.le_of_ble_eq_true rfl)⟩ (ct_isState _ _) ?_
  refine JtKS1 (R' := rm (0) 1 6) (nx := 20) dX11_judge_17 rfl ml_X11_requirePlace lk_X11_133 st_X11_requirePlace ⟨(Nat.le_of_ble_eq_true rfl), (Nat.le_of_ble_eq_true rfl)⟩ (Nat.le_of_ble_eq_true rfl) ⟨rfl, rfl⟩ ⟨(Nat.le_of_ble_eq_true rfl), (Nat.le_of_ble_eq_true rfl)⟩ (ct_requirePlace _ (fSt st)) (fun t_17 => ?_)
  refine J_iload (nx := 22) dX11_judge_20 rfl rfl ?_
  refine J_aload_n (nx := 23) dX11_judge_22 rfl rfl ?_
  refine Jg_0_2 (nx := 26) dX11_judge_23 rfl fl_X11_28 ?_
  refine Jg_20_12 (nx := 29) dX11_judge_26 rfl fl_X11_176 ?_
  refine JcKS2 (R' := rm (0) 0 0) (nx := 32) dX11_judge_29 rfl ml_X11_within lk_X11_75 st_X11_within ⟨(Nat.le_of_ble_eq_true rfl), (Nat.le_of_ble_eq_true rfl)⟩ (Nat.le_of_ble_eq_true rfl) ⟨rfl, rfl⟩ ⟨(Nat.le_of_ble_eq_true rfl), (Nat.le_of_ble_eq_true rfl)⟩ (ct_within _ _ _) ?_
  refine J_if_eq (nx := 35) (tgt := 47) dX11_judge_32 rfl (by decide) (fun c_32 => ?_) (fun c_32 => ?_)
  · refine J_iconst (nx := 48) (i := 0) (v := 0) (by decide) dX11_judge_47 rfl ?_
    refine J.topi (bI (fWi n (gF g 20 12) && fBa j b)) (by first | (rw [bI_0.mp c_32]; rfl) | (rw [bI_n0.mp c_32, bI_0.mp c_40]; rfl) | (rw [bI_n0.mp c_32, bI_n0.mp c_40]; rfl)) ?_
    refine JtKS1 (R' := rm (0) 1 6) (nx := 51) dX11_judge_48 rfl ml_X11_requireNumber lk_X11_83 st_X11_requireNumber ⟨(Nat.le_of_ble_eq_true rfl), (Nat.le_of_ble_eq_true rfl)⟩ (Nat.le_of_ble_eq_true rfl) ⟨rfl, rfl⟩ ⟨(Nat.le_of_ble_eq_true rfl), (Nat.le_of_ble_eq_true rfl)⟩ (ct_requireNumber _ (fWi n (gF g 20 12) && fBa j b)) (fun t_48 => ?_)
    refine J_aload_n (nx := 52) dX11_judge_51 rfl rfl ?_
    refine J_iload_n (nx := 53) dX11_judge_52 rfl rfl ?_
    refine J_iload_n (nx := 54) dX11_judge_53 rfl rfl ?_
    refine J_iload_n (nx := 55) dX11_judge_54 rfl rfl ?_
    refine J_iload (nx := 57) dX11_judge_55 rfl rfl ?_
    refine JcKV4 (R' := rm (6) 0 0) (nx := 60) dX11_judge_57 rfl ml_X11_seat lk_X11_212 iv_X11_seat rfl rfl ⟨(Nat.le_of_ble_eq_true rfl), (Nat.le_of_ble_eq_true rfl)⟩ (Nat.le_of_ble_eq_true rfl) ⟨rfl, rfl⟩ ⟨(Nat.le_of_ble_eq_true rfl), (Nat.le_of_ble_eq_true rfl)⟩ (ct_seat4 g j b so z q q2 T G hC (hJ t_2)) ?_
    refine J.gen (fun g_57 hg_57 => ?_)
    refine J_aload_n (nx := 61) dX11_judge_60 rfl rfl ?_
    refine Jg_0_5 (nx := 64) dX11_judge_61 rfl fl_X11_40 ?_
    refine J_iload (nx := 66) dX11_judge_64 rfl rfl ?_
    refine J_iload (nx := 68) dX11_judge_66 rfl rfl ?_
    refine JcKV2 (R' := rm (1) 0 0) (nx := 71) dX11_judge_68 rfl ml_X0_worthAt lk_X11_216 iv_X0_worthAt rfl rfl ⟨(Nat.le_of_ble_eq_true rfl), (Nat.le_of_ble_eq_true rfl)⟩ (Nat.le_of_ble_eq_true rfl) ⟨rfl, rfl⟩ ⟨(Nat.le_of_ble_eq_true rfl), (Nat.le_of_ble_eq_true rfl)⟩ (ct_worthAt _ _ _) ?_
    refine J_i2l (nx := 72) dX11_judge_71 rfl ?_
    subst hg_57
    exact Jrl dX11_judge_72 rfl (Nat.le_of_ble_eq_true rfl) (Nat.le_of_ble_eq_true rfl) ⟨rfl, rfl⟩
  · refine J_iload_n (nx := 36) dX11_judge_35 rfl rfl ?_
    refine J_iload_n (nx := 37) dX11_judge_36 rfl rfl ?_
    refine JcKS2 (R' := rm (1) 0 0) (nx := 40) dX11_judge_37 rfl ml_X11_isBarFor lk_X11_209 st_X11_isBarFor ⟨(Nat.le_of_ble_eq_true rfl), (Nat.le_of_ble_eq_true rfl)⟩ (Nat.le_of_ble_eq_true rfl) ⟨rfl, rfl⟩ ⟨(Nat.le_of_ble_eq_true rfl), (Nat.le_of_ble_eq_true rfl)⟩ (ct_isBarFor _ _ _) ?_
    refine J_if_eq (nx := 43) (tgt := 47) dX11_judge_40 rfl (by decide) (fun c_40 => ?_) (fun c_40 => ?_)
    · refine J_iconst (nx := 48) (i := 0) (v := 0) (by decide) dX11_judge_47 rfl ?_
      refine J.topi (bI (fWi n (gF g 20 12) && fBa j b)) (by first | (rw [bI_0.mp c_32]; rfl) | (rw [bI_n0.mp c_32, bI_0.mp c_40]; rfl) | (rw [bI_n0.mp c_32, bI_n0.mp c_40]; rfl)) ?_
      refine JtKS1 (R' := rm (0) 1 6) (nx := 51) dX11_judge_48 rfl ml_X11_requireNumber lk_X11_83 st_X11_requireNumber ⟨(Nat.le_of_ble_eq_true rfl), (Nat.le_of_ble_eq_true rfl)⟩ (Nat.le_of_ble_eq_true rfl) ⟨rfl, rfl⟩ ⟨(Nat.le_of_ble_eq_true rfl), (Nat.le_of_ble_eq_true rfl)⟩ (ct_requireNumber _ (fWi n (gF g 20 12) && fBa j b)) (fun t_48 => ?_)
      refine J_aload_n (nx := 52) dX11_judge_51 rfl rfl ?_
      refine J_iload_n (nx := 53) dX11_judge_52 rfl rfl ?_
      refine J_iload_n (nx := 54) dX11_judge_53 rfl rfl ?_
      refine J_iload_n (nx := 55) dX11_judge_54 rfl rfl ?_
      refine J_iload (nx := 57) dX11_judge_55 rfl rfl ?_
      refine JcKV4 (R' := rm (6) 0 0) (nx := 60) dX11_judge_57 rfl ml_X11_seat lk_X11_212 iv_X11_seat rfl rfl ⟨(Nat.le_of_ble_eq_true rfl), (Nat.le_of_ble_eq_true rfl)⟩ (Nat.le_of_ble_eq_true rfl) ⟨rfl, rfl⟩ ⟨(Nat.le_of_ble_eq_true rfl), (Nat.le_of_ble_eq_true rfl)⟩ (ct_seat4 g j b so z q q2 T G hC (hJ t_2)) ?_
      refine J.gen (fun g_57 hg_57 => ?_)
      refine J_aload_n (nx := 61) dX11_judge_60 rfl rfl ?_
      refine Jg_0_5 (nx := 64) dX11_judge_61 rfl fl_X11_40 ?_
      refine J_iload (nx := 66) dX11_judge_64 rfl rfl ?_
      refine J_iload (nx := 68) dX11_judge_66 rfl rfl ?_
      refine JcKV2 (R' := rm (1) 0 0) (nx := 71) dX11_judge_68 rfl ml_X0_worthAt lk_X11_216 iv_X0_worthAt rfl rfl ⟨(Nat.le_of_ble_eq_true rfl), (Nat.le_of_ble_eq_true rfl)⟩ (Nat.le_of_ble_eq_true rfl) ⟨rfl, rfl⟩ ⟨(Nat.le_of_ble_eq_true rfl), (Nat.le_of_ble_eq_true rfl)⟩ (ct_worthAt _ _ _) ?_
      refine J_i2l (nx := 72) dX11_judge_71 rfl ?_
      subst hg_57
      exact Jrl dX11_judge_72 rfl (Nat.le_of_ble_eq_true rfl) (Nat.le_of_ble_eq_true rfl) ⟨rfl, rfl⟩
    · refine J_iconst (nx := 44) (i := 1) (v := 1) (by decide) dX11_judge_43 rfl ?_
      refine J_goto (nx := 48) dX11_judge_44 (by decide) ?_
      refine J.topi (bI (fWi n (gF g 20 12) && fBa j b)) (by first | (rw [bI_0.mp c_32]; rfl) | (rw [bI_n0.mp c_32, bI_0.mp c_40]; rfl) | (rw [bI_n0.mp c_32, bI_n0.mp c_40]; rfl)) ?_
      refine JtKS1 (R' := rm (0) 1 6) (nx := 51) dX11_judge_48 rfl ml_X11_requireNumber lk_X11_83 st_X11_requireNumber ⟨(Nat.le_of_ble_eq_true rfl), (Nat.le_of_ble_eq_true rfl)⟩ (Nat.le_of_ble_eq_true rfl) ⟨rfl, rfl⟩ ⟨(Nat.le_of_ble_eq_true rfl), (Nat.le_of_ble_eq_true rfl)⟩ (ct_requireNumber _ (fWi n (gF g 20 12) && fBa j b)) (fun t_48 => ?_)
      refine J_aload_n (nx := 52) dX11_judge_51 rfl rfl ?_
      refine J_iload_n (nx := 53) dX11_judge_52 rfl rfl ?_
      refine J_iload_n (nx := 54) dX11_judge_53 rfl rfl ?_
      refine J_iload_n (nx := 55) dX11_judge_54 rfl rfl ?_
      refine J_iload (nx := 57) dX11_judge_55 rfl rfl ?_
      refine JcKV4 (R' := rm (6) 0 0) (nx := 60) dX11_judge_57 rfl ml_X11_seat lk_X11_212 iv_X11_seat rfl rfl ⟨(Nat.le_of_ble_eq_true rfl), (Nat.le_of_ble_eq_true rfl)⟩ (Nat.le_of_ble_eq_true rfl) ⟨rfl, rfl⟩ ⟨(Nat.le_of_ble_eq_true rfl), (Nat.le_of_ble_eq_true rfl)⟩ (ct_seat4 g j b so z q q2 T G hC (hJ t_2)) ?_
      refine J.gen (fun g_57 hg_57 => ?_)
      refine J_aload_n (nx := 61) dX11_judge_60 rfl rfl ?_
      refine Jg_0_5 (nx := 64) dX11_judge_61 rfl fl_X11_40 ?_
      refine J_iload (nx := 66) dX11_judge_64 rfl rfl ?_
      refine J_iload (nx := 68) dX11_judge_66 rfl rfl ?_
      refine JcKV2 (R' := rm (1) 0 0) (nx := 71) dX11_judge_68 rfl ml_X0_worthAt lk_X11_216 iv_X0_worthAt rfl rfl ⟨(Nat.le_of_ble_eq_true rfl), (Nat.le_of_ble_eq_true rfl)⟩ (Nat.le_of_ble_eq_true rfl) ⟨rfl, rfl⟩ ⟨(Nat.le_of_ble_eq_true rfl), (Nat.le_of_ble_eq_true rfl)⟩ (ct_worthAt _ _ _) ?_
      refine J_i2l (nx := 72) dX11_judge_71 rfl ?_
      subst hg_57
      exact Jrl dX11_judge_72 rfl (Nat.le_of_ble_eq_true rfl) (Nat.le_of_ble_eq_true rfl) ⟨rfl, rfl⟩

set_option maxRecDepth 100000 in
set_option maxHeartbeats 4000000 in
theorem ct_does (g : GS) (j b so z st n : Int32) (q q2 : Option CD) (T G : Nat) (hC : Cl g q T G) (hJ : fJu g j = true → JAt g j q2) : Ct mX11_does (rm 10 4 24) [.ref 0, .int j, .int b, .int so, .int z, .int st, .int n] (Wd g) (FX [(fJu g j, x_iob), (fFo g so z, x_iob), (fSt st, x_iob), (fWi n (gF g 20 12) && fBa j b, x_iae)] (RR (.inl (some (.int (deI (stG g j b so z q q2 T G) n st)))) (stG g j b so z q q2 T G)) g) := by
  refine Ct.of (by decide +kernel) (Nat.le_of_ble_eq_true rfl) ?_
  show J _ _ _ _ 0 [some (.ref 0), some (.int j), some (.int b), some (.int so), some (.int z), some (.int st), some (.int n)] [] _ 0 0
  refine J_aload_n (nx := 1) dX11_does_0 rfl rfl ?_
  refine J_iload_n (nx := 2) dX11_does_1 rfl rfl ?_
  refine JtKV1 (R' := rm (1) 1 6) (nx := 5) dX11_does_2 rfl ml_X11_requireJudge lk_X11_206 iv_X11_requireJudge rfl rfl ⟨(Nat.le_of_ble_eq_true rfl), (Nat.le_of_ble_eq_true rfl)⟩ (Nat.le_of_ble_eq_true rfl) ⟨rfl, rfl⟩ ⟨(Nat.le_of_ble_eq_true rfl), (Nat.le_of_ble_eq_true rfl)⟩ (ct_requireJudge _ _) (fun t_2 => ?_)
  refine J_aload_n (nx := 6) dX11_does_5 rfl rfl ?_
  refine J_iload_n (nx := 7) dX11_does_6 rfl rfl ?_
  refine J_iload (nx := 9) dX11_does_7 rfl rfl ?_
  refine JtKV2 (R' := rm (1) 1 6) (nx := 12) dX11_does_9 rfl ml_X11_requireFoul lk_X11_194 iv_X11_requireFoul rfl rfl ⟨(Nat.le_of_ble_eq_true rfl), (Nat.le_of_ble_eq_true rfl)⟩ (Nat.le_of_ble_eq_true rfl) ⟨rfl, rfl⟩ ⟨(Nat.le_of_ble_eq_true rfl), (Nat.le_of_ble_eq_true rfl)⟩ (ct_requireFoul _ _ _) (fun t_9 => ?_)
  refine J_iload (nx := 14) dX11_does_12 rfl rfl ?_
  refine JcKS1 (R' := rm (0) 0 0) (nx := 17) dX11_does_14 rfl ml_X11_isState lk_X11_130 st_X11_isState ⟨(Nat.le_of_ble_eq_true rfl), (Nat.le_of_ble_eq_true rfl)⟩ (Nat.le_of_ble_eq_true rfl) ⟨rfl, rfl⟩ ⟨(Nat.le_of_ble_eq_true rfl), (Nat.le_of_ble_eq_true rfl)⟩ (ct_isState _ _) ?_
  refine JtKS1 (R' := rm (0) 1 6) (nx := 20) dX11_does_17 rfl ml_X11_requirePlace lk_X11_133 st_X11_requirePlace ⟨(Nat.le_of_ble_eq_true rfl), (Nat.le_of_ble_eq_true rfl)⟩ (Nat.le_of_ble_eq_true rfl) ⟨rfl, rfl⟩ ⟨(Nat.le_of_ble_eq_true rfl), (Nat.le_of_ble_eq_true rfl)⟩ (ct_requirePlace _ (fSt st)) (fun t_17 => ?_)
  refine J_iload (nx := 22) dX11_does_20 rfl rfl ?_
  refine J_aload_n (nx := 23) dX11_does_22 rfl rfl ?_
  refine Jg_0_2 (nx := 26) dX11_does_23 rfl fl_X11_28 ?_
  refine Jg_20_12 (nx := 29) dX11_does_26 rfl fl_X11_176 ?_
  refine JcKS2 (R' := rm (0) 0 0) (nx := 32) dX11_does_29 rfl ml_X11_within lk_X11_75 st_X11_within ⟨(Nat.le_of_ble_eq_true rfl), (Nat.le_of_ble_eq_true rfl)⟩ (Nat.le_of_ble_eq_true rfl) ⟨rfl, rfl⟩ ⟨(Nat.le_of_ble_eq_true rfl), (Nat.le_of_ble_eq_true rfl)⟩ (ct_within _ _ _) ?_
  refine J_if_eq (nx := 35) (tgt := 47) dX11_does_32 rfl (by decide) (fun c_32 => ?_) (fun c_32 => ?_)
  · refine J_iconst (nx := 48) (i := 0) (v := 0) (by decide) dX11_does_47 rfl ?_
    refine J.topi (bI (fWi n (gF g 20 12) && fBa j b)) (by first | (rw [bI_0.mp c_32]; rfl) | (rw [bI_n0.mp c_32, bI_0.mp c_40]; rfl) | (rw [bI_n0.mp c_32, bI_n0.mp c_40]; rfl)) ?_
    refine JtKS1 (R' := rm (0) 1 6) (nx := 51) dX11_does_48 rfl ml_X11_requireNumber lk_X11_83 st_X11_requireNumber ⟨(Nat.le_of_ble_eq_true rfl), (Nat.le_of_ble_eq_true rfl)⟩ (Nat.le_of_ble_eq_true rfl) ⟨rfl, rfl⟩ ⟨(Nat.le_of_ble_eq_true rfl), (Nat.le_of_ble_eq_true rfl)⟩ (ct_requireNumber _ (fWi n (gF g 20 12) && fBa j b)) (fun t_48 => ?_)
    refine J_aload_n (nx := 52) dX11_does_51 rfl rfl ?_
    refine J_iload_n (nx := 53) dX11_does_52 rfl rfl ?_
    refine J_iload_n (nx := 54) dX11_does_53 rfl rfl ?_
    refine J_iload_n (nx := 55) dX11_does_54 rfl rfl ?_
    refine J_iload (nx := 57) dX11_does_55 rfl rfl ?_
    refine JcKV4 (R' := rm (6) 0 0) (nx := 60) dX11_does_57 rfl ml_X11_seat lk_X11_212 iv_X11_seat rfl rfl ⟨(Nat.le_of_ble_eq_true rfl), (Nat.le_of_ble_eq_true rfl)⟩ (Nat.le_of_ble_eq_true rfl) ⟨rfl, rfl⟩ ⟨(Nat.le_of_ble_eq_true rfl), (Nat.le_of_ble_eq_true rfl)⟩ (ct_seat4 g j b so z q q2 T G hC (hJ t_2)) ?_
    refine J.gen (fun g_57 hg_57 => ?_)
    refine J_aload_n (nx := 61) dX11_does_60 rfl rfl ?_
    refine Jg_0_5 (nx := 64) dX11_does_61 rfl fl_X11_40 ?_
    refine J_iload (nx := 66) dX11_does_64 rfl rfl ?_
    refine J_iload (nx := 68) dX11_does_66 rfl rfl ?_
    refine JcKV2 (R' := rm (1) 0 0) (nx := 71) dX11_does_68 rfl ml_X0_deedAt lk_X11_219 iv_X0_deedAt rfl rfl ⟨(Nat.le_of_ble_eq_true rfl), (Nat.le_of_ble_eq_true rfl)⟩ (Nat.le_of_ble_eq_true rfl) ⟨rfl, rfl⟩ ⟨(Nat.le_of_ble_eq_true rfl), (Nat.le_of_ble_eq_true rfl)⟩ (ct_deedAt _ _ _) ?_
    subst hg_57
    exact Jri dX11_does_71 rfl (Nat.le_of_ble_eq_true rfl) (Nat.le_of_ble_eq_true rfl) ⟨rfl, rfl⟩
  · refine J_iload_n (nx := 36) dX11_does_35 rfl rfl ?_
    refine J_iload_n (nx := 37) dX11_does_36 rfl rfl ?_
    refine JcKS2 (R' := rm (1) 0 0) (nx := 40) dX11_does_37 rfl ml_X11_isBarFor lk_X11_209 st_X11_isBarFor ⟨(Nat.le_of_ble_eq_true rfl), (Nat.le_of_ble_eq_true rfl)⟩ (Nat.le_of_ble_eq_true rfl) ⟨rfl, rfl⟩ ⟨(Nat.le_of_ble_eq_true rfl), (Nat.le_of_ble_eq_true rfl)⟩ (ct_isBarFor _ _ _) ?_
    refine J_if_eq (nx := 43) (tgt := 47) dX11_does_40 rfl (by decide) (fun c_40 => ?_) (fun c_40 => ?_)
    · refine J_iconst (nx := 48) (i := 0) (v := 0) (by decide) dX11_does_47 rfl ?_
      refine J.topi (bI (fWi n (gF g 20 12) && fBa j b)) (by first | (rw [bI_0.mp c_32]; rfl) | (rw [bI_n0.mp c_32, bI_0.mp c_40]; rfl) | (rw [bI_n0.mp c_32, bI_n0.mp c_40]; rfl)) ?_
      refine JtKS1 (R' := rm (0) 1 6) (nx := 51) dX11_does_48 rfl ml_X11_requireNumber lk_X11_83 st_X11_requireNumber ⟨(Nat.le_of_ble_eq_true rfl), (Nat.le_of_ble_eq_true rfl)⟩ (Nat.le_of_ble_eq_true rfl) ⟨rfl, rfl⟩ ⟨(Nat.le_of_ble_eq_true rfl), (Nat.le_of_ble_eq_true rfl)⟩ (ct_requireNumber _ (fWi n (gF g 20 12) && fBa j b)) (fun t_48 => ?_)
      refine J_aload_n (nx := 52) dX11_does_51 rfl rfl ?_
      refine J_iload_n (nx := 53) dX11_does_52 rfl rfl ?_
      refine J_iload_n (nx := 54) dX11_does_53 rfl rfl ?_
      refine J_iload_n (nx := 55) dX11_does_54 rfl rfl ?_
      refine J_iload (nx := 57) dX11_does_55 rfl rfl ?_
      refine JcKV4 (R' := rm (6) 0 0) (nx := 60) dX11_does_57 rfl ml_X11_seat lk_X11_212 iv_X11_seat rfl rfl ⟨(Nat.le_of_ble_eq_true rfl), (Nat.le_of_ble_eq_true rfl)⟩ (Nat.le_of_ble_eq_true rfl) ⟨rfl, rfl⟩ ⟨(Nat.le_of_ble_eq_true rfl), (Nat.le_of_ble_eq_true rfl)⟩ (ct_seat4 g j b so z q q2 T G hC (hJ t_2)) ?_
      refine J.gen (fun g_57 hg_57 => ?_)
      refine J_aload_n (nx := 61) dX11_does_60 rfl rfl ?_
      refine Jg_0_5 (nx := 64) dX11_does_61 rfl fl_X11_40 ?_
      refine J_iload (nx := 66) dX11_does_64 rfl rfl ?_
      refine J_iload (nx := 68) dX11_does_66 rfl rfl ?_
      refine JcKV2 (R' := rm (1) 0 0) (nx := 71) dX11_does_68 rfl ml_X0_deedAt lk_X11_219 iv_X0_deedAt rfl rfl ⟨(Nat.le_of_ble_eq_true rfl), (Nat.le_of_ble_eq_true rfl)⟩ (Nat.le_of_ble_eq_true rfl) ⟨rfl, rfl⟩ ⟨(Nat.le_of_ble_eq_true rfl), (Nat.le_of_ble_eq_true rfl)⟩ (ct_deedAt _ _ _) ?_
      subst hg_57
      exact Jri dX11_does_71 rfl (Nat.le_of_ble_eq_true rfl) (Nat.le_of_ble_eq_true rfl) ⟨rfl, rfl⟩
    · refine J_iconst (nx := 44) (i := 1) (v := 1) (by decide) dX11_does_43 rfl ?_
      refine J_goto (nx := 48) dX11_does_44 (by decide) ?_
      refine J.topi (bI (fWi n (gF g 20 12) && fBa j b)) (by first | (rw [bI_0.mp c_32]; rfl) | (rw [bI_n0.mp c_32, bI_0.mp c_40]; rfl) | (rw [bI_n0.mp c_32, bI_n0.mp c_40]; rfl)) ?_
      refine JtKS1 (R' := rm (0) 1 6) (nx := 51) dX11_does_48 rfl ml_X11_requireNumber lk_X11_83 st_X11_requireNumber ⟨(Nat.le_of_ble_eq_true rfl), (Nat.le_of_ble_eq_true rfl)⟩ (Nat.le_of_ble_eq_true rfl) ⟨rfl, rfl⟩ ⟨(Nat.le_of_ble_eq_true rfl), (Nat.le_of_ble_eq_true rfl)⟩ (ct_requireNumber _ (fWi n (gF g 20 12) && fBa j b)) (fun t_48 => ?_)
      refine J_aload_n (nx := 52) dX11_does_51 rfl rfl ?_
      refine J_iload_n (nx := 53) dX11_does_52 rfl rfl ?_
      refine J_iload_n (nx := 54) dX11_does_53 rfl rfl ?_
      refine J_iload_n (nx := 55) dX11_does_54 rfl rfl ?_
      refine J_iload (nx := 57) dX11_does_55 rfl rfl ?_
      refine JcKV4 (R' := rm (6) 0 0) (nx := 60) dX11_does_57 rfl ml_X11_seat lk_X11_212 iv_X11_seat rfl rfl ⟨(Nat.le_of_ble_eq_true rfl), (Nat.le_of_ble_eq_true rfl)⟩ (Nat.le_of_ble_eq_true rfl) ⟨rfl, rfl⟩ ⟨(Nat.le_of_ble_eq_true rfl), (Nat.le_of_ble_eq_true rfl)⟩ (ct_seat4 g j b so z q q2 T G hC (hJ t_2)) ?_
      refine J.gen (fun g_57 hg_57 => ?_)
      refine J_aload_n (nx := 61) dX11_does_60 rfl rfl ?_
      refine Jg_0_5 (nx := 64) dX11_does_61 rfl fl_X11_40 ?_
      refine J_iload (nx := 66) dX11_does_64 rfl rfl ?_
      refine J_iload (nx := 68) dX11_does_66 rfl rfl ?_
      refine JcKV2 (R' := rm (1) 0 0) (nx := 71) dX11_does_68 rfl ml_X0_deedAt lk_X11_219 iv_X0_deedAt rfl rfl ⟨(Nat.le_of_ble_eq_true rfl), (Nat.le_of_ble_eq_true rfl)⟩ (Nat.le_of_ble_eq_true rfl) ⟨rfl, rfl⟩ ⟨(Nat.le_of_ble_eq_true rfl), (Nat.le_of_ble_eq_true rfl)⟩ (ct_deedAt _ _ _) ?_
      subst hg_57
      exact Jri dX11_does_71 rfl (Nat.le_of_ble_eq_true rfl) (Nat.le_of_ble_eq_true rfl) ⟨rfl, rfl⟩

def wtG (g : GS) (q : Option CD) (T : Nat) : GS := sF (sF (opAll g (gF g 20 14) T q) 40 8 3) 40 9 0
set_option maxRecDepth 100000 in
set_option maxHeartbeats 4000000 in
theorem ct_waits (g : GS) (so z st : Int32) (q : Option CD) (T G : Nat) (hC : Cl g q T G) : Ct mX11_waits (rm 10 2 12) [.ref 0, .int so, .int z, .int st] (Wd g) (FX [(fFo g so z, x_iob), (fSt st, x_iob)] (RR (.inl (some (.long ((woI (bbG (wtG g q T) so z G) 0 st).toInt64 - (woI (bbG (bbG (wtG g q T) so z G) so z 0) 0 st).toInt64)))) (bbG (bbG (wtG g q T) so z G) so z 0)) g) := by
  refine Ct.of (by decide +kernel) (Nat.le_of_ble_eq_true rfl) ?_
  show J _ _ _ _ 0 [some (.ref 0), some (.int so), some (.int z), some (.int st)] [] _ 0 0
  refine J_aload_n (nx := 1) dX11_waits_0 rfl rfl ?_
  refine J_iload_n (nx := 2) dX11_waits_1 rfl rfl ?_
  refine J_iload_n (nx := 3) dX11_waits_2 rfl rfl ?_
  refine JtKV2 (R' := rm (1) 1 6) (nx := 6) dX11_waits_3 rfl ml_X11_requireFoul lk_X11_194 iv_X11_requireFoul rfl rfl ⟨(Nat.le_of_ble_eq_true rfl), (Nat.le_of_ble_eq_true rfl)⟩ (Nat.le_of_ble_eq_true rfl) ⟨rfl, rfl⟩ ⟨(Nat.le_of_ble_eq_true rfl), (Nat.le_of_ble_eq_true rfl)⟩ (ct_requireFoul _ _ _) (fun t_3 => ?_)
  refine J_iload_n (nx := 7) dX11_waits_6 rfl rfl ?_
  refine JcKS1 (R' := rm (0) 0 0) (nx := 10) dX11_waits_7 rfl ml_X11_isState lk_X11_130 st_X11_isState ⟨(Nat.le_of_ble_eq_true rfl), (Nat.le_of_ble_eq_true rfl)⟩ (Nat.le_of_ble_eq_true rfl) ⟨rfl, rfl⟩ ⟨(Nat.le_of_ble_eq_true rfl), (Nat.le_of_ble_eq_true rfl)⟩ (ct_isState _ _) ?_
  refine JtKS1 (R' := rm (0) 1 6) (nx := 13) dX11_waits_10 rfl ml_X11_requirePlace lk_X11_133 st_X11_requirePlace ⟨(Nat.le_of_ble_eq_true rfl), (Nat.le_of_ble_eq_true rfl)⟩ (Nat.le_of_ble_eq_true rfl) ⟨rfl, rfl⟩ ⟨(Nat.le_of_ble_eq_true rfl), (Nat.le_of_ble_eq_true rfl)⟩ (ct_requirePlace _ (fSt st)) (fun t_10 => ?_)
  refine J_aload_n (nx := 14) dX11_waits_13 rfl rfl ?_
  refine Jg_0_5 (nx := 17) dX11_waits_14 rfl fl_X11_40 ?_
  refine J_aload_n (nx := 18) dX11_waits_17 rfl rfl ?_
  refine Jg_0_2 (nx := 21) dX11_waits_18 rfl fl_X11_28 ?_
  refine Jg_20_14 (nx := 24) dX11_waits_21 rfl fl_X11_161 ?_
  refine J_aload_n (nx := 25) dX11_waits_24 rfl rfl ?_
  refine Jg_0_2 (nx := 28) dX11_waits_25 rfl fl_X11_28 ?_
  refine Jg_20_13 (nx := 31) dX11_waits_28 rfl fl_X11_173 ?_
  rw [hC.2.1]
  refine JcKV2 (R' := rm (4) 0 0) (nx := 34) dX11_waits_31 rfl ml_X0_open lk_X11_188 iv_X0_open rfl rfl ⟨(Nat.le_of_ble_eq_true rfl), (Nat.le_of_ble_eq_true rfl)⟩ (Nat.le_of_ble_eq_true rfl) ⟨rfl, rfl⟩ ⟨(Nat.le_of_ble_eq_true rfl), (Nat.le_of_ble_eq_true rfl)⟩ (ct_open g _ T q hC.1 (by have := hC.2.2.1; omega)) ?_
  refine J.gen (fun g_31 hg_31 => ?_)
  refine J_aload_n (nx := 35) dX11_waits_34 rfl rfl ?_
  refine Jg_0_5 (nx := 38) dX11_waits_35 rfl fl_X11_40 ?_
  refine J_iconst (nx := 39) (i := 3) (v := 3) (by decide) dX11_waits_38 rfl ?_
  refine J_iconst (nx := 40) (i := 0) (v := 0) (by decide) dX11_waits_39 rfl ?_
  refine JcKV2 (R' := rm (0) 0 0) (nx := 43) dX11_waits_40 rfl ml_X0_seat lk_X11_222 iv_X0_seat rfl rfl ⟨(Nat.le_of_ble_eq_true rfl), (Nat.le_of_ble_eq_true rfl)⟩ (Nat.le_of_ble_eq_true rfl) ⟨rfl, rfl⟩ ⟨(Nat.le_of_ble_eq_true rfl), (Nat.le_of_ble_eq_true rfl)⟩ (ct_seat _ _ _) ?_
  refine J.gen (fun g_40 hg_40 => ?_)
  have k1 : KF g g_40 := by rw [hg_40]; refine Fr.sF (Fr.sF ?_ rfl) rfl; rw [hg_31]; exact kf_open Fr.rf _ _ _
  have hJ : JudgeAt g_40 none := by rw [hg_40]; exact (show (3 : Int32) < 5 by decide)
  refine J_aload_n (nx := 44) dX11_waits_43 rfl rfl ?_
  refine J_aload_n (nx := 45) dX11_waits_44 rfl rfl ?_
  refine Jg_0_2 (nx := 48) dX11_waits_45 rfl fl_X11_28 ?_
  refine Jg_20_12 (nx := 51) dX11_waits_48 rfl fl_X11_176 ?_
  refine J_iload_n (nx := 52) dX11_waits_51 rfl rfl ?_
  refine J_iload_n (nx := 53) dX11_waits_52 rfl rfl ?_
  refine J_iload_n (nx := 54) dX11_waits_53 rfl rfl ?_
  rw [(hC.kf k1).2.2.2.1]
  refine JcKV4 (R' := rm (6) 0 0) (nx := 57) dX11_waits_54 rfl ml_X11_bestBy lk_X11_224 iv_X11_bestBy rfl rfl ⟨(Nat.le_of_ble_eq_true rfl), (Nat.le_of_ble_eq_true rfl)⟩ (Nat.le_of_ble_eq_true rfl) ⟨rfl, rfl⟩ ⟨(Nat.le_of_ble_eq_true rfl), (Nat.le_of_ble_eq_true rfl)⟩ (ct_bestBy g_40 so z st G hC.2.2.2.2 hJ) ?_
  refine J.gen (fun g_54 hg_54 => ?_)
  refine J_i2l (nx := 58) dX11_waits_57 rfl ?_
  refine J_aload_n (nx := 59) dX11_waits_58 rfl rfl ?_
  refine J_iconst (nx := 60) (i := 0) (v := 0) (by decide) dX11_waits_59 rfl ?_
  refine J_iload_n (nx := 61) dX11_waits_60 rfl rfl ?_
  refine J_iload_n (nx := 62) dX11_waits_61 rfl rfl ?_
  refine J_iload_n (nx := 63) dX11_waits_62 rfl rfl ?_
  refine JcKV4 (R' := rm (6) 0 0) (nx := 66) dX11_waits_63 rfl ml_X11_bestBy lk_X11_224 iv_X11_bestBy rfl rfl ⟨(Nat.le_of_ble_eq_true rfl), (Nat.le_of_ble_eq_true rfl)⟩ (Nat.le_of_ble_eq_true rfl) ⟨rfl, rfl⟩ ⟨(Nat.le_of_ble_eq_true rfl), (Nat.le_of_ble_eq_true rfl)⟩ (ct_bestBy g_54 so z st 0 (by omega) (by rw [hg_54]; exact bb_J hJ so z hC.2.2.2.2)) ?_
  refine J.gen (fun g_63 hg_63 => ?_)
  refine J_i2l (nx := 67) dX11_waits_66 rfl ?_
  refine J_lsub (nx := 68) dX11_waits_67 rfl ?_
  subst hg_63
  subst hg_54
  subst hg_40
  subst hg_31
  exact Jrl dX11_waits_68 rfl (Nat.le_of_ble_eq_true rfl) (Nat.le_of_ble_eq_true rfl) ⟨rfl, rfl⟩

def loF (st : Int32) : Nat := if st = -1 then 0 else st.toNatClampNeg
def loN (st : Int32) : Nat := if st = -1 then 32 else 1
def fSx (st : Int32) : Bool := if st = -1 then true else fSt st
set_option maxRecDepth 100000 in
set_option maxHeartbeats 4000000 in
theorem sg_loses (g : GS) (j b so z st : Int32) (f l n : Nat) (hfl : f + n = l + 1) (hl : l < 2 ^ 30) (q q2 : Option CD) (T G : Nat) (hC : Cl g q T G) (hJ : JAt g j q2) (n0 : Nat) : J mX11_loses (rm 10 4 24) (RR (.inl (some (.long ((wtI (stG g 3 0 so z q none T G) f n).toInt64 - (wtI (stG (stG g 3 0 so z q none T G) j b so z q q2 T G) f n).toInt64)))) (stG (stG g 3 0 so z q none T G) j b so z q q2 T G)) n0 71 [some (.ref 0), some (.int j), some (.int b), some (.int so), some (.int z), some (.int st), some (.int (nI f)), some (.int (nI l)), none] [] (Wd g) 4 24 := by
  refine J_aload_n (nx := 72) dX11_loses_71 rfl rfl ?_
  refine J_iconst (nx := 73) (i := 3) (v := 3) (by decide) dX11_loses_72 rfl ?_
  refine J_iconst (nx := 74) (i := 0) (v := 0) (by decide) dX11_loses_73 rfl ?_
  refine J_iload_n (nx := 75) dX11_loses_74 rfl rfl ?_
  refine J_iload (nx := 77) dX11_loses_75 rfl rfl ?_
  refine JcKV4 (R' := rm (6) 0 0) (nx := 80) dX11_loses_77 rfl ml_X11_seat lk_X11_212 iv_X11_seat rfl rfl ⟨(Nat.le_of_ble_eq_true rfl), (Nat.le_of_ble_eq_true rfl)⟩ (Nat.le_of_ble_eq_true rfl) ⟨rfl, rfl⟩ ⟨(Nat.le_of_ble_eq_true rfl), (Nat.le_of_ble_eq_true rfl)⟩ (ct_seat4 g 3 0 so z q none T G hC (show (3 : Int32) < 5 by decide)) ?_
  refine J.gen (fun g_77 hg_77 => ?_)
  have k1 : KF g g_77 := by rw [hg_77]; exact kf_st Fr.rf _ _ _ _ _ _ _ _
  refine J_aload_n (nx := 81) dX11_loses_80 rfl rfl ?_
  refine Jg_0_5 (nx := 84) dX11_loses_81 rfl fl_X11_40 ?_
  refine J_iload (nx := 86) dX11_loses_84 rfl rfl ?_
  refine J_iload (nx := 88) dX11_loses_86 rfl rfl ?_
  refine JcKV2 (R' := rm (2) 0 0) (nx := 91) dX11_loses_88 rfl ml_X0_worthTogether lk_X11_228 iv_X0_worthTogether rfl rfl ⟨(Nat.le_of_ble_eq_true rfl), (Nat.le_of_ble_eq_true rfl)⟩ (Nat.le_of_ble_eq_true rfl) ⟨rfl, rfl⟩ ⟨(Nat.le_of_ble_eq_true rfl), (Nat.le_of_ble_eq_true rfl)⟩ (ct_worthTogether g_77 f l n hfl hl) ?_
  refine J_istore (nx := 93) dX11_loses_91 rfl rfl (Nat.le_of_ble_eq_true rfl) ?_
  refine J_aload_n (nx := 94) dX11_loses_93 rfl rfl ?_
  refine J_iload_n (nx := 95) dX11_loses_94 rfl rfl ?_
  refine J_iload_n (nx := 96) dX11_loses_95 rfl rfl ?_
  refine J_iload_n (nx := 97) dX11_loses_96 rfl rfl ?_
  refine J_iload (nx := 99) dX11_loses_97 rfl rfl ?_
  refine JcKV4 (R' := rm (6) 0 0) (nx := 102) dX11_loses_99 rfl ml_X11_seat lk_X11_212 iv_X11_seat rfl rfl ⟨(Nat.le_of_ble_eq_true rfl), (Nat.le_of_ble_eq_true rfl)⟩ (Nat.le_of_ble_eq_true rfl) ⟨rfl, rfl⟩ ⟨(Nat.le_of_ble_eq_true rfl), (Nat.le_of_ble_eq_true rfl)⟩ (ct_seat4 g_77 j b so z q q2 T G (hC.kf k1) (hJ.kf k1)) ?_
  refine J.gen (fun g_99 hg_99 => ?_)
  refine J_iload (nx := 104) dX11_loses_102 rfl rfl ?_
  refine J_i2l (nx := 105) dX11_loses_104 rfl ?_
  refine J_aload_n (nx := 106) dX11_loses_105 rfl rfl ?_
  refine Jg_0_5 (nx := 109) dX11_loses_106 rfl fl_X11_40 ?_
  refine J_iload (nx := 111) dX11_loses_109 rfl rfl ?_
  refine J_iload (nx := 113) dX11_loses_111 rfl rfl ?_
  refine JcKV2 (R' := rm (2) 0 0) (nx := 116) dX11_loses_113 rfl ml_X0_worthTogether lk_X11_228 iv_X0_worthTogether rfl rfl ⟨(Nat.le_of_ble_eq_true rfl), (Nat.le_of_ble_eq_true rfl)⟩ (Nat.le_of_ble_eq_true rfl) ⟨rfl, rfl⟩ ⟨(Nat.le_of_ble_eq_true rfl), (Nat.le_of_ble_eq_true rfl)⟩ (ct_worthTogether g_99 f l n hfl hl) ?_
  refine J_i2l (nx := 117) dX11_loses_116 rfl ?_
  refine J_lsub (nx := 118) dX11_loses_117 rfl ?_
  subst hg_99
  subst hg_77
  exact Jrl dX11_loses_118 rfl (Nat.le_of_ble_eq_true rfl) (Nat.le_of_ble_eq_true rfl) ⟨rfl, rfl⟩

set_option maxRecDepth 100000 in
set_option maxHeartbeats 4000000 in
theorem ct_loses (g : GS) (j b so z st : Int32) (q q2 : Option CD) (T G : Nat) (hC : Cl g q T G) (hJ : fJu g j = true → JAt g j q2) : Ct mX11_loses (rm 10 4 24) [.ref 0, .int j, .int b, .int so, .int z, .int st] (Wd g) (FX [(fJu g j, x_iob), (fFo g so z, x_iob), (fSx st, x_iob), (fBa j b, x_iae)] (RR (.inl (some (.long ((wtI (stG g 3 0 so z q none T G) (loF st) (loN st)).toInt64 - (wtI (stG (stG g 3 0 so z q none T G) j b so z q q2 T G) (loF st) (loN st)).toInt64)))) (stG (stG g 3 0 so z q none T G) j b so z q q2 T G)) g) := by
  refine Ct.of (by decide +kernel) (Nat.le_of_ble_eq_true rfl) ?_
  show J _ _ _ _ 0 [some (.ref 0), some (.int j), some (.int b), some (.int so), some (.int z), some (.int st), none, none, none] [] _ 0 0
  refine J_aload_n (nx := 1) dX11_loses_0 rfl rfl ?_
  refine J_iload_n (nx := 2) dX11_loses_1 rfl rfl ?_
  refine JtKV1 (R' := rm (1) 1 6) (nx := 5) dX11_loses_2 rfl ml_X11_requireJudge lk_X11_206 iv_X11_requireJudge rfl rfl ⟨(Nat.le_of_ble_eq_true rfl), (Nat.le_of_ble_eq_true rfl)⟩ (Nat.le_of_ble_eq_true rfl) ⟨rfl, rfl⟩ ⟨(Nat.le_of_ble_eq_true rfl), (Nat.le_of_ble_eq_true rfl)⟩ (ct_requireJudge _ _) (fun t_2 => ?_)
  refine J_aload_n (nx := 6) dX11_loses_5 rfl rfl ?_
  refine J_iload_n (nx := 7) dX11_loses_6 rfl rfl ?_
  refine J_iload (nx := 9) dX11_loses_7 rfl rfl ?_
  refine JtKV2 (R' := rm (1) 1 6) (nx := 12) dX11_loses_9 rfl ml_X11_requireFoul lk_X11_194 iv_X11_requireFoul rfl rfl ⟨(Nat.le_of_ble_eq_true rfl), (Nat.le_of_ble_eq_true rfl)⟩ (Nat.le_of_ble_eq_true rfl) ⟨rfl, rfl⟩ ⟨(Nat.le_of_ble_eq_true rfl), (Nat.le_of_ble_eq_true rfl)⟩ (ct_requireFoul _ _ _) (fun t_9 => ?_)
  refine J_iload (nx := 14) dX11_loses_12 rfl rfl ?_
  refine J_iconst (nx := 15) (i := -1) (v := -1) (by decide) dX11_loses_14 rfl ?_
  refine J_icmp_eq (nx := 18) (tgt := 26) dX11_loses_15 rfl (by decide) (fun c_15 => ?_) (fun c_15 => ?_)
  · refine J_iconst (nx := 27) (i := 1) (v := 1) (by decide) dX11_loses_26 rfl ?_
    refine J_goto (nx := 31) dX11_loses_27 (by decide) ?_
    refine J.topi (bI (fSx st)) (by unfold fSx; first | (rw [if_pos c_15]; rfl) | (rw [if_neg c_15, bI_0.mp c_23]; rfl) | (rw [if_neg c_15, bI_n0.mp c_23]; rfl)) ?_
    refine JtKS1 (R' := rm (0) 1 6) (nx := 34) dX11_loses_31 rfl ml_X11_requirePlace lk_X11_133 st_X11_requirePlace ⟨(Nat.le_of_ble_eq_true rfl), (Nat.le_of_ble_eq_true rfl)⟩ (Nat.le_of_ble_eq_true rfl) ⟨rfl, rfl⟩ ⟨(Nat.le_of_ble_eq_true rfl), (Nat.le_of_ble_eq_true rfl)⟩ (ct_requirePlace _ (fSx st)) (fun t_31 => ?_)
    refine J_iload_n (nx := 35) dX11_loses_34 rfl rfl ?_
    refine J_iload_n (nx := 36) dX11_loses_35 rfl rfl ?_
    refine JcKS2 (R' := rm (1) 0 0) (nx := 39) dX11_loses_36 rfl ml_X11_isBarFor lk_X11_209 st_X11_isBarFor ⟨(Nat.le_of_ble_eq_true rfl), (Nat.le_of_ble_eq_true rfl)⟩ (Nat.le_of_ble_eq_true rfl) ⟨rfl, rfl⟩ ⟨(Nat.le_of_ble_eq_true rfl), (Nat.le_of_ble_eq_true rfl)⟩ (ct_isBarFor _ _ _) ?_
    refine JtKS1 (R' := rm (0) 1 6) (nx := 42) dX11_loses_39 rfl ml_X11_requireNumber lk_X11_83 st_X11_requireNumber ⟨(Nat.le_of_ble_eq_true rfl), (Nat.le_of_ble_eq_true rfl)⟩ (Nat.le_of_ble_eq_true rfl) ⟨rfl, rfl⟩ ⟨(Nat.le_of_ble_eq_true rfl), (Nat.le_of_ble_eq_true rfl)⟩ (ct_requireNumber _ (fBa j b)) (fun t_39 => ?_)
    refine J_iload (nx := 44) dX11_loses_42 rfl rfl ?_
    refine J_iconst (nx := 45) (i := -1) (v := -1) (by decide) dX11_loses_44 rfl ?_
    refine J_icmp_ne (nx := 48) (tgt := 52) dX11_loses_45 rfl (by decide) (fun c_45 => ?_) (fun c_45 => ?_)
    · refine J_iload (nx := 54) dX11_loses_52 rfl rfl ?_
      refine J_istore (nx := 56) dX11_loses_54 rfl rfl (Nat.le_of_ble_eq_true rfl) ?_
      refine J_iload (nx := 58) dX11_loses_56 rfl rfl ?_
      refine J_iconst (nx := 59) (i := -1) (v := -1) (by decide) dX11_loses_58 rfl ?_
      refine J_icmp_ne (nx := 62) (tgt := 67) dX11_loses_59 rfl (by decide) (fun c_59 => ?_) (fun c_59 => ?_)
      · refine J_iload (nx := 69) dX11_loses_67 rfl rfl ?_
        refine J_istore (nx := 71) dX11_loses_69 rfl rfl (Nat.le_of_ble_eq_true rfl) ?_
        first
          | exact absurd c_59 c_45
          | exact absurd c_45 c_59
          | (have hn : ∃ m, m < 32 ∧ st = nI m := by
               have t2 := t_31
               unfold fSx at t2
               rw [if_neg c_45] at t2
               exact fSt_nI t2
             obtain ⟨m, hm, e⟩ := hn
             have e1 : loF st = m := by unfold loF; rw [if_neg c_45, e, nI_clamp (by omega)]
             have e2 : loN st = 1 := if_neg c_45
             have hS := sg_loses g j b so z st m m 1 (by omega) (by omega) q q2 T G hC (hJ t_2) (Wd g).length
             rw [e1, e2]
             rw [← e] at hS
             exact hS)
          | (have e : st = -1 := c_45
             have e1 : loF st = 0 := if_pos e
             have e2 : loN st = 32 := if_pos e
             rw [e1, e2]
             exact sg_loses g j b so z st 0 31 32 (by omega) (by omega) q q2 T G hC (hJ t_2) _)
      · refine J_bipush (nx := 64) (i := 31) (v := 31) (by decide) dX11_loses_62 rfl ?_
        refine J_goto (nx := 69) dX11_loses_64 (by decide) ?_
        refine J_istore (nx := 71) dX11_loses_69 rfl rfl (Nat.le_of_ble_eq_true rfl) ?_
        first
          | exact absurd c_59 c_45
          | exact absurd c_45 c_59
          | (have hn : ∃ m, m < 32 ∧ st = nI m := by
               have t2 := t_31
               unfold fSx at t2
               rw [if_neg c_45] at t2
               exact fSt_nI t2
             obtain ⟨m, hm, e⟩ := hn
             have e1 : loF st = m := by unfold loF; rw [if_neg c_45, e, nI_clamp (by omega)]
             have e2 : loN st = 1 := if_neg c_45
             have hS := sg_loses g j b so z st m m 1 (by omega) (by omega) q q2 T G hC (hJ t_2) (Wd g).length
             rw [e1, e2]
             rw [← e] at hS
             exact hS)
          | (have e : st = -1 := c_45
             have e1 : loF st = 0 := if_pos e
             have e2 : loN st = 32 := if_pos e
             rw [e1, e2]
             exact sg_loses g j b so z st 0 31 32 (by omega) (by omega) q q2 T G hC (hJ t_2) _)
    · refine J_iconst (nx := 49) (i := 0) (v := 0) (by decide) dX11_loses_48 rfl ?_
      refine J_goto (nx := 54) dX11_loses_49 (by decide) ?_
      refine J_istore (nx := 56) dX11_loses_54 rfl rfl (Nat.le_of_ble_eq_true rfl) ?_
      refine J_iload (nx := 58) dX11_loses_56 rfl rfl ?_
      refine J_iconst (nx := 59) (i := -1) (v := -1) (by decide) dX11_loses_58 rfl ?_
      refine J_icmp_ne (nx := 62) (tgt := 67) dX11_loses_59 rfl (by decide) (fun c_59 => ?_) (fun c_59 => ?_)
      · refine J_iload (nx := 69) dX11_loses_67 rfl rfl ?_
        refine J_istore (nx := 71) dX11_loses_69 rfl rfl (Nat.le_of_ble_eq_true rfl) ?_
        first
          | exact absurd c_59 c_45
          | exact absurd c_45 c_59
          | (have hn : ∃ m, m < 32 ∧ st = nI m := by
               have t2 := t_31
               unfold fSx at t2
               rw [if_neg c_45] at t2
               exact fSt_nI t2
             obtain ⟨m, hm, e⟩ := hn
             have e1 : loF st = m := by unfold loF; rw [if_neg c_45, e, nI_clamp (by omega)]
             have e2 : loN st = 1 := if_neg c_45
             have hS := sg_loses g j b so z st m m 1 (by omega) (by omega) q q2 T G hC (hJ t_2) (Wd g).length
             rw [e1, e2]
             rw [← e] at hS
             exact hS)
          | (have e : st = -1 := c_45
             have e1 : loF st = 0 := if_pos e
             have e2 : loN st = 32 := if_pos e
             rw [e1, e2]
             exact sg_loses g j b so z st 0 31 32 (by omega) (by omega) q q2 T G hC (hJ t_2) _)
      · refine J_bipush (nx := 64) (i := 31) (v := 31) (by decide) dX11_loses_62 rfl ?_
        refine J_goto (nx := 69) dX11_loses_64 (by decide) ?_
        refine J_istore (nx := 71) dX11_loses_69 rfl rfl (Nat.le_of_ble_eq_true rfl) ?_
        first
          | exact absurd c_59 c_45
          | exact absurd c_45 c_59
          | (have hn : ∃ m, m < 32 ∧ st = nI m := by
               have t2 := t_31
               unfold fSx at t2
               rw [if_neg c_45] at t2
               exact fSt_nI t2
             obtain ⟨m, hm, e⟩ := hn
             have e1 : loF st = m := by unfold loF; rw [if_neg c_45, e, nI_clamp (by omega)]
             have e2 : loN st = 1 := if_neg c_45
             have hS := sg_loses g j b so z st m m 1 (by omega) (by omega) q q2 T G hC (hJ t_2) (Wd g).length
             rw [e1, e2]
             rw [← e] at hS
             exact hS)
          | (have e : st = -1 := c_45
             have e1 : loF st = 0 := if_pos e
             have e2 : loN st = 32 := if_pos e
             rw [e1, e2]
             exact sg_loses g j b so z st 0 31 32 (by omega) (by omega) q q2 T G hC (hJ t_2) _)
  · refine J_iload (nx := 20) dX11_loses_18 rfl rfl ?_
    refine JcKS1 (R' := rm (0) 0 0) (nx := 23) dX11_loses_20 rfl ml_X11_isState lk_X11_130 st_X11_isState ⟨(Nat.le_of_ble_eq_true rfl), (Nat.le_of_ble_eq_true rfl)⟩ (Nat.le_of_ble_eq_true rfl) ⟨rfl, rfl⟩ ⟨(Nat.le_of_ble_eq_true rfl), (Nat.le_of_ble_eq_true rfl)⟩ (ct_isState _ _) ?_
    refine J_if_eq (nx := 26) (tgt := 30) dX11_loses_23 rfl (by decide) (fun c_23 => ?_) (fun c_23 => ?_)
    · refine J_iconst (nx := 31) (i := 0) (v := 0) (by decide) dX11_loses_30 rfl ?_
      refine J.topi (bI (fSx st)) (by unfold fSx; first | (rw [if_pos c_15]; rfl) | (rw [if_neg c_15, bI_0.mp c_23]; rfl) | (rw [if_neg c_15, bI_n0.mp c_23]; rfl)) ?_
      refine JtKS1 (R' := rm (0) 1 6) (nx := 34) dX11_loses_31 rfl ml_X11_requirePlace lk_X11_133 st_X11_requirePlace ⟨(Nat.le_of_ble_eq_true rfl), (Nat.le_of_ble_eq_true rfl)⟩ (Nat.le_of_ble_eq_true rfl) ⟨rfl, rfl⟩ ⟨(Nat.le_of_ble_eq_true rfl), (Nat.le_of_ble_eq_true rfl)⟩ (ct_requirePlace _ (fSx st)) (fun t_31 => ?_)
      refine J_iload_n (nx := 35) dX11_loses_34 rfl rfl ?_
      refine J_iload_n (nx := 36) dX11_loses_35 rfl rfl ?_
      refine JcKS2 (R' := rm (1) 0 0) (nx := 39) dX11_loses_36 rfl ml_X11_isBarFor lk_X11_209 st_X11_isBarFor ⟨(Nat.le_of_ble_eq_true rfl), (Nat.le_of_ble_eq_true rfl)⟩ (Nat.le_of_ble_eq_true rfl) ⟨rfl, rfl⟩ ⟨(Nat.le_of_ble_eq_true rfl), (Nat.le_of_ble_eq_true rfl)⟩ (ct_isBarFor _ _ _) ?_
      refine JtKS1 (R' := rm (0) 1 6) (nx := 42) dX11_loses_39 rfl ml_X11_requireNumber lk_X11_83 st_X11_requireNumber ⟨(Nat.le_of_ble_eq_true rfl), (Nat.le_of_ble_eq_true rfl)⟩ (Nat.le_of_ble_eq_true rfl) ⟨rfl, rfl⟩ ⟨(Nat.le_of_ble_eq_true rfl), (Nat.le_of_ble_eq_true rfl)⟩ (ct_requireNumber _ (fBa j b)) (fun t_39 => ?_)
      refine J_iload (nx := 44) dX11_loses_42 rfl rfl ?_
      refine J_iconst (nx := 45) (i := -1) (v := -1) (by decide) dX11_loses_44 rfl ?_
      refine J_icmp_ne (nx := 48) (tgt := 52) dX11_loses_45 rfl (by decide) (fun c_45 => ?_) (fun c_45 => ?_)
      · refine J_iload (nx := 54) dX11_loses_52 rfl rfl ?_
        refine J_istore (nx := 56) dX11_loses_54 rfl rfl (Nat.le_of_ble_eq_true rfl) ?_
        refine J_iload (nx := 58) dX11_loses_56 rfl rfl ?_
        refine J_iconst (nx := 59) (i := -1) (v := -1) (by decide) dX11_loses_58 rfl ?_
        refine J_icmp_ne (nx := 62) (tgt := 67) dX11_loses_59 rfl (by decide) (fun c_59 => ?_) (fun c_59 => ?_)
        · refine J_iload (nx := 69) dX11_loses_67 rfl rfl ?_
          refine J_istore (nx := 71) dX11_loses_69 rfl rfl (Nat.le_of_ble_eq_true rfl) ?_
          first
            | exact absurd c_59 c_45
            | exact absurd c_45 c_59
            | (have hn : ∃ m, m < 32 ∧ st = nI m := by
                 have t2 := t_31
                 unfold fSx at t2
                 rw [if_neg c_45] at t2
                 exact fSt_nI t2
               obtain ⟨m, hm, e⟩ := hn
               have e1 : loF st = m := by unfold loF; rw [if_neg c_45, e, nI_clamp (by omega)]
               have e2 : loN st = 1 := if_neg c_45
               have hS := sg_loses g j b so z st m m 1 (by omega) (by omega) q q2 T G hC (hJ t_2) (Wd g).length
               rw [e1, e2]
               rw [← e] at hS
               exact hS)
            | (have e : st = -1 := c_45
               have e1 : loF st = 0 := if_pos e
               have e2 : loN st = 32 := if_pos e
               rw [e1, e2]
               exact sg_loses g j b so z st 0 31 32 (by omega) (by omega) q q2 T G hC (hJ t_2) _)
        · refine J_bipush (nx := 64) (i := 31) (v := 31) (by decide) dX11_loses_62 rfl ?_
          refine J_goto (nx := 69) dX11_loses_64 (by decide) ?_
          refine J_istore (nx := 71) dX11_loses_69 rfl rfl (Nat.le_of_ble_eq_true rfl) ?_
          first
            | exact absurd c_59 c_45
            | exact absurd c_45 c_59
            | (have hn : ∃ m, m < 32 ∧ st = nI m := by
                 have t2 := t_31
                 unfold fSx at t2
                 rw [if_neg c_45] at t2
                 exact fSt_nI t2
               obtain ⟨m, hm, e⟩ := hn
               have e1 : loF st = m := by unfold loF; rw [if_neg c_45, e, nI_clamp (by omega)]
               have e2 : loN st = 1 := if_neg c_45
               have hS := sg_loses g j b so z st m m 1 (by omega) (by omega) q q2 T G hC (hJ t_2) (Wd g).length
               rw [e1, e2]
               rw [← e] at hS
               exact hS)
            | (have e : st = -1 := c_45
               have e1 : loF st = 0 := if_pos e
               have e2 : loN st = 32 := if_pos e
               rw [e1, e2]
               exact sg_loses g j b so z st 0 31 32 (by omega) (by omega) q q2 T G hC (hJ t_2) _)
      · refine J_iconst (nx := 49) (i := 0) (v := 0) (by decide) dX11_loses_48 rfl ?_
        refine J_goto (nx := 54) dX11_loses_49 (by decide) ?_
        refine J_istore (nx := 56) dX11_loses_54 rfl rfl (Nat.le_of_ble_eq_true rfl) ?_
        refine J_iload (nx := 58) dX11_loses_56 rfl rfl ?_
        refine J_iconst (nx := 59) (i := -1) (v := -1) (by decide) dX11_loses_58 rfl ?_
        refine J_icmp_ne (nx := 62) (tgt := 67) dX11_loses_59 rfl (by decide) (fun c_59 => ?_) (fun c_59 => ?_)
        · refine J_iload (nx := 69) dX11_loses_67 rfl rfl ?_
          refine J_istore (nx := 71) dX11_loses_69 rfl rfl (Nat.le_of_ble_eq_true rfl) ?_
          first
            | exact absurd c_59 c_45
            | exact absurd c_45 c_59
            | (have hn : ∃ m, m < 32 ∧ st = nI m := by
                 have t2 := t_31
                 unfold fSx at t2
                 rw [if_neg c_45] at t2
                 exact fSt_nI t2
               obtain ⟨m, hm, e⟩ := hn
               have e1 : loF st = m := by unfold loF; rw [if_neg c_45, e, nI_clamp (by omega)]
               have e2 : loN st = 1 := if_neg c_45
               have hS := sg_loses g j b so z st m m 1 (by omega) (by omega) q q2 T G hC (hJ t_2) (Wd g).length
               rw [e1, e2]
               rw [← e] at hS
               exact hS)
            | (have e : st = -1 := c_45
               have e1 : loF st = 0 := if_pos e
               have e2 : loN st = 32 := if_pos e
               rw [e1, e2]
               exact sg_loses g j b so z st 0 31 32 (by omega) (by omega) q q2 T G hC (hJ t_2) _)
        · refine J_bipush (nx := 64) (i := 31) (v := 31) (by decide) dX11_loses_62 rfl ?_
          refine J_goto (nx := 69) dX11_loses_64 (by decide) ?_
          refine J_istore (nx := 71) dX11_loses_69 rfl rfl (Nat.le_of_ble_eq_true rfl) ?_
          first
            | exact absurd c_59 c_45
            | exact absurd c_45 c_59
            | (have hn : ∃ m, m < 32 ∧ st = nI m := by
                 have t2 := t_31
                 unfold fSx at t2
                 rw [if_neg c_45] at t2
                 exact fSt_nI t2
               obtain ⟨m, hm, e⟩ := hn
               have e1 : loF st = m := by unfold loF; rw [if_neg c_45, e, nI_clamp (by omega)]
               have e2 : loN st = 1 := if_neg c_45
               have hS := sg_loses g j b so z st m m 1 (by omega) (by omega) q q2 T G hC (hJ t_2) (Wd g).length
               rw [e1, e2]
               rw [← e] at hS
               exact hS)
            | (have e : st = -1 := c_45
               have e1 : loF st = 0 := if_pos e
               have e2 : loN st = 32 := if_pos e
               rw [e1, e2]
               exact sg_loses g j b so z st 0 31 32 (by omega) (by omega) q q2 T G hC (hJ t_2) _)
    · refine J_iconst (nx := 27) (i := 1) (v := 1) (by decide) dX11_loses_26 rfl ?_
      refine J_goto (nx := 31) dX11_loses_27 (by decide) ?_
      refine J.topi (bI (fSx st)) (by unfold fSx; first | (rw [if_pos c_15]; rfl) | (rw [if_neg c_15, bI_0.mp c_23]; rfl) | (rw [if_neg c_15, bI_n0.mp c_23]; rfl)) ?_
      refine JtKS1 (R' := rm (0) 1 6) (nx := 34) dX11_loses_31 rfl ml_X11_requirePlace lk_X11_133 st_X11_requirePlace ⟨(Nat.le_of_ble_eq_true rfl), (Nat.le_of_ble_eq_true rfl)⟩ (Nat.le_of_ble_eq_true rfl) ⟨rfl, rfl⟩ ⟨(Nat.le_of_ble_eq_true rfl), (Nat.le_of_ble_eq_true rfl)⟩ (ct_requirePlace _ (fSx st)) (fun t_31 => ?_)
      refine J_iload_n (nx := 35) dX11_loses_34 rfl rfl ?_
      refine J_iload_n (nx := 36) dX11_loses_35 rfl rfl ?_
      refine JcKS2 (R' := rm (1) 0 0) (nx := 39) dX11_loses_36 rfl ml_X11_isBarFor lk_X11_209 st_X11_isBarFor ⟨(Nat.le_of_ble_eq_true rfl), (Nat.le_of_ble_eq_true rfl)⟩ (Nat.le_of_ble_eq_true rfl) ⟨rfl, rfl⟩ ⟨(Nat.le_of_ble_eq_true rfl), (Nat.le_of_ble_eq_true rfl)⟩ (ct_isBarFor _ _ _) ?_
      refine JtKS1 (R' := rm (0) 1 6) (nx := 42) dX11_loses_39 rfl ml_X11_requireNumber lk_X11_83 st_X11_requireNumber ⟨(Nat.le_of_ble_eq_true rfl), (Nat.le_of_ble_eq_true rfl)⟩ (Nat.le_of_ble_eq_true rfl) ⟨rfl, rfl⟩ ⟨(Nat.le_of_ble_eq_true rfl), (Nat.le_of_ble_eq_true rfl)⟩ (ct_requireNumber _ (fBa j b)) (fun t_39 => ?_)
      refine J_iload (nx := 44) dX11_loses_42 rfl rfl ?_
      refine J_iconst (nx := 45) (i := -1) (v := -1) (by decide) dX11_loses_44 rfl ?_
      refine J_icmp_ne (nx := 48) (tgt := 52) dX11_loses_45 rfl (by decide) (fun c_45 => ?_) (fun c_45 => ?_)
      · refine J_iload (nx := 54) dX11_loses_52 rfl rfl ?_
        refine J_istore (nx := 56) dX11_loses_54 rfl rfl (Nat.le_of_ble_eq_true rfl) ?_
        refine J_iload (nx := 58) dX11_loses_56 rfl rfl ?_
        refine J_iconst (nx := 59) (i := -1) (v := -1) (by decide) dX11_loses_58 rfl ?_
        refine J_icmp_ne (nx := 62) (tgt := 67) dX11_loses_59 rfl (by decide) (fun c_59 => ?_) (fun c_59 => ?_)
        · refine J_iload (nx := 69) dX11_loses_67 rfl rfl ?_
          refine J_istore (nx := 71) dX11_loses_69 rfl rfl (Nat.le_of_ble_eq_true rfl) ?_
          first
            | exact absurd c_59 c_45
            | exact absurd c_45 c_59
            | (have hn : ∃ m, m < 32 ∧ st = nI m := by
                 have t2 := t_31
                 unfold fSx at t2
                 rw [if_neg c_45] at t2
                 exact fSt_nI t2
               obtain ⟨m, hm, e⟩ := hn
               have e1 : loF st = m := by unfold loF; rw [if_neg c_45, e, nI_clamp (by omega)]
               have e2 : loN st = 1 := if_neg c_45
               have hS := sg_loses g j b so z st m m 1 (by omega) (by omega) q q2 T G hC (hJ t_2) (Wd g).length
               rw [e1, e2]
               rw [← e] at hS
               exact hS)
            | (have e : st = -1 := c_45
               have e1 : loF st = 0 := if_pos e
               have e2 : loN st = 32 := if_pos e
               rw [e1, e2]
               exact sg_loses g j b so z st 0 31 32 (by omega) (by omega) q q2 T G hC (hJ t_2) _)
        · refine J_bipush (nx := 64) (i := 31) (v := 31) (by decide) dX11_loses_62 rfl ?_
          refine J_goto (nx := 69) dX11_loses_64 (by decide) ?_
          refine J_istore (nx := 71) dX11_loses_69 rfl rfl (Nat.le_of_ble_eq_true rfl) ?_
          first
            | exact absurd c_59 c_45
            | exact absurd c_45 c_59
            | (have hn : ∃ m, m < 32 ∧ st = nI m := by
                 have t2 := t_31
                 unfold fSx at t2
                 rw [if_neg c_45] at t2
                 exact fSt_nI t2
               obtain ⟨m, hm, e⟩ := hn
               have e1 : loF st = m := by unfold loF; rw [if_neg c_45, e, nI_clamp (by omega)]
               have e2 : loN st = 1 := if_neg c_45
               have hS := sg_loses g j b so z st m m 1 (by omega) (by omega) q q2 T G hC (hJ t_2) (Wd g).length
               rw [e1, e2]
               rw [← e] at hS
               exact hS)
            | (have e : st = -1 := c_45
               have e1 : loF st = 0 := if_pos e
               have e2 : loN st = 32 := if_pos e
               rw [e1, e2]
               exact sg_loses g j b so z st 0 31 32 (by omega) (by omega) q q2 T G hC (hJ t_2) _)
      · refine J_iconst (nx := 49) (i := 0) (v := 0) (by decide) dX11_loses_48 rfl ?_
        refine J_goto (nx := 54) dX11_loses_49 (by decide) ?_
        refine J_istore (nx := 56) dX11_loses_54 rfl rfl (Nat.le_of_ble_eq_true rfl) ?_
        refine J_iload (nx := 58) dX11_loses_56 rfl rfl ?_
        refine J_iconst (nx := 59) (i := -1) (v := -1) (by decide) dX11_loses_58 rfl ?_
        refine J_icmp_ne (nx := 62) (tgt := 67) dX11_loses_59 rfl (by decide) (fun c_59 => ?_) (fun c_59 => ?_)
        · refine J_iload (nx := 69) dX11_loses_67 rfl rfl ?_
          refine J_istore (nx := 71) dX11_loses_69 rfl rfl (Nat.le_of_ble_eq_true rfl) ?_
          first
            | exact absurd c_59 c_45
            | exact absurd c_45 c_59
            | (have hn : ∃ m, m < 32 ∧ st = nI m := by
                 have t2 := t_31
                 unfold fSx at t2
                 rw [if_neg c_45] at t2
                 exact fSt_nI t2
               obtain ⟨m, hm, e⟩ := hn
               have e1 : loF st = m := by unfold loF; rw [if_neg c_45, e, nI_clamp (by omega)]
               have e2 : loN st = 1 := if_neg c_45
               have hS := sg_loses g j b so z st m m 1 (by omega) (by omega) q q2 T G hC (hJ t_2) (Wd g).length
               rw [e1, e2]
               rw [← e] at hS
               exact hS)
            | (have e : st = -1 := c_45
               have e1 : loF st = 0 := if_pos e
               have e2 : loN st = 32 := if_pos e
               rw [e1, e2]
               exact sg_loses g j b so z st 0 31 32 (by omega) (by omega) q q2 T G hC (hJ t_2) _)
        · refine J_bipush (nx := 64) (i := 31) (v := 31) (by decide) dX11_loses_62 rfl ?_
          refine J_goto (nx := 69) dX11_loses_64 (by decide) ?_
          refine J_istore (nx := 71) dX11_loses_69 rfl rfl (Nat.le_of_ble_eq_true rfl) ?_
          first
            | exact absurd c_59 c_45
            | exact absurd c_45 c_59
            | (have hn : ∃ m, m < 32 ∧ st = nI m := by
                 have t2 := t_31
                 unfold fSx at t2
                 rw [if_neg c_45] at t2
                 exact fSt_nI t2
               obtain ⟨m, hm, e⟩ := hn
               have e1 : loF st = m := by unfold loF; rw [if_neg c_45, e, nI_clamp (by omega)]
               have e2 : loN st = 1 := if_neg c_45
               have hS := sg_loses g j b so z st m m 1 (by omega) (by omega) q q2 T G hC (hJ t_2) (Wd g).length
               rw [e1, e2]
               rw [← e] at hS
               exact hS)
            | (have e : st = -1 := c_45
               have e1 : loF st = 0 := if_pos e
               have e2 : loN st = 32 := if_pos e
               rw [e1, e2]
               exact sg_loses g j b so z st 0 31 32 (by omega) (by omega) q q2 T G hC (hJ t_2) _)

def paK (g : GS) : GS := sA g 53 (rCopy 352 352 (gA g 52) (gA g 53))
def paG (g : GS) (j i b so z : Int32) (q q2 q3 : Option CD) (T G : Nat) : GS := stG (paK (stG g j b so z q q2 T G)) i b so z q q3 T G
set_option maxRecDepth 100000 in
set_option maxHeartbeats 4000000 in
theorem ct_part (g : GS) (j i b so z : Int32) (fst : Bool) (q q2 q3 : Option CD) (T G : Nat) (hC : Cl g q T G) (hJ : fJu g j = true → JAt g j q2) (hI : fJu g i = true → JAt g i q3) : Ct mX11_part (rm 10 4 24) [.ref 0, .int j, .int i, .int b, .int so, .int z, .int (bI fst)] (Wd g) (FX [(fJu g j, x_iob), (fJu g i, x_iob), (fFo g so z, x_iob), (fBa j b && fBa i b, x_iae)] (RR (.inl (some (.int (bif fst then foS (paG g j i b so z q q2 q3 T G) ((G + 1) * 32) 0 else itN (odF (paG g j i b so z q q2 q3 T G)) ((G + 1) * 32) 0)))) (paG g j i b so z q q2 q3 T G)) g) := by
  refine Ct.of (by decide +kernel) (Nat.le_of_ble_eq_true rfl) ?_
  show J _ _ _ _ 0 [some (.ref 0), some (.int j), some (.int i), some (.int b), some (.int so), some (.int z), some (.int (bI fst))] [] _ 0 0
  refine J_aload_n (nx := 1) dX11_part_0 rfl rfl ?_
  refine J_iload_n (nx := 2) dX11_part_1 rfl rfl ?_
  refine JtKV1 (R' := rm (1) 1 6) (nx := 5) dX11_part_2 rfl ml_X11_requireJudge lk_X11_206 iv_X11_requireJudge rfl rfl ⟨(Nat.le_of_ble_eq_true rfl), (Nat.le_of_ble_eq_true rfl)⟩ (Nat.le_of_ble_eq_true rfl) ⟨rfl, rfl⟩ ⟨(Nat.le_of_ble_eq_true rfl), (Nat.le_of_ble_eq_true rfl)⟩ (ct_requireJudge _ _) (fun t_2 => ?_)
  refine J_aload_n (nx := 6) dX11_part_5 rfl rfl ?_
  refine J_iload_n (nx := 7) dX11_part_6 rfl rfl ?_
  refine JtKV1 (R' := rm (1) 1 6) (nx := 10) dX11_part_7 rfl ml_X11_requireJudge lk_X11_206 iv_X11_requireJudge rfl rfl ⟨(Nat.le_of_ble_eq_true rfl), (Nat.le_of_ble_eq_true rfl)⟩ (Nat.le_of_ble_eq_true rfl) ⟨rfl, rfl⟩ ⟨(Nat.le_of_ble_eq_true rfl), (Nat.le_of_ble_eq_true rfl)⟩ (ct_requireJudge _ _) (fun t_7 => ?_)
  refine J_aload_n (nx := 11) dX11_part_10 rfl rfl ?_
  refine J_iload (nx := 13) dX11_part_11 rfl rfl ?_
  refine J_iload (nx := 15) dX11_part_13 rfl rfl ?_
  refine JtKV2 (R' := rm (1) 1 6) (nx := 18) dX11_part_15 rfl ml_X11_requireFoul lk_X11_194 iv_X11_requireFoul rfl rfl ⟨(Nat.le_of_ble_eq_true rfl), (Nat.le_of_ble_eq_true rfl)⟩ (Nat.le_of_ble_eq_true rfl) ⟨rfl, rfl⟩ ⟨(Nat.le_of_ble_eq_true rfl), (Nat.le_of_ble_eq_true rfl)⟩ (ct_requireFoul _ _ _) (fun t_15 => ?_)
  refine J_iload_n (nx := 19) dX11_part_18 rfl rfl ?_
  refine J_iload_n (nx := 20) dX11_part_19 rfl rfl ?_
  refine JcKS2 (R' := rm (1) 0 0) (nx := 23) dX11_part_20 rfl ml_X11_isBarFor lk_X11_209 st_X11_isBarFor ⟨(Nat.le_of_ble_eq_true rfl), (Nat.le_of_ble_eq_true rfl)⟩ (Nat.le_of_ble_eq_true rfl) ⟨rfl, rfl⟩ ⟨(Nat.le_of_ble_eq_true rfl), (Nat.le_of_ble_eq_true rfl)⟩ (ct_isBarFor _ _ _) ?_
  refine J_if_eq (nx := 26) (tgt := 38) dX11_part_23 rfl (by decide) (fun c_23 => ?_) (fun c_23 => ?_)
  · refine J_iconst (nx := 39) (i := 0) (v := 0) (by decide) dX11_part_38 rfl ?_
    refine J.topi (bI (fBa j b && fBa i b)) (by first | (rw [bI_0.mp c_23]; rfl) | (rw [bI_n0.mp c_23, bI_0.mp c_31]; rfl) | (rw [bI_n0.mp c_23, bI_n0.mp c_31]; rfl)) ?_
    refine JtKS1 (R' := rm (0) 1 6) (nx := 42) dX11_part_39 rfl ml_X11_requireNumber lk_X11_83 st_X11_requireNumber ⟨(Nat.le_of_ble_eq_true rfl), (Nat.le_of_ble_eq_true rfl)⟩ (Nat.le_of_ble_eq_true rfl) ⟨rfl, rfl⟩ ⟨(Nat.le_of_ble_eq_true rfl), (Nat.le_of_ble_eq_true rfl)⟩ (ct_requireNumber _ (fBa j b && fBa i b)) (fun t_39 => ?_)
    refine J_aload_n (nx := 43) dX11_part_42 rfl rfl ?_
    refine J_iload_n (nx := 44) dX11_part_43 rfl rfl ?_
    refine J_iload_n (nx := 45) dX11_part_44 rfl rfl ?_
    refine J_iload (nx := 47) dX11_part_45 rfl rfl ?_
    refine J_iload (nx := 49) dX11_part_47 rfl rfl ?_
    refine JcKV4 (R' := rm (6) 0 0) (nx := 52) dX11_part_49 rfl ml_X11_seat lk_X11_212 iv_X11_seat rfl rfl ⟨(Nat.le_of_ble_eq_true rfl), (Nat.le_of_ble_eq_true rfl)⟩ (Nat.le_of_ble_eq_true rfl) ⟨rfl, rfl⟩ ⟨(Nat.le_of_ble_eq_true rfl), (Nat.le_of_ble_eq_true rfl)⟩ (ct_seat4 g j b so z q q2 T G hC (hJ t_2)) ?_
    refine J.gen (fun g_49 hg_49 => ?_)
    have k1 : KF g g_49 := by rw [hg_49]; exact kf_st Fr.rf _ _ _ _ _ _ _ _
    refine J_aload_n (nx := 53) dX11_part_52 rfl rfl ?_
    refine Jg_0_5 (nx := 56) dX11_part_53 rfl fl_X11_40 ?_
    refine JcKV0 (R' := rm (1) 0 0) (nx := 59) dX11_part_56 rfl ml_X0_keepDeeds lk_X11_231 iv_X0_keepDeeds rfl rfl ⟨(Nat.le_of_ble_eq_true rfl), (Nat.le_of_ble_eq_true rfl)⟩ (Nat.le_of_ble_eq_true rfl) ⟨rfl, rfl⟩ ⟨(Nat.le_of_ble_eq_true rfl), (Nat.le_of_ble_eq_true rfl)⟩ (ct_keepDeeds _) ?_
    refine J.gen (fun g_56 hg_56 => ?_)
    have k2 : KF g g_56 := by rw [hg_56]; exact k1.sA rfl
    refine J_aload_n (nx := 60) dX11_part_59 rfl rfl ?_
    refine J_iload_n (nx := 61) dX11_part_60 rfl rfl ?_
    refine J_iload_n (nx := 62) dX11_part_61 rfl rfl ?_
    refine J_iload (nx := 64) dX11_part_62 rfl rfl ?_
    refine J_iload (nx := 66) dX11_part_64 rfl rfl ?_
    refine JcKV4 (R' := rm (6) 0 0) (nx := 69) dX11_part_66 rfl ml_X11_seat lk_X11_212 iv_X11_seat rfl rfl ⟨(Nat.le_of_ble_eq_true rfl), (Nat.le_of_ble_eq_true rfl)⟩ (Nat.le_of_ble_eq_true rfl) ⟨rfl, rfl⟩ ⟨(Nat.le_of_ble_eq_true rfl), (Nat.le_of_ble_eq_true rfl)⟩ (ct_seat4 g_56 i b so z q q3 T G (hC.kf k2) ((hI t_7).kf k2)) ?_
    refine J.gen (fun g_66 hg_66 => ?_)
    have e5 : gF g_66 40 12 = nI G := by rw [hg_66]; exact (LayOK.ly (LayOK.st ((hC.kf k2).opened _ _) hC.2.2.2.2 (((hI t_7).kf k2).kf (kf_open Fr.rf _ _ _))) so z _).2.1
    refine J_iload (nx := 71) dX11_part_69 rfl rfl ?_
    refine J_if_eq (nx := 74) (tgt := 84) dX11_part_71 rfl (by decide) (fun c_71 => ?_) (fun c_71 => ?_)
    · refine J_aload_n (nx := 85) dX11_part_84 rfl rfl ?_
      refine Jg_0_5 (nx := 88) dX11_part_85 rfl fl_X11_40 ?_
      refine JcKV0 (R' := rm (2) 0 0) (nx := 91) dX11_part_88 rfl ml_X0_otherDeeds lk_X11_238 iv_X0_otherDeeds rfl rfl ⟨(Nat.le_of_ble_eq_true rfl), (Nat.le_of_ble_eq_true rfl)⟩ (Nat.le_of_ble_eq_true rfl) ⟨rfl, rfl⟩ ⟨(Nat.le_of_ble_eq_true rfl), (Nat.le_of_ble_eq_true rfl)⟩ (ct_otherDeeds g_66 G e5 hC.2.2.2.2) ?_
      exact Jri dX11_part_91 rfl (Nat.le_of_ble_eq_true rfl) (Nat.le_of_ble_eq_true rfl) ⟨by first | (rw [bI_0.mp c_71, hg_66, hg_56, hg_49]; rfl) | (rw [bI_n0.mp c_71, hg_66, hg_56, hg_49]; rfl), by rw [hg_66, hg_56, hg_49]; rfl⟩
    · refine J_aload_n (nx := 75) dX11_part_74 rfl rfl ?_
      refine Jg_0_5 (nx := 78) dX11_part_75 rfl fl_X11_40 ?_
      refine JcKV0 (R' := rm (2) 0 0) (nx := 81) dX11_part_78 rfl ml_X0_firstOtherDeed lk_X11_234 iv_X0_firstOtherDeed rfl rfl ⟨(Nat.le_of_ble_eq_true rfl), (Nat.le_of_ble_eq_true rfl)⟩ (Nat.le_of_ble_eq_true rfl) ⟨rfl, rfl⟩ ⟨(Nat.le_of_ble_eq_true rfl), (Nat.le_of_ble_eq_true rfl)⟩ (ct_firstOtherDeed g_66 G e5 hC.2.2.2.2) ?_
      refine J_goto (nx := 91) dX11_part_81 (by decide) ?_
      exact Jri dX11_part_91 rfl (Nat.le_of_ble_eq_true rfl) (Nat.le_of_ble_eq_true rfl) ⟨by first | (rw [bI_0.mp c_71, hg_66, hg_56, hg_49]; rfl) | (rw [bI_n0.mp c_71, hg_66, hg_56, hg_49]; rfl), by rw [hg_66, hg_56, hg_49]; rfl⟩
  · refine J_iload_n (nx := 27) dX11_part_26 rfl rfl ?_
    refine J_iload_n (nx := 28) dX11_part_27 rfl rfl ?_
    refine JcKS2 (R' := rm (1) 0 0) (nx := 31) dX11_part_28 rfl ml_X11_isBarFor lk_X11_209 st_X11_isBarFor ⟨(Nat.le_of_ble_eq_true rfl), (Nat.le_of_ble_eq_true rfl)⟩ (Nat.le_of_ble_eq_true rfl) ⟨rfl, rfl⟩ ⟨(Nat.le_of_ble_eq_true rfl), (Nat.le_of_ble_eq_true rfl)⟩ (ct_isBarFor _ _ _) ?_
    refine J_if_eq (nx := 34) (tgt := 38) dX11_part_31 rfl (by decide) (fun c_31 => ?_) (fun c_31 => ?_)
    · refine J_iconst (nx := 39) (i := 0) (v := 0) (by decide) dX11_part_38 rfl ?_
      refine J.topi (bI (fBa j b && fBa i b)) (by first | (rw [bI_0.mp c_23]; rfl) | (rw [bI_n0.mp c_23, bI_0.mp c_31]; rfl) | (rw [bI_n0.mp c_23, bI_n0.mp c_31]; rfl)) ?_
      refine JtKS1 (R' := rm (0) 1 6) (nx := 42) dX11_part_39 rfl ml_X11_requireNumber lk_X11_83 st_X11_requireNumber ⟨(Nat.le_of_ble_eq_true rfl), (Nat.le_of_ble_eq_true rfl)⟩ (Nat.le_of_ble_eq_true rfl) ⟨rfl, rfl⟩ ⟨(Nat.le_of_ble_eq_true rfl), (Nat.le_of_ble_eq_true rfl)⟩ (ct_requireNumber _ (fBa j b && fBa i b)) (fun t_39 => ?_)
      refine J_aload_n (nx := 43) dX11_part_42 rfl rfl ?_
      refine J_iload_n (nx := 44) dX11_part_43 rfl rfl ?_
      refine J_iload_n (nx := 45) dX11_part_44 rfl rfl ?_
      refine J_iload (nx := 47) dX11_part_45 rfl rfl ?_
      refine J_iload (nx := 49) dX11_part_47 rfl rfl ?_
      refine JcKV4 (R' := rm (6) 0 0) (nx := 52) dX11_part_49 rfl ml_X11_seat lk_X11_212 iv_X11_seat rfl rfl ⟨(Nat.le_of_ble_eq_true rfl), (Nat.le_of_ble_eq_true rfl)⟩ (Nat.le_of_ble_eq_true rfl) ⟨rfl, rfl⟩ ⟨(Nat.le_of_ble_eq_true rfl), (Nat.le_of_ble_eq_true rfl)⟩ (ct_seat4 g j b so z q q2 T G hC (hJ t_2)) ?_
      refine J.gen (fun g_49 hg_49 => ?_)
      have k1 : KF g g_49 := by rw [hg_49]; exact kf_st Fr.rf _ _ _ _ _ _ _ _
      refine J_aload_n (nx := 53) dX11_part_52 rfl rfl ?_
      refine Jg_0_5 (nx := 56) dX11_part_53 rfl fl_X11_40 ?_
      refine JcKV0 (R' := rm (1) 0 0) (nx := 59) dX11_part_56 rfl ml_X0_keepDeeds lk_X11_231 iv_X0_keepDeeds rfl rfl ⟨(Nat.le_of_ble_eq_true rfl), (Nat.le_of_ble_eq_true rfl)⟩ (Nat.le_of_ble_eq_true rfl) ⟨rfl, rfl⟩ ⟨(Nat.le_of_ble_eq_true rfl), (Nat.le_of_ble_eq_true rfl)⟩ (ct_keepDeeds _) ?_
      refine J.gen (fun g_56 hg_56 => ?_)
      have k2 : KF g g_56 := by rw [hg_56]; exact k1.sA rfl
      refine J_aload_n (nx := 60) dX11_part_59 rfl rfl ?_
      refine J_iload_n (nx := 61) dX11_part_60 rfl rfl ?_
      refine J_iload_n (nx := 62) dX11_part_61 rfl rfl ?_
      refine J_iload (nx := 64) dX11_part_62 rfl rfl ?_
      refine J_iload (nx := 66) dX11_part_64 rfl rfl ?_
      refine JcKV4 (R' := rm (6) 0 0) (nx := 69) dX11_part_66 rfl ml_X11_seat lk_X11_212 iv_X11_seat rfl rfl ⟨(Nat.le_of_ble_eq_true rfl), (Nat.le_of_ble_eq_true rfl)⟩ (Nat.le_of_ble_eq_true rfl) ⟨rfl, rfl⟩ ⟨(Nat.le_of_ble_eq_true rfl), (Nat.le_of_ble_eq_true rfl)⟩ (ct_seat4 g_56 i b so z q q3 T G (hC.kf k2) ((hI t_7).kf k2)) ?_
      refine J.gen (fun g_66 hg_66 => ?_)
      have e5 : gF g_66 40 12 = nI G := by rw [hg_66]; exact (LayOK.ly (LayOK.st ((hC.kf k2).opened _ _) hC.2.2.2.2 (((hI t_7).kf k2).kf (kf_open Fr.rf _ _ _))) so z _).2.1
      refine J_iload (nx := 71) dX11_part_69 rfl rfl ?_
      refine J_if_eq (nx := 74) (tgt := 84) dX11_part_71 rfl (by decide) (fun c_71 => ?_) (fun c_71 => ?_)
      · refine J_aload_n (nx := 85) dX11_part_84 rfl rfl ?_
        refine Jg_0_5 (nx := 88) dX11_part_85 rfl fl_X11_40 ?_
        refine JcKV0 (R' := rm (2) 0 0) (nx := 91) dX11_part_88 rfl ml_X0_otherDeeds lk_X11_238 iv_X0_otherDeeds rfl rfl ⟨(Nat.le_of_ble_eq_true rfl), (Nat.le_of_ble_eq_true rfl)⟩ (Nat.le_of_ble_eq_true rfl) ⟨rfl, rfl⟩ ⟨(Nat.le_of_ble_eq_true rfl), (Nat.le_of_ble_eq_true rfl)⟩ (ct_otherDeeds g_66 G e5 hC.2.2.2.2) ?_
        exact Jri dX11_part_91 rfl (Nat.le_of_ble_eq_true rfl) (Nat.le_of_ble_eq_true rfl) ⟨by first | (rw [bI_0.mp c_71, hg_66, hg_56, hg_49]; rfl) | (rw [bI_n0.mp c_71, hg_66, hg_56, hg_49]; rfl), by rw [hg_66, hg_56, hg_49]; rfl⟩
      · refine J_aload_n (nx := 75) dX11_part_74 rfl rfl ?_
        refine Jg_0_5 (nx := 78) dX11_part_75 rfl fl_X11_40 ?_
        refine JcKV0 (R' := rm (2) 0 0) (nx := 81) dX11_part_78 rfl ml_X0_firstOtherDeed lk_X11_234 iv_X0_firstOtherDeed rfl rfl ⟨(Nat.le_of_ble_eq_true rfl), (Nat.le_of_ble_eq_true rfl)⟩ (Nat.le_of_ble_eq_true rfl) ⟨rfl, rfl⟩ ⟨(Nat.le_of_ble_eq_true rfl), (Nat.le_of_ble_eq_true rfl)⟩ (ct_firstOtherDeed g_66 G e5 hC.2.2.2.2) ?_
        refine J_goto (nx := 91) dX11_part_81 (by decide) ?_
        exact Jri dX11_part_91 rfl (Nat.le_of_ble_eq_true rfl) (Nat.le_of_ble_eq_true rfl) ⟨by first | (rw [bI_0.mp c_71, hg_66, hg_56, hg_49]; rfl) | (rw [bI_n0.mp c_71, hg_66, hg_56, hg_49]; rfl), by rw [hg_66, hg_56, hg_49]; rfl⟩
    · refine J_iconst (nx := 35) (i := 1) (v := 1) (by decide) dX11_part_34 rfl ?_
      refine J_goto (nx := 39) dX11_part_35 (by decide) ?_
      refine J.topi (bI (fBa j b && fBa i b)) (by first | (rw [bI_0.mp c_23]; rfl) | (rw [bI_n0.mp c_23, bI_0.mp c_31]; rfl) | (rw [bI_n0.mp c_23, bI_n0.mp c_31]; rfl)) ?_
      refine JtKS1 (R' := rm (0) 1 6) (nx := 42) dX11_part_39 rfl ml_X11_requireNumber lk_X11_83 st_X11_requireNumber ⟨(Nat.le_of_ble_eq_true rfl), (Nat.le_of_ble_eq_true rfl)⟩ (Nat.le_of_ble_eq_true rfl) ⟨rfl, rfl⟩ ⟨(Nat.le_of_ble_eq_true rfl), (Nat.le_of_ble_eq_true rfl)⟩ (ct_requireNumber _ (fBa j b && fBa i b)) (fun t_39 => ?_)
      refine J_aload_n (nx := 43) dX11_part_42 rfl rfl ?_
      refine J_iload_n (nx := 44) dX11_part_43 rfl rfl ?_
      refine J_iload_n (nx := 45) dX11_part_44 rfl rfl ?_
      refine J_iload (nx := 47) dX11_part_45 rfl rfl ?_
      refine J_iload (nx := 49) dX11_part_47 rfl rfl ?_
      refine JcKV4 (R' := rm (6) 0 0) (nx := 52) dX11_part_49 rfl ml_X11_seat lk_X11_212 iv_X11_seat rfl rfl ⟨(Nat.le_of_ble_eq_true rfl), (Nat.le_of_ble_eq_true rfl)⟩ (Nat.le_of_ble_eq_true rfl) ⟨rfl, rfl⟩ ⟨(Nat.le_of_ble_eq_true rfl), (Nat.le_of_ble_eq_true rfl)⟩ (ct_seat4 g j b so z q q2 T G hC (hJ t_2)) ?_
      refine J.gen (fun g_49 hg_49 => ?_)
      have k1 : KF g g_49 := by rw [hg_49]; exact kf_st Fr.rf _ _ _ _ _ _ _ _
      refine J_aload_n (nx := 53) dX11_part_52 rfl rfl ?_
      refine Jg_0_5 (nx := 56) dX11_part_53 rfl fl_X11_40 ?_
      refine JcKV0 (R' := rm (1) 0 0) (nx := 59) dX11_part_56 rfl ml_X0_keepDeeds lk_X11_231 iv_X0_keepDeeds rfl rfl ⟨(Nat.le_of_ble_eq_true rfl), (Nat.le_of_ble_eq_true rfl)⟩ (Nat.le_of_ble_eq_true rfl) ⟨rfl, rfl⟩ ⟨(Nat.le_of_ble_eq_true rfl), (Nat.le_of_ble_eq_true rfl)⟩ (ct_keepDeeds _) ?_
      refine J.gen (fun g_56 hg_56 => ?_)
      have k2 : KF g g_56 := by rw [hg_56]; exact k1.sA rfl
      refine J_aload_n (nx := 60) dX11_part_59 rfl rfl ?_
      refine J_iload_n (nx := 61) dX11_part_60 rfl rfl ?_
      refine J_iload_n (nx := 62) dX11_part_61 rfl rfl ?_
      refine J_iload (nx := 64) dX11_part_62 rfl rfl ?_
      refine J_iload (nx := 66) dX11_part_64 rfl rfl ?_
      refine JcKV4 (R' := rm (6) 0 0) (nx := 69) dX11_part_66 rfl ml_X11_seat lk_X11_212 iv_X11_seat rfl rfl ⟨(Nat.le_of_ble_eq_true rfl), (Nat.le_of_ble_eq_true rfl)⟩ (Nat.le_of_ble_eq_true rfl) ⟨rfl, rfl⟩ ⟨(Nat.le_of_ble_eq_true rfl), (Nat.le_of_ble_eq_true rfl)⟩ (ct_seat4 g_56 i b so z q q3 T G (hC.kf k2) ((hI t_7).kf k2)) ?_
      refine J.gen (fun g_66 hg_66 => ?_)
      have e5 : gF g_66 40 12 = nI G := by rw [hg_66]; exact (LayOK.ly (LayOK.st ((hC.kf k2).opened _ _) hC.2.2.2.2 (((hI t_7).kf k2).kf (kf_open Fr.rf _ _ _))) so z _).2.1
      refine J_iload (nx := 71) dX11_part_69 rfl rfl ?_
      refine J_if_eq (nx := 74) (tgt := 84) dX11_part_71 rfl (by decide) (fun c_71 => ?_) (fun c_71 => ?_)
      · refine J_aload_n (nx := 85) dX11_part_84 rfl rfl ?_
        refine Jg_0_5 (nx := 88) dX11_part_85 rfl fl_X11_40 ?_
        refine JcKV0 (R' := rm (2) 0 0) (nx := 91) dX11_part_88 rfl ml_X0_otherDeeds lk_X11_238 iv_X0_otherDeeds rfl rfl ⟨(Nat.le_of_ble_eq_true rfl), (Nat.le_of_ble_eq_true rfl)⟩ (Nat.le_of_ble_eq_true rfl) ⟨rfl, rfl⟩ ⟨(Nat.le_of_ble_eq_true rfl), (Nat.le_of_ble_eq_true rfl)⟩ (ct_otherDeeds g_66 G e5 hC.2.2.2.2) ?_
        exact Jri dX11_part_91 rfl (Nat.le_of_ble_eq_true rfl) (Nat.le_of_ble_eq_true rfl) ⟨by first | (rw [bI_0.mp c_71, hg_66, hg_56, hg_49]; rfl) | (rw [bI_n0.mp c_71, hg_66, hg_56, hg_49]; rfl), by rw [hg_66, hg_56, hg_49]; rfl⟩
      · refine J_aload_n (nx := 75) dX11_part_74 rfl rfl ?_
        refine Jg_0_5 (nx := 78) dX11_part_75 rfl fl_X11_40 ?_
        refine JcKV0 (R' := rm (2) 0 0) (nx := 81) dX11_part_78 rfl ml_X0_firstOtherDeed lk_X11_234 iv_X0_firstOtherDeed rfl rfl ⟨(Nat.le_of_ble_eq_true rfl), (Nat.le_of_ble_eq_true rfl)⟩ (Nat.le_of_ble_eq_true rfl) ⟨rfl, rfl⟩ ⟨(Nat.le_of_ble_eq_true rfl), (Nat.le_of_ble_eq_true rfl)⟩ (ct_firstOtherDeed g_66 G e5 hC.2.2.2.2) ?_
        refine J_goto (nx := 91) dX11_part_81 (by decide) ?_
        exact Jri dX11_part_91 rfl (Nat.le_of_ble_eq_true rfl) (Nat.le_of_ble_eq_true rfl) ⟨by first | (rw [bI_0.mp c_71, hg_66, hg_56, hg_49]; rfl) | (rw [bI_n0.mp c_71, hg_66, hg_56, hg_49]; rfl), by rw [hg_66, hg_56, hg_49]; rfl⟩

def seG (g : GS) (j b : Int32) (q : Option CD) (T : Nat) : GS := sF (sF (opAll g (gF g 20 14) T q) 40 8 j) 40 9 b
theorem kf_se {g0 g : GS} (h : KF g0 g) (j b : Int32) (q : Option CD) (T : Nat) : KF g0 (seG g j b q T) := ((kf_open h _ _ _).sF rfl).sF rfl
theorem se_L {g : GS} {j b : Int32} {q q2 : Option CD} {T G : Nat} (hC : Cl g q T G) (hJ : JAt g j q2) : LayOK (seG g j b q T) q2 G := LayOK.st (hC.opened _ _) hC.2.2.2.2 (hJ.kf (kf_open Fr.rf _ _ _))
set_option maxRecDepth 100000 in
set_option maxHeartbeats 4000000 in
theorem ct_pays (g : GS) (j b so : Int32) (q q2 : Option CD) (T G : Nat) (hC : Cl g q T G) (hJ : fJu g j = true → JAt g j q2) : Ct mX11_pays (rm 10 3 18) [.ref 0, .int j, .int b, .int so] (Wd g) (FX [(fJu g j, x_iob), (fSo g so, x_iob), (fBa j b, x_iae)] (RR (.inl (some (.int (pyAll q2 G so (bk_cn (seG g j b q T) 20 so) (-1) (seG g j b q T)).1))) (pyAll q2 G so (bk_cn (seG g j b q T) 20 so) (-1) (seG g j b q T)).2) g) := by
  refine Ct.of (by decide +kernel) (Nat.le_of_ble_eq_true rfl) ?_
  show J _ _ _ _ 0 [some (.ref 0), some (.int j), some (.int b), some (.int so)] [] _ 0 0
  refine J_aload_n (nx := 1) dX11_pays_0 rfl rfl ?_
  refine J_iload_n (nx := 2) dX11_pays_1 rfl rfl ?_
  refine JtKV1 (R' := rm (1) 1 6) (nx := 5) dX11_pays_2 rfl ml_X11_requireJudge lk_X11_206 iv_X11_requireJudge rfl rfl ⟨(Nat.le_of_ble_eq_true rfl), (Nat.le_of_ble_eq_true rfl)⟩ (Nat.le_of_ble_eq_true rfl) ⟨rfl, rfl⟩ ⟨(Nat.le_of_ble_eq_true rfl), (Nat.le_of_ble_eq_true rfl)⟩ (ct_requireJudge _ _) (fun t_2 => ?_)
  refine J_aload_n (nx := 6) dX11_pays_5 rfl rfl ?_
  refine J_iload_n (nx := 7) dX11_pays_6 rfl rfl ?_
  refine JcKV1 (R' := rm (0) 0 0) (nx := 10) dX11_pays_7 rfl ml_X11_isSort lk_X11_245 iv_X11_isSort rfl rfl ⟨(Nat.le_of_ble_eq_true rfl), (Nat.le_of_ble_eq_true rfl)⟩ (Nat.le_of_ble_eq_true rfl) ⟨rfl, rfl⟩ ⟨(Nat.le_of_ble_eq_true rfl), (Nat.le_of_ble_eq_true rfl)⟩ (ct_isSort _ _) ?_
  refine JtKS1 (R' := rm (0) 1 6) (nx := 13) dX11_pays_10 rfl ml_X11_requirePlace lk_X11_133 st_X11_requirePlace ⟨(Nat.le_of_ble_eq_true rfl), (Nat.le_of_ble_eq_true rfl)⟩ (Nat.le_of_ble_eq_true rfl) ⟨rfl, rfl⟩ ⟨(Nat.le_of_ble_eq_true rfl), (Nat.le_of_ble_eq_true rfl)⟩ (ct_requirePlace _ (fSo g so)) (fun t_10 => ?_)
  refine J_iload_n (nx := 14) dX11_pays_13 rfl rfl ?_
  refine J_iload_n (nx := 15) dX11_pays_14 rfl rfl ?_
  refine JcKS2 (R' := rm (1) 0 0) (nx := 18) dX11_pays_15 rfl ml_X11_isBarFor lk_X11_209 st_X11_isBarFor ⟨(Nat.le_of_ble_eq_true rfl), (Nat.le_of_ble_eq_true rfl)⟩ (Nat.le_of_ble_eq_true rfl) ⟨rfl, rfl⟩ ⟨(Nat.le_of_ble_eq_true rfl), (Nat.le_of_ble_eq_true rfl)⟩ (ct_isBarFor _ _ _) ?_
  refine JtKS1 (R' := rm (0) 1 6) (nx := 21) dX11_pays_18 rfl ml_X11_requireNumber lk_X11_83 st_X11_requireNumber ⟨(Nat.le_of_ble_eq_true rfl), (Nat.le_of_ble_eq_true rfl)⟩ (Nat.le_of_ble_eq_true rfl) ⟨rfl, rfl⟩ ⟨(Nat.le_of_ble_eq_true rfl), (Nat.le_of_ble_eq_true rfl)⟩ (ct_requireNumber _ (fBa j b)) (fun t_18 => ?_)
  refine J_aload_n (nx := 22) dX11_pays_21 rfl rfl ?_
  refine Jg_0_5 (nx := 25) dX11_pays_22 rfl fl_X11_40 ?_
  refine J_aload_n (nx := 26) dX11_pays_25 rfl rfl ?_
  refine Jg_0_2 (nx := 29) dX11_pays_26 rfl fl_X11_28 ?_
  refine Jg_20_14 (nx := 32) dX11_pays_29 rfl fl_X11_161 ?_
  refine J_aload_n (nx := 33) dX11_pays_32 rfl rfl ?_
  refine Jg_0_2 (nx := 36) dX11_pays_33 rfl fl_X11_28 ?_
  refine Jg_20_13 (nx := 39) dX11_pays_36 rfl fl_X11_173 ?_
  rw [hC.2.1]
  refine JcKV2 (R' := rm (4) 0 0) (nx := 42) dX11_pays_39 rfl ml_X0_open lk_X11_188 iv_X0_open rfl rfl ⟨(Nat.le_of_ble_eq_true rfl), (Nat.le_of_ble_eq_true rfl)⟩ (Nat.le_of_ble_eq_true rfl) ⟨rfl, rfl⟩ ⟨(Nat.le_of_ble_eq_true rfl), (Nat.le_of_ble_eq_true rfl)⟩ (ct_open g _ T q hC.1 (by have := hC.2.2.1; omega)) ?_
  refine J.gen (fun g_39 hg_39 => ?_)
  refine J_aload_n (nx := 43) dX11_pays_42 rfl rfl ?_
  refine Jg_0_5 (nx := 46) dX11_pays_43 rfl fl_X11_40 ?_
  refine J_iload_n (nx := 47) dX11_pays_46 rfl rfl ?_
  refine J_iload_n (nx := 48) dX11_pays_47 rfl rfl ?_
  refine JcKV2 (R' := rm (0) 0 0) (nx := 51) dX11_pays_48 rfl ml_X0_seat lk_X11_222 iv_X0_seat rfl rfl ⟨(Nat.le_of_ble_eq_true rfl), (Nat.le_of_ble_eq_true rfl)⟩ (Nat.le_of_ble_eq_true rfl) ⟨rfl, rfl⟩ ⟨(Nat.le_of_ble_eq_true rfl), (Nat.le_of_ble_eq_true rfl)⟩ (ct_seat _ _ _) ?_
  refine J.gen (fun g_48 hg_48 => ?_)
  have k1 : KF g g_39 := by rw [hg_39]; exact kf_open Fr.rf _ _ _
  have hL : LayOK g_48 q2 G := by rw [hg_48]; exact LayOK.st (by rw [hg_39]; exact hC.opened _ _) hC.2.2.2.2 ((hJ t_2).kf k1)
  refine J_aload_n (nx := 52) dX11_pays_51 rfl rfl ?_
  refine Jg_0_5 (nx := 55) dX11_pays_52 rfl fl_X11_40 ?_
  refine J_iload_n (nx := 56) dX11_pays_55 rfl rfl ?_
  refine J_aload_n (nx := 57) dX11_pays_56 rfl rfl ?_
  refine Jg_0_2 (nx := 60) dX11_pays_57 rfl fl_X11_28 ?_
  refine J_iload_n (nx := 61) dX11_pays_60 rfl rfl ?_
  refine JcKV1 (R' := rm (3) 0 0) (nx := 64) dX11_pays_61 rfl ml_X1_cardNow lk_X11_197 iv_X1_cardNow rfl rfl ⟨(Nat.le_of_ble_eq_true rfl), (Nat.le_of_ble_eq_true rfl)⟩ (Nat.le_of_ble_eq_true rfl) ⟨rfl, rfl⟩ ⟨(Nat.le_of_ble_eq_true rfl), (Nat.le_of_ble_eq_true rfl)⟩ (ct_X1_cardNow _ _) ?_
  refine J_iconst (nx := 65) (i := -1) (v := -1) (by decide) dX11_pays_64 rfl ?_
  refine JcKV3 (R' := rm (5) 0 0) (nx := 68) dX11_pays_65 rfl ml_X0_paying lk_X11_248 iv_X0_paying rfl rfl ⟨(Nat.le_of_ble_eq_true rfl), (Nat.le_of_ble_eq_true rfl)⟩ (Nat.le_of_ble_eq_true rfl) ⟨rfl, rfl⟩ ⟨(Nat.le_of_ble_eq_true rfl), (Nat.le_of_ble_eq_true rfl)⟩ (ct_paying g_48 q2 G _ _ _ hL) ?_
  refine J.gen (fun g_65 hg_65 => ?_)
  subst hg_65
  subst hg_48
  subst hg_39
  exact Jri dX11_pays_68 rfl (Nat.le_of_ble_eq_true rfl) (Nat.le_of_ble_eq_true rfl) ⟨rfl, rfl⟩

def pdG (g : GS) (j b so z st seed : Int32) (q q2 : Option CD) (T G : Nat) : GS := plR (T + 1) 0 st 1 (sF (sF (stG g j b so z q q2 T G) 58 7 seed) 58 8 3)
set_option maxRecDepth 100000 in
set_option maxHeartbeats 4000000 in
theorem ct_played (g : GS) (j b so z st seed : Int32) (q q2 : Option CD) (T G : Nat) (hC : Cl g q T G) (hJ : fJu g j = true → JAt g j q2) : Ct mX11_played (rm 10 4 24) [.ref 0, .int j, .int b, .int so, .int z, .int st, .int seed] (Wd g) (FX [(fJu g j, x_iob), (fFo g so z, x_iob), (fSt st, x_iob), (fBa j b, x_iae)] (RR (.inl (some (.int (100 * gF (pdG g j b so z st seed q q2 T G) 58 8 + gF (pdG g j b so z st seed q q2 T G) 58 9)))) (pdG g j b so z st seed q q2 T G)) g) := by
  refine Ct.of (by decide +kernel) (Nat.le_of_ble_eq_true rfl) ?_
  show J _ _ _ _ 0 [some (.ref 0), some (.int j), some (.int b), some (.int so), some (.int z), some (.int st), some (.int seed)] [] _ 0 0
  refine J_aload_n (nx := 1) dX11_played_0 rfl rfl ?_
  refine J_iload_n (nx := 2) dX11_played_1 rfl rfl ?_
  refine JtKV1 (R' := rm (1) 1 6) (nx := 5) dX11_played_2 rfl ml_X11_requireJudge lk_X11_206 iv_X11_requireJudge rfl rfl ⟨(Nat.le_of_ble_eq_true rfl), (Nat.le_of_ble_eq_true rfl)⟩ (Nat.le_of_ble_eq_true rfl) ⟨rfl, rfl⟩ ⟨(Nat.le_of_ble_eq_true rfl), (Nat.le_of_ble_eq_true rfl)⟩ (ct_requireJudge _ _) (fun t_2 => ?_)
  refine J_aload_n (nx := 6) dX11_played_5 rfl rfl ?_
  refine J_iload_n (nx := 7) dX11_played_6 rfl rfl ?_
  refine J_iload (nx := 9) dX11_played_7 rfl rfl ?_
  refine JtKV2 (R' := rm (1) 1 6) (nx := 12) dX11_played_9 rfl ml_X11_requireFoul lk_X11_194 iv_X11_requireFoul rfl rfl ⟨(Nat.le_of_ble_eq_true rfl), (Nat.le_of_ble_eq_true rfl)⟩ (Nat.le_of_ble_eq_true rfl) ⟨rfl, rfl⟩ ⟨(Nat.le_of_ble_eq_true rfl), (Nat.le_of_ble_eq_true rfl)⟩ (ct_requireFoul _ _ _) (fun t_9 => ?_)
  refine J_iload (nx := 14) dX11_played_12 rfl rfl ?_
  refine JcKS1 (R' := rm (0) 0 0) (nx := 17) dX11_played_14 rfl ml_X11_isState lk_X11_130 st_X11_isState ⟨(Nat.le_of_ble_eq_true rfl), (Nat.le_of_ble_eq_true rfl)⟩ (Nat.le_of_ble_eq_true rfl) ⟨rfl, rfl⟩ ⟨(Nat.le_of_ble_eq_true rfl), (Nat.le_of_ble_eq_true rfl)⟩ (ct_isState _ _) ?_
  refine JtKS1 (R' := rm (0) 1 6) (nx := 20) dX11_played_17 rfl ml_X11_requirePlace lk_X11_133 st_X11_requirePlace ⟨(Nat.le_of_ble_eq_true rfl), (Nat.le_of_ble_eq_true rfl)⟩ (Nat.le_of_ble_eq_true rfl) ⟨rfl, rfl⟩ ⟨(Nat.le_of_ble_eq_true rfl), (Nat.le_of_ble_eq_true rfl)⟩ (ct_requirePlace _ (fSt st)) (fun t_17 => ?_)
  refine J_iload_n (nx := 21) dX11_played_20 rfl rfl ?_
  refine J_iload_n (nx := 22) dX11_played_21 rfl rfl ?_
  refine JcKS2 (R' := rm (1) 0 0) (nx := 25) dX11_played_22 rfl ml_X11_isBarFor lk_X11_209 st_X11_isBarFor ⟨(Nat.le_of_ble_eq_true rfl), (Nat.le_of_ble_eq_true rfl)⟩ (Nat.le_of_ble_eq_true rfl) ⟨rfl, rfl⟩ ⟨(Nat.le_of_ble_eq_true rfl), (Nat.le_of_ble_eq_true rfl)⟩ (ct_isBarFor _ _ _) ?_
  refine JtKS1 (R' := rm (0) 1 6) (nx := 28) dX11_played_25 rfl ml_X11_requireNumber lk_X11_83 st_X11_requireNumber ⟨(Nat.le_of_ble_eq_true rfl), (Nat.le_of_ble_eq_true rfl)⟩ (Nat.le_of_ble_eq_true rfl) ⟨rfl, rfl⟩ ⟨(Nat.le_of_ble_eq_true rfl), (Nat.le_of_ble_eq_true rfl)⟩ (ct_requireNumber _ (fBa j b)) (fun t_25 => ?_)
  refine J_aload_n (nx := 29) dX11_played_28 rfl rfl ?_
  refine J_iload_n (nx := 30) dX11_played_29 rfl rfl ?_
  refine J_iload_n (nx := 31) dX11_played_30 rfl rfl ?_
  refine J_iload_n (nx := 32) dX11_played_31 rfl rfl ?_
  refine J_iload (nx := 34) dX11_played_32 rfl rfl ?_
  refine JcKV4 (R' := rm (6) 0 0) (nx := 37) dX11_played_34 rfl ml_X11_seat lk_X11_212 iv_X11_seat rfl rfl ⟨(Nat.le_of_ble_eq_true rfl), (Nat.le_of_ble_eq_true rfl)⟩ (Nat.le_of_ble_eq_true rfl) ⟨rfl, rfl⟩ ⟨(Nat.le_of_ble_eq_true rfl), (Nat.le_of_ble_eq_true rfl)⟩ (ct_seat4 g j b so z q q2 T G hC (hJ t_2)) ?_
  refine J.gen (fun g_34 hg_34 => ?_)
  refine J_aload_n (nx := 38) dX11_played_37 rfl rfl ?_
  refine Jg_0_7 (nx := 41) dX11_played_38 rfl fl_X11_56 ?_
  refine J_iload (nx := 43) dX11_played_41 rfl rfl ?_
  refine Jp_58_7 (nx := 46) dX11_played_43 rfl fl_X11_289 ?_
  refine J.gen (fun g_43 hg_43 => ?_)
  have k1 : KF g g_43 := by rw [hg_43]; refine Fr.sF ?_ rfl; rw [hg_34]; exact kf_st Fr.rf _ _ _ _ _ _ _ _
  refine J_aload_n (nx := 47) dX11_played_46 rfl rfl ?_
  refine Jg_0_7 (nx := 50) dX11_played_47 rfl fl_X11_56 ?_
  refine J_iload (nx := 52) dX11_played_50 rfl rfl ?_
  refine JcKV1 (R' := rm (2) 0 0) (nx := 55) dX11_played_52 rfl ml_X3_playFrom lk_X11_292 iv_X3_playFrom rfl rfl ⟨(Nat.le_of_ble_eq_true rfl), (Nat.le_of_ble_eq_true rfl)⟩ (Nat.le_of_ble_eq_true rfl) ⟨rfl, rfl⟩ ⟨(Nat.le_of_ble_eq_true rfl), (Nat.le_of_ble_eq_true rfl)⟩ (ct_playFrom g_43 _ T (hC.kf k1).2.1 (by have := hC.2.2.1; omega)) ?_
  refine J.gen (fun g_52 hg_52 => ?_)
  refine J_bipush (nx := 57) (i := 100) (v := 100) (by decide) dX11_played_55 rfl ?_
  refine J_aload_n (nx := 58) dX11_played_57 rfl rfl ?_
  refine Jg_0_7 (nx := 61) dX11_played_58 rfl fl_X11_56 ?_
  refine Jg_58_8 (nx := 64) dX11_played_61 rfl fl_X11_295 ?_
  refine J_imul (nx := 65) dX11_played_64 rfl ?_
  refine J_aload_n (nx := 66) dX11_played_65 rfl rfl ?_
  refine Jg_0_7 (nx := 69) dX11_played_66 rfl fl_X11_56 ?_
  refine Jg_58_9 (nx := 72) dX11_played_69 rfl fl_X11_298 ?_
  refine J_iadd (nx := 73) dX11_played_72 rfl ?_
  subst hg_52
  subst hg_43
  subst hg_34
  exact Jri dX11_played_73 rfl (Nat.le_of_ble_eq_true rfl) (Nat.le_of_ble_eq_true rfl) ⟨rfl, rfl⟩

theorem ak_grace (g : GS) (w : Int32) (T : Nat) : gF (akAll g w T) 40 12 = gF g 40 12 := itN_F (S := akT) (c := 40) (k := 12) (fun i g => itN_F (S := akS (i + 1)) (c := 40) (k := 12) (fun _ _ => rfl) 32 g) T (ak3 (ak2 (ak1 g w) w) w)
def enG (g : GS) (j b so z what : Int32) (q q2 : Option CD) (T G : Nat) : GS := shD (min G T) (akAll (stG g j b so z q q2 T G) what T)
set_option maxRecDepth 100000 in
set_option maxHeartbeats 4000000 in
theorem ct_ends (g : GS) (j b so z st what : Int32) (q q2 : Option CD) (T G : Nat) (hC : Cl g q T G) (hJ : fJu g j = true → JAt g j q2) : Ct mX11_ends (rm 10 5 30) [.ref 0, .int j, .int b, .int so, .int z, .int st, .int what] (Wd g) (FX [(fJu g j, x_iob), (fFo g so z, x_iob), (fSt st, x_iob), (fBa j b, x_iae), (fWi what 2, x_nse)] (RR (.inl (some (.int (sfI (enG g j b so z what q q2 T G) st)))) (enG g j b so z what q q2 T G)) g) := by
  refine Ct.of (by decide +kernel) (Nat.le_of_ble_eq_true rfl) ?_
  show J _ _ _ _ 0 [some (.ref 0), some (.int j), some (.int b), some (.int so), some (.int z), some (.int st), some (.int what)] [] _ 0 0
  refine J_aload_n (nx := 1) dX11_ends_0 rfl rfl ?_
  refine J_iload_n (nx := 2) dX11_ends_1 rfl rfl ?_
  refine JtKV1 (R' := rm (1) 1 6) (nx := 5) dX11_ends_2 rfl ml_X11_requireJudge lk_X11_206 iv_X11_requireJudge rfl rfl ⟨(Nat.le_of_ble_eq_true rfl), (Nat.le_of_ble_eq_true rfl)⟩ (Nat.le_of_ble_eq_true rfl) ⟨rfl, rfl⟩ ⟨(Nat.le_of_ble_eq_true rfl), (Nat.le_of_ble_eq_true rfl)⟩ (ct_requireJudge _ _) (fun t_2 => ?_)
  refine J_aload_n (nx := 6) dX11_ends_5 rfl rfl ?_
  refine J_iload_n (nx := 7) dX11_ends_6 rfl rfl ?_
  refine J_iload (nx := 9) dX11_ends_7 rfl rfl ?_
  refine JtKV2 (R' := rm (1) 1 6) (nx := 12) dX11_ends_9 rfl ml_X11_requireFoul lk_X11_194 iv_X11_requireFoul rfl rfl ⟨(Nat.le_of_ble_eq_true rfl), (Nat.le_of_ble_eq_true rfl)⟩ (Nat.le_of_ble_eq_true rfl) ⟨rfl, rfl⟩ ⟨(Nat.le_of_ble_eq_true rfl), (Nat.le_of_ble_eq_true rfl)⟩ (ct_requireFoul _ _ _) (fun t_9 => ?_)
  refine J_iload (nx := 14) dX11_ends_12 rfl rfl ?_
  refine JcKS1 (R' := rm (0) 0 0) (nx := 17) dX11_ends_14 rfl ml_X11_isState lk_X11_130 st_X11_isState ⟨(Nat.le_of_ble_eq_true rfl), (Nat.le_of_ble_eq_true rfl)⟩ (Nat.le_of_ble_eq_true rfl) ⟨rfl, rfl⟩ ⟨(Nat.le_of_ble_eq_true rfl), (Nat.le_of_ble_eq_true rfl)⟩ (ct_isState _ _) ?_
  refine JtKS1 (R' := rm (0) 1 6) (nx := 20) dX11_ends_17 rfl ml_X11_requirePlace lk_X11_133 st_X11_requirePlace ⟨(Nat.le_of_ble_eq_true rfl), (Nat.le_of_ble_eq_true rfl)⟩ (Nat.le_of_ble_eq_true rfl) ⟨rfl, rfl⟩ ⟨(Nat.le_of_ble_eq_true rfl), (Nat.le_of_ble_eq_true rfl)⟩ (ct_requirePlace _ (fSt st)) (fun t_17 => ?_)
  refine J_iload_n (nx := 21) dX11_ends_20 rfl rfl ?_
  refine J_iload_n (nx := 22) dX11_ends_21 rfl rfl ?_
  refine JcKS2 (R' := rm (1) 0 0) (nx := 25) dX11_ends_22 rfl ml_X11_isBarFor lk_X11_209 st_X11_isBarFor ⟨(Nat.le_of_ble_eq_true rfl), (Nat.le_of_ble_eq_true rfl)⟩ (Nat.le_of_ble_eq_true rfl) ⟨rfl, rfl⟩ ⟨(Nat.le_of_ble_eq_true rfl), (Nat.le_of_ble_eq_true rfl)⟩ (ct_isBarFor _ _ _) ?_
  refine JtKS1 (R' := rm (0) 1 6) (nx := 28) dX11_ends_25 rfl ml_X11_requireNumber lk_X11_83 st_X11_requireNumber ⟨(Nat.le_of_ble_eq_true rfl), (Nat.le_of_ble_eq_true rfl)⟩ (Nat.le_of_ble_eq_true rfl) ⟨rfl, rfl⟩ ⟨(Nat.le_of_ble_eq_true rfl), (Nat.le_of_ble_eq_true rfl)⟩ (ct_requireNumber _ (fBa j b)) (fun t_25 => ?_)
  refine J_iload (nx := 30) dX11_ends_28 rfl rfl ?_
  refine J_iconst (nx := 31) (i := 2) (v := 2) (by decide) dX11_ends_30 rfl ?_
  refine JtKS2 (R' := rm (1) 1 6) (nx := 34) dX11_ends_31 rfl ml_X11_requireWhat lk_X11_136 st_X11_requireWhat ⟨(Nat.le_of_ble_eq_true rfl), (Nat.le_of_ble_eq_true rfl)⟩ (Nat.le_of_ble_eq_true rfl) ⟨rfl, rfl⟩ ⟨(Nat.le_of_ble_eq_true rfl), (Nat.le_of_ble_eq_true rfl)⟩ (ct_requireWhat _ _ _) (fun t_31 => ?_)
  refine J_aload_n (nx := 35) dX11_ends_34 rfl rfl ?_
  refine J_iload_n (nx := 36) dX11_ends_35 rfl rfl ?_
  refine J_iload_n (nx := 37) dX11_ends_36 rfl rfl ?_
  refine J_iload_n (nx := 38) dX11_ends_37 rfl rfl ?_
  refine J_iload (nx := 40) dX11_ends_38 rfl rfl ?_
  refine JcKV4 (R' := rm (6) 0 0) (nx := 43) dX11_ends_40 rfl ml_X11_seat lk_X11_212 iv_X11_seat rfl rfl ⟨(Nat.le_of_ble_eq_true rfl), (Nat.le_of_ble_eq_true rfl)⟩ (Nat.le_of_ble_eq_true rfl) ⟨rfl, rfl⟩ ⟨(Nat.le_of_ble_eq_true rfl), (Nat.le_of_ble_eq_true rfl)⟩ (ct_seat4 g j b so z q q2 T G hC (hJ t_2)) ?_
  refine J.gen (fun g_40 hg_40 => ?_)
  have k1 : KF g g_40 := by rw [hg_40]; exact kf_st Fr.rf _ _ _ _ _ _ _ _
  have e5 : gF g_40 40 12 = nI G := by rw [hg_40]; exact (LayOK.ly (LayOK.st (hC.opened _ _) hC.2.2.2.2 ((hJ t_2).kf (kf_open Fr.rf _ _ _))) so z _).2.1
  refine J_aload_n (nx := 44) dX11_ends_43 rfl rfl ?_
  refine Jg_0_7 (nx := 47) dX11_ends_44 rfl fl_X11_56 ?_
  refine J_iload (nx := 49) dX11_ends_47 rfl rfl ?_
  refine JcKV1 (R' := rm (2) 0 0) (nx := 52) dX11_ends_49 rfl ml_X3_ask lk_X11_301 iv_X3_ask rfl rfl ⟨(Nat.le_of_ble_eq_true rfl), (Nat.le_of_ble_eq_true rfl)⟩ (Nat.le_of_ble_eq_true rfl) ⟨rfl, rfl⟩ ⟨(Nat.le_of_ble_eq_true rfl), (Nat.le_of_ble_eq_true rfl)⟩ (ct_ask g_40 _ T (hC.kf k1).2.1 (by have := hC.2.2.1; omega)) ?_
  refine J.gen (fun g_49 hg_49 => ?_)
  have k2 : KF g g_49 := by rw [hg_49]; exact kf_ak k1 _ _
  have e6 : gF g_49 40 12 = nI G := by rw [hg_49, ak_grace]; exact e5
  refine J_aload_n (nx := 53) dX11_ends_52 rfl rfl ?_
  refine Jg_0_7 (nx := 56) dX11_ends_53 rfl fl_X11_56 ?_
  refine JcKV0 (R' := rm (3) 0 0) (nx := 59) dX11_ends_56 rfl ml_X3_share lk_X11_304 iv_X3_share rfl rfl ⟨(Nat.le_of_ble_eq_true rfl), (Nat.le_of_ble_eq_true rfl)⟩ (Nat.le_of_ble_eq_true rfl) ⟨rfl, rfl⟩ ⟨(Nat.le_of_ble_eq_true rfl), (Nat.le_of_ble_eq_true rfl)⟩ (ct_share g_49 G T e6 (hC.kf k2).2.1 (by have := hC.2.2.2.2; omega) (by have := hC.2.2.1; omega)) ?_
  refine J.gen (fun g_56 hg_56 => ?_)
  refine J_aload_n (nx := 60) dX11_ends_59 rfl rfl ?_
  refine Jg_0_7 (nx := 63) dX11_ends_60 rfl fl_X11_56 ?_
  refine J_iload (nx := 65) dX11_ends_63 rfl rfl ?_
  refine JcKV1 (R' := rm (1) 0 0) (nx := 68) dX11_ends_65 rfl ml_X3_shareFrom lk_X11_307 iv_X3_shareFrom rfl rfl ⟨(Nat.le_of_ble_eq_true rfl), (Nat.le_of_ble_eq_true rfl)⟩ (Nat.le_of_ble_eq_true rfl) ⟨rfl, rfl⟩ ⟨(Nat.le_of_ble_eq_true rfl), (Nat.le_of_ble_eq_true rfl)⟩ (ct_shareFrom _ _) ?_
  subst hg_56
  subst hg_49
  subst hg_40
  exact Jri dX11_ends_68 rfl (Nat.le_of_ble_eq_true rfl) (Nat.le_of_ble_eq_true rfl) ⟨rfl, rfl⟩

def riK (g : GS) : GS := sA g 53 (rCopy 352 352 (gA g 51) (gA g 53))
def riG (g : GS) (j b so z : Int32) (q q2 : Option CD) (T G : Nat) : GS := stG (riK (stG g j b so z q q2 T G)) 3 0 so z q none T G
set_option maxRecDepth 100000 in
set_option maxHeartbeats 4000000 in
theorem ct_right (g : GS) (j b so z : Int32) (q q2 : Option CD) (T G : Nat) (hC : Cl g q T G) (hJ : fJu g j = true → JAt g j q2) : Ct mX11_right (rm 10 3 18) [.ref 0, .int j, .int b, .int so, .int z] (Wd g) (FX [(fJu g j, x_iob), (fFo g so z, x_iob), (fBa j b, x_iae)] (RR (.inl (some (.int (itN (skF (riG g j b so z q q2 T G)) 32 0)))) (riG g j b so z q q2 T G)) g) := by
  refine Ct.of (by decide +kernel) (Nat.le_of_ble_eq_true rfl) ?_
  show J _ _ _ _ 0 [some (.ref 0), some (.int j), some (.int b), some (.int so), some (.int z)] [] _ 0 0
  refine J_aload_n (nx := 1) dX11_right_0 rfl rfl ?_
  refine J_iload_n (nx := 2) dX11_right_1 rfl rfl ?_
  refine JtKV1 (R' := rm (1) 1 6) (nx := 5) dX11_right_2 rfl ml_X11_requireJudge lk_X11_206 iv_X11_requireJudge rfl rfl ⟨(Nat.le_of_ble_eq_true rfl), (Nat.le_of_ble_eq_true rfl)⟩ (Nat.le_of_ble_eq_true rfl) ⟨rfl, rfl⟩ ⟨(Nat.le_of_ble_eq_true rfl), (Nat.le_of_ble_eq_true rfl)⟩ (ct_requireJudge _ _) (fun t_2 => ?_)
  refine J_aload_n (nx := 6) dX11_right_5 rfl rfl ?_
  refine J_iload_n (nx := 7) dX11_right_6 rfl rfl ?_
  refine J_iload (nx := 9) dX11_right_7 rfl rfl ?_
  refine JtKV2 (R' := rm (1) 1 6) (nx := 12) dX11_right_9 rfl ml_X11_requireFoul lk_X11_194 iv_X11_requireFoul rfl rfl ⟨(Nat.le_of_ble_eq_true rfl), (Nat.le_of_ble_eq_true rfl)⟩ (Nat.le_of_ble_eq_true rfl) ⟨rfl, rfl⟩ ⟨(Nat.le_of_ble_eq_true rfl), (Nat.le_of_ble_eq_true rfl)⟩ (ct_requireFoul _ _ _) (fun t_9 => ?_)
  refine J_iload_n (nx := 13) dX11_right_12 rfl rfl ?_
  refine J_iload_n (nx := 14) dX11_right_13 rfl rfl ?_
  refine JcKS2 (R' := rm (1) 0 0) (nx := 17) dX11_right_14 rfl ml_X11_isBarFor lk_X11_209 st_X11_isBarFor ⟨(Nat.le_of_ble_eq_true rfl), (Nat.le_of_ble_eq_true rfl)⟩ (Nat.le_of_ble_eq_true rfl) ⟨rfl, rfl⟩ ⟨(Nat.le_of_ble_eq_true rfl), (Nat.le_of_ble_eq_true rfl)⟩ (ct_isBarFor _ _ _) ?_
  refine JtKS1 (R' := rm (0) 1 6) (nx := 20) dX11_right_17 rfl ml_X11_requireNumber lk_X11_83 st_X11_requireNumber ⟨(Nat.le_of_ble_eq_true rfl), (Nat.le_of_ble_eq_true rfl)⟩ (Nat.le_of_ble_eq_true rfl) ⟨rfl, rfl⟩ ⟨(Nat.le_of_ble_eq_true rfl), (Nat.le_of_ble_eq_true rfl)⟩ (ct_requireNumber _ (fBa j b)) (fun t_17 => ?_)
  refine J_aload_n (nx := 21) dX11_right_20 rfl rfl ?_
  refine J_iload_n (nx := 22) dX11_right_21 rfl rfl ?_
  refine J_iload_n (nx := 23) dX11_right_22 rfl rfl ?_
  refine J_iload_n (nx := 24) dX11_right_23 rfl rfl ?_
  refine J_iload (nx := 26) dX11_right_24 rfl rfl ?_
  refine JcKV4 (R' := rm (6) 0 0) (nx := 29) dX11_right_26 rfl ml_X11_seat lk_X11_212 iv_X11_seat rfl rfl ⟨(Nat.le_of_ble_eq_true rfl), (Nat.le_of_ble_eq_true rfl)⟩ (Nat.le_of_ble_eq_true rfl) ⟨rfl, rfl⟩ ⟨(Nat.le_of_ble_eq_true rfl), (Nat.le_of_ble_eq_true rfl)⟩ (ct_seat4 g j b so z q q2 T G hC (hJ t_2)) ?_
  refine J.gen (fun g_26 hg_26 => ?_)
  refine J_aload_n (nx := 30) dX11_right_29 rfl rfl ?_
  refine Jg_0_5 (nx := 33) dX11_right_30 rfl fl_X11_40 ?_
  refine JcKV0 (R' := rm (1) 0 0) (nx := 36) dX11_right_33 rfl ml_X0_keepWorths lk_X11_316 iv_X0_keepWorths rfl rfl ⟨(Nat.le_of_ble_eq_true rfl), (Nat.le_of_ble_eq_true rfl)⟩ (Nat.le_of_ble_eq_true rfl) ⟨rfl, rfl⟩ ⟨(Nat.le_of_ble_eq_true rfl), (Nat.le_of_ble_eq_true rfl)⟩ (ct_keepWorths _) ?_
  refine J.gen (fun g_33 hg_33 => ?_)
  have k1 : KF g g_33 := by rw [hg_33]; refine Fr.sA ?_ rfl; rw [hg_26]; exact kf_st Fr.rf _ _ _ _ _ _ _ _
  refine J_aload_n (nx := 37) dX11_right_36 rfl rfl ?_
  refine J_iconst (nx := 38) (i := 3) (v := 3) (by decide) dX11_right_37 rfl ?_
  refine J_iconst (nx := 39) (i := 0) (v := 0) (by decide) dX11_right_38 rfl ?_
  refine J_iload_n (nx := 40) dX11_right_39 rfl rfl ?_
  refine J_iload (nx := 42) dX11_right_40 rfl rfl ?_
  refine JcKV4 (R' := rm (6) 0 0) (nx := 45) dX11_right_42 rfl ml_X11_seat lk_X11_212 iv_X11_seat rfl rfl ⟨(Nat.le_of_ble_eq_true rfl), (Nat.le_of_ble_eq_true rfl)⟩ (Nat.le_of_ble_eq_true rfl) ⟨rfl, rfl⟩ ⟨(Nat.le_of_ble_eq_true rfl), (Nat.le_of_ble_eq_true rfl)⟩ (ct_seat4 g_33 3 0 so z q none T G (hC.kf k1) (show (3 : Int32) < 5 by decide)) ?_
  refine J.gen (fun g_42 hg_42 => ?_)
  refine J_aload_n (nx := 46) dX11_right_45 rfl rfl ?_
  refine Jg_0_5 (nx := 49) dX11_right_46 rfl fl_X11_40 ?_
  refine JcKV0 (R' := rm (2) 0 0) (nx := 52) dX11_right_49 rfl ml_X0_statesAsKept lk_X11_319 iv_X0_statesAsKept rfl rfl ⟨(Nat.le_of_ble_eq_true rfl), (Nat.le_of_ble_eq_true rfl)⟩ (Nat.le_of_ble_eq_true rfl) ⟨rfl, rfl⟩ ⟨(Nat.le_of_ble_eq_true rfl), (Nat.le_of_ble_eq_true rfl)⟩ (ct_statesAsKept _) ?_
  subst hg_42
  subst hg_33
  subst hg_26
  exact Jri dX11_right_52 rfl (Nat.le_of_ble_eq_true rfl) (Nat.le_of_ble_eq_true rfl) ⟨rfl, rfl⟩

def twA (g : GS) (so z : Int32) : Int32 := bk_sw g 20 z (bk_cn g 20 so)
def twV (g : GS) (so z so2 z2 st : Int32) (w : Bool) (q : Option CD) (T G : Nat) : Int64 :=
  if twA g so z = twA g so2 z2 then 0 else if twA g so2 z2 ≤ twA g so z then (bif w then (woI (stG g 3 0 so z q none T G) 0 st).toInt64 else 1) else (bif w then (-(twA g so2 z2)).toInt64 else 2)
def twW (g : GS) (so z so2 z2 : Int32) (w : Bool) (q : Option CD) (T G : Nat) : GS :=
  if twA g so z = twA g so2 z2 then g else if twA g so2 z2 ≤ twA g so z then (bif w then stG g 3 0 so z q none T G else g) else g
set_option maxRecDepth 100000 in
set_option maxHeartbeats 4000000 in
theorem ct_two (g : GS) (so z so2 z2 st : Int32) (w : Bool) (q : Option CD) (T G : Nat) (hC : Cl g q T G) : Ct mX11_two (rm 10 3 18) [.ref 0, .int so, .int z, .int so2, .int z2, .int st, .int (bI w)] (Wd g) (FX [(fFo g so z, x_iob), (fFo g so2 z2, x_iob), (fSt st, x_iob)] (RR (.inl (some (.long (twV g so z so2 z2 st w q T G)))) (twW g so z so2 z2 w q T G)) g) := by
  refine Ct.of (by decide +kernel) (Nat.le_of_ble_eq_true rfl) ?_
  show J _ _ _ _ 0 [some (.ref 0), some (.int so), some (.int z), some (.int so2), some (.int z2), some (.int st), some (.int (bI w)), none, none] [] _ 0 0
  refine J_aload_n (nx := 1) dX11_two_0 rfl rfl ?_
  refine J_iload_n (nx := 2) dX11_two_1 rfl rfl ?_
  refine J_iload_n (nx := 3) dX11_two_2 rfl rfl ?_
  refine JtKV2 (R' := rm (1) 1 6) (nx := 6) dX11_two_3 rfl ml_X11_requireFoul lk_X11_194 iv_X11_requireFoul rfl rfl ⟨(Nat.le_of_ble_eq_true rfl), (Nat.le_of_ble_eq_true rfl)⟩ (Nat.le_of_ble_eq_true rfl) ⟨rfl, rfl⟩ ⟨(Nat.le_of_ble_eq_true rfl), (Nat.le_of_ble_eq_true rfl)⟩ (ct_requireFoul _ _ _) (fun t_3 => ?_)
  refine J_aload_n (nx := 7) dX11_two_6 rfl rfl ?_
  refine J_iload_n (nx := 8) dX11_two_7 rfl rfl ?_
  refine J_iload (nx := 10) dX11_two_8 rfl rfl ?_
  refine JtKV2 (R' := rm (1) 1 6) (nx := 13) dX11_two_10 rfl ml_X11_requireFoul lk_X11_194 iv_X11_requireFoul rfl rfl ⟨(Nat.le_of_ble_eq_true rfl), (Nat.le_of_ble_eq_true rfl)⟩ (Nat.le_of_ble_eq_true rfl) ⟨rfl, rfl⟩ ⟨(Nat.le_of_ble_eq_true rfl), (Nat.le_of_ble_eq_true rfl)⟩ (ct_requireFoul _ _ _) (fun t_10 => ?_)
  refine J_iload (nx := 15) dX11_two_13 rfl rfl ?_
  refine JcKS1 (R' := rm (0) 0 0) (nx := 18) dX11_two_15 rfl ml_X11_isState lk_X11_130 st_X11_isState ⟨(Nat.le_of_ble_eq_true rfl), (Nat.le_of_ble_eq_true rfl)⟩ (Nat.le_of_ble_eq_true rfl) ⟨rfl, rfl⟩ ⟨(Nat.le_of_ble_eq_true rfl), (Nat.le_of_ble_eq_true rfl)⟩ (ct_isState _ _) ?_
  refine JtKS1 (R' := rm (0) 1 6) (nx := 21) dX11_two_18 rfl ml_X11_requirePlace lk_X11_133 st_X11_requirePlace ⟨(Nat.le_of_ble_eq_true rfl), (Nat.le_of_ble_eq_true rfl)⟩ (Nat.le_of_ble_eq_true rfl) ⟨rfl, rfl⟩ ⟨(Nat.le_of_ble_eq_true rfl), (Nat.le_of_ble_eq_true rfl)⟩ (ct_requirePlace _ (fSt st)) (fun t_18 => ?_)
  refine J_aload_n (nx := 22) dX11_two_21 rfl rfl ?_
  refine Jg_0_2 (nx := 25) dX11_two_22 rfl fl_X11_28 ?_
  refine J_iload_n (nx := 26) dX11_two_25 rfl rfl ?_
  refine J_aload_n (nx := 27) dX11_two_26 rfl rfl ?_
  refine Jg_0_2 (nx := 30) dX11_two_27 rfl fl_X11_28 ?_
  refine J_iload_n (nx := 31) dX11_two_30 rfl rfl ?_
  refine JcKV1 (R' := rm (3) 0 0) (nx := 34) dX11_two_31 rfl ml_X1_cardNow lk_X11_197 iv_X1_cardNow rfl rfl ⟨(Nat.le_of_ble_eq_true rfl), (Nat.le_of_ble_eq_true rfl)⟩ (Nat.le_of_ble_eq_true rfl) ⟨rfl, rfl⟩ ⟨(Nat.le_of_ble_eq_true rfl), (Nat.le_of_ble_eq_true rfl)⟩ (ct_X1_cardNow _ _) ?_
  refine JcKV2 (R' := rm (1) 0 0) (nx := 37) dX11_two_34 rfl ml_X1_stopWorth lk_X11_203 iv_X1_stopWorth rfl rfl ⟨(Nat.le_of_ble_eq_true rfl), (Nat.le_of_ble_eq_true rfl)⟩ (Nat.le_of_ble_eq_true rfl) ⟨rfl, rfl⟩ ⟨(Nat.le_of_ble_eq_true rfl), (Nat.le_of_ble_eq_true rfl)⟩ (ct_X1_stopWorth _ _ _) ?_
  refine J_istore (nx := 39) dX11_two_37 rfl rfl (Nat.le_of_ble_eq_true rfl) ?_
  refine J_aload_n (nx := 40) dX11_two_39 rfl rfl ?_
  refine Jg_0_2 (nx := 43) dX11_two_40 rfl fl_X11_28 ?_
  refine J_iload (nx := 45) dX11_two_43 rfl rfl ?_
  refine J_aload_n (nx := 46) dX11_two_45 rfl rfl ?_
  refine Jg_0_2 (nx := 49) dX11_two_46 rfl fl_X11_28 ?_
  refine J_iload_n (nx := 50) dX11_two_49 rfl rfl ?_
  refine JcKV1 (R' := rm (3) 0 0) (nx := 53) dX11_two_50 rfl ml_X1_cardNow lk_X11_197 iv_X1_cardNow rfl rfl ⟨(Nat.le_of_ble_eq_true rfl), (Nat.le_of_ble_eq_true rfl)⟩ (Nat.le_of_ble_eq_true rfl) ⟨rfl, rfl⟩ ⟨(Nat.le_of_ble_eq_true rfl), (Nat.le_of_ble_eq_true rfl)⟩ (ct_X1_cardNow _ _) ?_
  refine JcKV2 (R' := rm (1) 0 0) (nx := 56) dX11_two_53 rfl ml_X1_stopWorth lk_X11_203 iv_X1_stopWorth rfl rfl ⟨(Nat.le_of_ble_eq_true rfl), (Nat.le_of_ble_eq_true rfl)⟩ (Nat.le_of_ble_eq_true rfl) ⟨rfl, rfl⟩ ⟨(Nat.le_of_ble_eq_true rfl), (Nat.le_of_ble_eq_true rfl)⟩ (ct_X1_stopWorth _ _ _) ?_
  refine J_istore (nx := 58) dX11_two_56 rfl rfl (Nat.le_of_ble_eq_true rfl) ?_
  refine J_iload (nx := 60) dX11_two_58 rfl rfl ?_
  refine J_iload (nx := 62) dX11_two_60 rfl rfl ?_
  refine J_icmp_ne (nx := 65) (tgt := 67) dX11_two_62 rfl (by decide) (fun c_62 => ?_) (fun c_62 => ?_)
  · refine J_iload (nx := 69) dX11_two_67 rfl rfl ?_
    refine J_iload (nx := 71) dX11_two_69 rfl rfl ?_
    refine J_icmp_ge (nx := 74) (tgt := 90) dX11_two_71 rfl (by decide) (fun c_71 => ?_) (fun c_71 => ?_)
    · refine J_iload (nx := 92) dX11_two_90 rfl rfl ?_
      refine J_if_ne (nx := 95) (tgt := 97) dX11_two_92 rfl (by decide) (fun c_92 => ?_) (fun c_92 => ?_)
      · refine J_aload_n (nx := 98) dX11_two_97 rfl rfl ?_
        refine J_iconst (nx := 99) (i := 3) (v := 3) (by decide) dX11_two_98 rfl ?_
        refine J_iconst (nx := 100) (i := 0) (v := 0) (by decide) dX11_two_99 rfl ?_
        refine J_iload_n (nx := 101) dX11_two_100 rfl rfl ?_
        refine J_iload_n (nx := 102) dX11_two_101 rfl rfl ?_
        refine JcKV4 (R' := rm (6) 0 0) (nx := 105) dX11_two_102 rfl ml_X11_seat lk_X11_212 iv_X11_seat rfl rfl ⟨(Nat.le_of_ble_eq_true rfl), (Nat.le_of_ble_eq_true rfl)⟩ (Nat.le_of_ble_eq_true rfl) ⟨rfl, rfl⟩ ⟨(Nat.le_of_ble_eq_true rfl), (Nat.le_of_ble_eq_true rfl)⟩ (ct_seat4 g 3 0 so z q none T G hC (show (3 : Int32) < 5 by decide)) ?_
        refine J.gen (fun g_102 hg_102 => ?_)
        refine J_aload_n (nx := 106) dX11_two_105 rfl rfl ?_
        refine Jg_0_5 (nx := 109) dX11_two_106 rfl fl_X11_40 ?_
        refine J_iconst (nx := 110) (i := 0) (v := 0) (by decide) dX11_two_109 rfl ?_
        refine J_iload (nx := 112) dX11_two_110 rfl rfl ?_
        refine JcKV2 (R' := rm (1) 0 0) (nx := 115) dX11_two_112 rfl ml_X0_worthAt lk_X11_216 iv_X0_worthAt rfl rfl ⟨(Nat.le_of_ble_eq_true rfl), (Nat.le_of_ble_eq_true rfl)⟩ (Nat.le_of_ble_eq_true rfl) ⟨rfl, rfl⟩ ⟨(Nat.le_of_ble_eq_true rfl), (Nat.le_of_ble_eq_true rfl)⟩ (ct_worthAt _ _ _) ?_
        refine J_i2l (nx := 116) dX11_two_115 rfl ?_
        exact Jrl dX11_two_116 rfl (Nat.le_of_ble_eq_true rfl) (Nat.le_of_ble_eq_true rfl) ⟨by unfold twV twA; rw [if_neg c_62, if_pos c_71, bI_n0.mp c_92, hg_102]; rfl, by unfold twW twA; rw [if_neg c_62, if_pos c_71, bI_n0.mp c_92, hg_102]; rfl⟩
      · refine J_lconst (nx := 96) (i := 1) (v := 1) (by decide) dX11_two_95 rfl ?_
        exact Jrl dX11_two_96 rfl (Nat.le_of_ble_eq_true rfl) (Nat.le_of_ble_eq_true rfl) ⟨by unfold twV twA; rw [if_neg c_62, if_pos c_71, bI_0.mp c_92]; rfl, by unfold twW twA; rw [if_neg c_62, if_pos c_71, bI_0.mp c_92]; rfl⟩
    · refine J_iload (nx := 76) dX11_two_74 rfl rfl ?_
      refine J_if_eq (nx := 79) (tgt := 86) dX11_two_76 rfl (by decide) (fun c_76 => ?_) (fun c_76 => ?_)
      · refine J_ldc2 (nx := 89) cn_X11_283 dX11_two_86 rfl ?_
        exact Jrl dX11_two_89 rfl (Nat.le_of_ble_eq_true rfl) (Nat.le_of_ble_eq_true rfl) ⟨by unfold twV twA; rw [if_neg c_62, if_neg c_71]; first | (rw [bI_0.mp c_76]; rfl) | (rw [bI_n0.mp c_76]; rfl), by unfold twW twA; rw [if_neg c_62, if_neg c_71]⟩
      · refine J_iload (nx := 81) dX11_two_79 rfl rfl ?_
        refine J_ineg (nx := 82) dX11_two_81 rfl ?_
        refine J_i2l (nx := 83) dX11_two_82 rfl ?_
        refine J_goto (nx := 89) dX11_two_83 (by decide) ?_
        exact Jrl dX11_two_89 rfl (Nat.le_of_ble_eq_true rfl) (Nat.le_of_ble_eq_true rfl) ⟨by unfold twV twA; rw [if_neg c_62, if_neg c_71]; first | (rw [bI_0.mp c_76]; rfl) | (rw [bI_n0.mp c_76]; rfl), by unfold twW twA; rw [if_neg c_62, if_neg c_71]⟩
  · refine J_lconst (nx := 66) (i := 0) (v := 0) (by decide) dX11_two_65 rfl ?_
    exact Jrl dX11_two_66 rfl (Nat.le_of_ble_eq_true rfl) (Nat.le_of_ble_eq_true rfl) ⟨by unfold twV twA; rw [if_pos c_62], by unfold twW twA; rw [if_pos c_62]⟩

theorem op_P (g : GS) (m : Int32) (T : Nat) (q : Option CD) : gP (opAll g m T q) = gP g := by
  have h1 : ∀ {S : Nat → GS → GS} (_ : ∀ i g, gP (S i g) = gP g) (n : Nat) (g : GS), gP (itN S n g) = gP g := by
    intro S hs n g
    induction n with
    | zero => rfl
    | succ n ih => exact (hs n _).trans ih
  have h3 : ∀ (n s : Nat) (p : GS × Int32), gP (itN (wrStep s) n p).1 = gP p.1 := by
    intro n s p
    induction n with
    | zero => rfl
    | succ n ih =>
      refine Eq.trans ?_ ih
      show gP (wrStep s n (itN (wrStep s) n p)).1 = gP (itN (wrStep s) n p).1
      generalize itN (wrStep s) n p = p1
      unfold wrStep
      split
      · rfl
      · rfl
  have h4 : ∀ (n : Nat) (p : GS × Int32), gP (itN wrS n p).1 = gP p.1 := by
    intro n p
    induction n with
    | zero => rfl
    | succ n ih =>
      have e1 : ∀ X : GS × Int32, gP (wrS1 n X).1 = gP X.1 := fun _ => rfl
      have e2 : ∀ X : GS × Int32, gP (wrS0 n X).1 = gP X.1 := fun _ => rfl
      show gP (wrS n (itN wrS n p)).1 = _
      unfold wrS
      rw [e1, h3, e2]
      exact ih
  refine (h1 (S := opT) (fun i g => h1 (S := opS (i + 1)) (fun _ _ => rfl) 32 g) T (wrAll (op2 (op1 g m q)))).trans ?_
  have e3 : ∀ X : GS × Int32, gP (wrEnd X) = gP X.1 := fun _ => rfl
  unfold wrAll
  rw [e3, h4]
  cases q <;> rfl
def reG (g : GS) (b so : Int32) (q : Option CD) (T G n : Nat) (cds : Nat → CD) : GS := wgAll cds G n b so (opAll g (gF g 20 14) T q)
def reV (g : GS) (what : Int32) : Int64 := if what = 0 then (gF g 61 3).toInt64 else if what = 1 then (gF g 61 4).toInt64 else if what = 2 then (gF g 61 5).toInt64 else if what = 3 then (gF g 61 6).toInt64 else if ¬ gF g 61 4 = gF g 61 6 then 0 else 1
set_option maxRecDepth 100000 in
set_option maxHeartbeats 4000000 in
theorem ct_rest (g : GS) (b so what : Int32) (q : Option CD) (T G n : Nat) (cds : Nat → CD) (hC : Cl g q T G) (hR : RulesAt g n cds) (hN : gF g 20 10 = nI n) (hn : n ≤ 4) : Ct mX11_rest (rm 10 3 18) [.ref 0, .int b, .int so, .int what] (Wd g) (FX [(fSo g so, x_iob), (fSt b, x_iae), (fWi what 4, x_nse)] (RR (.inl (some (.long (reV (reG g b so q T G n cds) what)))) (reG g b so q T G n cds)) g) := by
  refine Ct.of (by decide +kernel) (Nat.le_of_ble_eq_true rfl) ?_
  show J _ _ _ _ 0 [some (.ref 0), some (.int b), some (.int so), some (.int what)] [] _ 0 0
  refine J_aload_n (nx := 1) dX11_rest_0 rfl rfl ?_
  refine J_iload_n (nx := 2) dX11_rest_1 rfl rfl ?_
  refine JcKV1 (R' := rm (0) 0 0) (nx := 5) dX11_rest_2 rfl ml_X11_isSort lk_X11_245 iv_X11_isSort rfl rfl ⟨(Nat.le_of_ble_eq_true rfl), (Nat.le_of_ble_eq_true rfl)⟩ (Nat.le_of_ble_eq_true rfl) ⟨rfl, rfl⟩ ⟨(Nat.le_of_ble_eq_true rfl), (Nat.le_of_ble_eq_true rfl)⟩ (ct_isSort _ _) ?_
  refine JtKS1 (R' := rm (0) 1 6) (nx := 8) dX11_rest_5 rfl ml_X11_requirePlace lk_X11_133 st_X11_requirePlace ⟨(Nat.le_of_ble_eq_true rfl), (Nat.le_of_ble_eq_true rfl)⟩ (Nat.le_of_ble_eq_true rfl) ⟨rfl, rfl⟩ ⟨(Nat.le_of_ble_eq_true rfl), (Nat.le_of_ble_eq_true rfl)⟩ (ct_requirePlace _ (fSo g so)) (fun t_5 => ?_)
  refine J_iload_n (nx := 9) dX11_rest_8 rfl rfl ?_
  refine JcKS1 (R' := rm (0) 0 0) (nx := 12) dX11_rest_9 rfl ml_X11_isState lk_X11_130 st_X11_isState ⟨(Nat.le_of_ble_eq_true rfl), (Nat.le_of_ble_eq_true rfl)⟩ (Nat.le_of_ble_eq_true rfl) ⟨rfl, rfl⟩ ⟨(Nat.le_of_ble_eq_true rfl), (Nat.le_of_ble_eq_true rfl)⟩ (ct_isState _ _) ?_
  refine JtKS1 (R' := rm (0) 1 6) (nx := 15) dX11_rest_12 rfl ml_X11_requireNumber lk_X11_83 st_X11_requireNumber ⟨(Nat.le_of_ble_eq_true rfl), (Nat.le_of_ble_eq_true rfl)⟩ (Nat.le_of_ble_eq_true rfl) ⟨rfl, rfl⟩ ⟨(Nat.le_of_ble_eq_true rfl), (Nat.le_of_ble_eq_true rfl)⟩ (ct_requireNumber _ (fSt b)) (fun t_12 => ?_)
  refine J_iload_n (nx := 16) dX11_rest_15 rfl rfl ?_
  refine J_iconst (nx := 17) (i := 4) (v := 4) (by decide) dX11_rest_16 rfl ?_
  refine JtKS2 (R' := rm (1) 1 6) (nx := 20) dX11_rest_17 rfl ml_X11_requireWhat lk_X11_136 st_X11_requireWhat ⟨(Nat.le_of_ble_eq_true rfl), (Nat.le_of_ble_eq_true rfl)⟩ (Nat.le_of_ble_eq_true rfl) ⟨rfl, rfl⟩ ⟨(Nat.le_of_ble_eq_true rfl), (Nat.le_of_ble_eq_true rfl)⟩ (ct_requireWhat _ _ _) (fun t_17 => ?_)
  refine J_aload_n (nx := 21) dX11_rest_20 rfl rfl ?_
  refine Jg_0_5 (nx := 24) dX11_rest_21 rfl fl_X11_40 ?_
  refine J_aload_n (nx := 25) dX11_rest_24 rfl rfl ?_
  refine Jg_0_2 (nx := 28) dX11_rest_25 rfl fl_X11_28 ?_
  refine Jg_20_14 (nx := 31) dX11_rest_28 rfl fl_X11_161 ?_
  refine J_aload_n (nx := 32) dX11_rest_31 rfl rfl ?_
  refine Jg_0_2 (nx := 35) dX11_rest_32 rfl fl_X11_28 ?_
  refine Jg_20_13 (nx := 38) dX11_rest_35 rfl fl_X11_173 ?_
  rw [hC.2.1]
  refine JcKV2 (R' := rm (4) 0 0) (nx := 41) dX11_rest_38 rfl ml_X0_open lk_X11_188 iv_X0_open rfl rfl ⟨(Nat.le_of_ble_eq_true rfl), (Nat.le_of_ble_eq_true rfl)⟩ (Nat.le_of_ble_eq_true rfl) ⟨rfl, rfl⟩ ⟨(Nat.le_of_ble_eq_true rfl), (Nat.le_of_ble_eq_true rfl)⟩ (ct_open g _ T q hC.1 (by have := hC.2.2.1; omega)) ?_
  refine J.gen (fun g_38 hg_38 => ?_)
  have k1 : KF g g_38 := by rw [hg_38]; exact kf_open Fr.rf _ _ _
  refine J_aload_n (nx := 42) dX11_rest_41 rfl rfl ?_
  refine Jg_0_8 (nx := 45) dX11_rest_42 rfl fl_X11_63 ?_
  refine J_iload_n (nx := 46) dX11_rest_45 rfl rfl ?_
  refine J_iload_n (nx := 47) dX11_rest_46 rfl rfl ?_
  refine JcKV2 (R' := rm (6) 0 0) (nx := 50) dX11_rest_47 rfl ml_X5_weigh lk_X11_322 iv_X5_weigh rfl rfl ⟨(Nat.le_of_ble_eq_true rfl), (Nat.le_of_ble_eq_true rfl)⟩ (Nat.le_of_ble_eq_true rfl) ⟨rfl, rfl⟩ ⟨(Nat.le_of_ble_eq_true rfl), (Nat.le_of_ble_eq_true rfl)⟩ (ct_weigh cds G n _ _ g_38 (hR.congr (by rw [hg_38]; exact op_P g _ _ _) (by rw [hg_38]; exact (kf_open Fr.rf _ _ _).tail)) ((k1.book 10 (by decide)).trans hN) hn (by rw [hg_38]; exact hC.opened _ _) hC.2.2.2.2) ?_
  refine J.gen (fun g_47 hg_47 => ?_)
  have e : g_47 = reG g b so q T G n cds := by rw [hg_47, hg_38]; rfl
  refine J_iload_n (nx := 51) dX11_rest_50 rfl rfl ?_
  by_cases s_51_0 : what = 0
  · refine J_tabIn (nx := 0) (tgt := 80) (off := 29) dX11_rest_51 (by rw [s_51_0]; decide) (by rw [s_51_0]; decide) (by rw [s_51_0]; rfl) (by decide) ?_
    refine J_aload_n (nx := 81) dX11_rest_80 rfl rfl ?_
    refine Jg_0_8 (nx := 84) dX11_rest_81 rfl fl_X11_63 ?_
    refine Jg_61_3 (nx := 87) dX11_rest_84 rfl fl_X11_325 ?_
    refine J_i2l (nx := 88) dX11_rest_87 rfl ?_
    exact Jrl dX11_rest_88 rfl (Nat.le_of_ble_eq_true rfl) (Nat.le_of_ble_eq_true rfl) ⟨by rw [← e]; unfold reV; rw [if_pos s_51_0], by rw [e]⟩
  by_cases s_51_1 : what = 1
  · refine J_tabIn (nx := 0) (tgt := 89) (off := 38) dX11_rest_51 (by rw [s_51_1]; decide) (by rw [s_51_1]; decide) (by rw [s_51_1]; rfl) (by decide) ?_
    refine J_aload_n (nx := 90) dX11_rest_89 rfl rfl ?_
    refine Jg_0_8 (nx := 93) dX11_rest_90 rfl fl_X11_63 ?_
    refine Jg_61_4 (nx := 96) dX11_rest_93 rfl fl_X11_328 ?_
    refine J_i2l (nx := 97) dX11_rest_96 rfl ?_
    exact Jrl dX11_rest_97 rfl (Nat.le_of_ble_eq_true rfl) (Nat.le_of_ble_eq_true rfl) ⟨by rw [← e]; unfold reV; rw [if_neg s_51_0, if_pos s_51_1], by rw [e]⟩
  by_cases s_51_2 : what = 2
  · refine J_tabIn (nx := 0) (tgt := 98) (off := 47) dX11_rest_51 (by rw [s_51_2]; decide) (by rw [s_51_2]; decide) (by rw [s_51_2]; rfl) (by decide) ?_
    refine J_aload_n (nx := 99) dX11_rest_98 rfl rfl ?_
    refine Jg_0_8 (nx := 102) dX11_rest_99 rfl fl_X11_63 ?_
    refine Jg_61_5 (nx := 105) dX11_rest_102 rfl fl_X11_331 ?_
    refine J_i2l (nx := 106) dX11_rest_105 rfl ?_
    exact Jrl dX11_rest_106 rfl (Nat.le_of_ble_eq_true rfl) (Nat.le_of_ble_eq_true rfl) ⟨by rw [← e]; unfold reV; rw [if_neg s_51_0, if_neg s_51_1, if_pos s_51_2], by rw [e]⟩
  by_cases s_51_3 : what = 3
  · refine J_tabIn (nx := 0) (tgt := 107) (off := 56) dX11_rest_51 (by rw [s_51_3]; decide) (by rw [s_51_3]; decide) (by rw [s_51_3]; rfl) (by decide) ?_
    refine J_aload_n (nx := 108) dX11_rest_107 rfl rfl ?_
    refine Jg_0_8 (nx := 111) dX11_rest_108 rfl fl_X11_63 ?_
    refine Jg_61_6 (nx := 114) dX11_rest_111 rfl fl_X11_334 ?_
    refine J_i2l (nx := 115) dX11_rest_114 rfl ?_
    exact Jrl dX11_rest_115 rfl (Nat.le_of_ble_eq_true rfl) (Nat.le_of_ble_eq_true rfl) ⟨by rw [← e]; unfold reV; rw [if_neg s_51_0, if_neg s_51_1, if_neg s_51_2, if_pos s_51_3], by rw [e]⟩
  refine J_tabOut (nx := 0) (tgt := 116) dX11_rest_51 (by have e0 : ¬ (what).toInt = 0 := fun z => s_51_0 (Int32.toInt_inj.mp (z.trans (by decide))); have e1 : ¬ (what).toInt = 1 := fun z => s_51_1 (Int32.toInt_inj.mp (z.trans (by decide))); have e2 : ¬ (what).toInt = 2 := fun z => s_51_2 (Int32.toInt_inj.mp (z.trans (by decide))); have e3 : ¬ (what).toInt = 3 := fun z => s_51_3 (Int32.toInt_inj.mp (z.trans (by decide))); omega) (by decide) ?_
  refine J_aload_n (nx := 117) dX11_rest_116 rfl rfl ?_
  refine Jg_0_8 (nx := 120) dX11_rest_117 rfl fl_X11_63 ?_
  refine Jg_61_4 (nx := 123) dX11_rest_120 rfl fl_X11_328 ?_
  refine J_aload_n (nx := 124) dX11_rest_123 rfl rfl ?_
  refine Jg_0_8 (nx := 127) dX11_rest_124 rfl fl_X11_63 ?_
  refine Jg_61_6 (nx := 130) dX11_rest_127 rfl fl_X11_334 ?_
  refine J_icmp_ne (nx := 133) (tgt := 137) dX11_rest_130 rfl (by decide) (fun c_130 => ?_) (fun c_130 => ?_)
  · refine J_lconst (nx := 138) (i := 0) (v := 0) (by decide) dX11_rest_137 rfl ?_
    exact Jrl dX11_rest_138 rfl (Nat.le_of_ble_eq_true rfl) (Nat.le_of_ble_eq_true rfl) ⟨by rw [← e]; unfold reV; rw [if_neg s_51_0, if_neg s_51_1, if_neg s_51_2, if_neg s_51_3]; first | rw [if_pos c_130] | rw [if_neg (fun z => z c_130)], by rw [e]⟩
  · refine J_lconst (nx := 134) (i := 1) (v := 1) (by decide) dX11_rest_133 rfl ?_
    refine J_goto (nx := 138) dX11_rest_134 (by decide) ?_
    exact Jrl dX11_rest_138 rfl (Nat.le_of_ble_eq_true rfl) (Nat.le_of_ble_eq_true rfl) ⟨by rw [← e]; unfold reV; rw [if_neg s_51_0, if_neg s_51_1, if_neg s_51_2, if_neg s_51_3]; first | rw [if_pos c_130] | rw [if_neg (fun z => z c_130)], by rw [e]⟩

