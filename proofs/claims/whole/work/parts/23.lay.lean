
theorem dc_F (g : GS) (j s : Int32) (q : Option CD) : gF (dcAll g j s q) = gF g := by cases q <;> rfl
theorem dc_P (g : GS) (j s : Int32) (q : Option CD) : gP (dcAll g j s q) = gP g := by cases q <;> rfl
theorem dc_T (g : GS) (j s : Int32) (q : Option CD) : gT (dcAll g j s q) = gT g := by cases q <;> rfl
theorem JudgeAt.congr {g g1 : GS} {q : Option CD} (h : JudgeAt g q) (h1 : gF g1 40 8 = gF g 40 8) (h2 : gP g1 = gP g) (h3 : gT g1 = gT g) : JudgeAt g1 q := by
  cases q with
  | none => show gF g1 40 8 < 5; rw [h1]; exact h
  | some cd =>
    obtain ⟨h, i, c, hi, hji, hp, hc⟩ := h
    exact ⟨by rw [h1]; exact h, i, c, hi, by rw [h1]; exact hji, by rw [h2]; exact hp, by rw [h3]; exact hc⟩
def lyF (q : Option CD) (j s : Nat) (g : GS) : GS := dcAll g (nI j) (nI s) q
theorem JudgeAt.it {g : GS} {q : Option CD} (h : JudgeAt g q) (j n : Nat) : JudgeAt (itN (lyF q j) n g) q := by
  induction n with
  | zero => exact h
  | succ n ih =>
    have e : itN (lyF q j) (n + 1) g = dcAll (itN (lyF q j) n g) (nI j) (nI n) q := rfl
    rw [e]
    exact ih.congr (by rw [dc_F]) (dc_P _ _ _ _) (dc_T _ _ _ _)
def lyD (q : Option CD) : Nat → GS → GS
  | 0, g => itN (lyF q 0) 32 g
  | j + 1, g => lyD q j (itN (lyF q (j + 1)) 32 g)
theorem lyD_0 (q : Option CD) (g : GS) : lyD q 0 g = itN (lyF q 0) 32 g := by unfold lyD; rfl
theorem lyD_s (q : Option CD) (j : Nat) (g : GS) : lyD q (j + 1) g = lyD q j (itN (lyF q (j + 1)) 32 g) := by conv => lhs; unfold lyD
def ly1 (g : GS) (z card : Int32) : GS := sF g 40 14 (bk_sw g 20 z card)
def ly2 (g : GS) (so card : Int32) : GS := sF g 40 15 (bk_aw g 20 so card)
def ly3 (g : GS) (z : Int32) : GS := fput g 3 (rAt 8 (gA g 22) z)
def ly4 (g : GS) (so : Int32) : GS := fput g 7 (if ¬ rAt 6 (gA g 24) so = 100 then 0 else 1)
def ly0 (g : GS) (so z card : Int32) : GS := ly4 (ly3 (ly2 (ly1 g z card) so card) z) so
def lyAll (g : GS) (so z card : Int32) (q : Option CD) (G : Nat) : GS := lyD q G (ly0 g so z card)
theorem nI_m (j : Nat) : nI (j + 1) + Int32.ofInt (-1) = nI j := by
  have h := nI_pred j
  rw [Int32.sub_eq_add_neg] at h
  exact h

set_option maxRecDepth 100000 in
set_option maxHeartbeats 4000000 in
theorem lp_lay_in (q : Option CD) (j : Nat) (g : GS) (so z card : Int32) (hJ : JudgeAt g q) (Q : Res → List ME → Prop) (n0 : Nat) (hK : J mX0_lay (rm 4 0 0) Q n0 110 [some (.ref 40), some (.int so), some (.int z), some (.int card), some (.int (nI j)), some (.int (nI 32))] [] (Wd (itN (lyF q j) 32 g)) 0 0) : ∀ (k w : Nat), w ≤ 32 → 32 + 1 ≤ w + k → J mX0_lay (rm 4 0 0) Q n0 89 [some (.ref 40), some (.int so), some (.int z), some (.int card), some (.int (nI j)), some (.int (nI w))] [] (Wd (itN (lyF q j) w g)) 0 0 := by
  intro k
  induction k with
  | zero => intro w h1 h2; exact absurd h2 (by omega)
  | succ k ih =>
    intro w h1 h2
    refine J_iload (nx := 91) dX0_lay_89 rfl rfl ?_
    refine J_bipush (nx := 93) (i := 32) (v := 32) (by decide) dX0_lay_91 rfl ?_
    refine J_icmp_ge (nx := 96) (tgt := 110) dX0_lay_93 rfl (by decide) (fun c_93 => ?_) (fun c_93 => ?_)
    · obtain rfl : w = 32 := cge h1 (by omega) c_93
      exact hK
    · have hw : w < 32 := clt h1 (by omega) c_93
      refine J_aload_n (nx := 97) dX0_lay_96 rfl rfl ?_
      refine J_iload (nx := 99) dX0_lay_97 rfl rfl ?_
      refine J_iload (nx := 101) dX0_lay_99 rfl rfl ?_
      refine JcV2 (R' := rm 3 0 0) (nx := 104) dX0_lay_101 rfl ml_X0_decide lk_X0_133 iv_X0_decide rfl rfl ⟨(Nat.le_of_ble_eq_true rfl), (Nat.le_of_ble_eq_true rfl)⟩ (Nat.le_of_ble_eq_true rfl) ⟨rfl, rfl⟩ (ct_decide _ _ _ q (hJ.it j w)) ?_
      refine J_iinc (nx := 107) dX0_lay_104 rfl rfl rfl (Nat.le_of_ble_eq_true rfl) ?_
      refine J_goto (nx := 89) dX0_lay_107 (by decide) ?_
      rw [show dcAll (itN (lyF q j) w g) (nI j) (nI w) q = itN (lyF q j) (w + 1) g from rfl]
      have ih2 := ih (w + 1) (by omega) (by omega)
      rw [← nI_s w] at ih2
      exact ih2

set_option maxRecDepth 100000 in
set_option maxHeartbeats 4000000 in
theorem lp_lay_in0 (q : Option CD) (j : Nat) (g : GS) (so z card : Int32) (hJ : JudgeAt g q) (Q : Res → List ME → Prop) (n0 : Nat) (hK : J mX0_lay (rm 4 0 0) Q n0 110 [some (.ref 40), some (.int so), some (.int z), some (.int card), some (.int (nI j)), some (.int (nI 32))] [] (Wd (itN (lyF q j) 32 g)) 0 0) : J mX0_lay (rm 4 0 0) Q n0 89 [some (.ref 40), some (.int so), some (.int z), some (.int card), some (.int (nI j)), some (.int 0)] [] (Wd g) 0 0 := lp_lay_in q j g so z card hJ Q n0 hK 33 0 (by omega) (by omega)

set_option maxRecDepth 100000 in
set_option maxHeartbeats 4000000 in
theorem lp_lay (q : Option CD) (so z card : Int32) (n0 : Nat) : ∀ (j : Nat) (g : GS), JudgeAt g q → j < 2 ^ 30 → J mX0_lay (rm 4 0 0) (RR (.inl none) (lyD q j g)) n0 81 [some (.ref 40), some (.int so), some (.int z), some (.int card), some (.int (nI j)), none] [] (Wd g) 0 0 := by
  intro j
  induction j with
  | zero =>
    intro g hJ hj
    refine J_iload (nx := 83) dX0_lay_81 rfl rfl ?_
    refine J_if_lt (nx := 86) (tgt := 116) dX0_lay_83 rfl (by decide) (fun c_83 => ?_) (fun c_83 => ?_)
    · exact absurd c_83 (nI_pos (by omega))
    · refine J_iconst (nx := 87) (i := 0) (v := 0) (by decide) dX0_lay_86 rfl ?_
      refine J_istore (nx := 89) dX0_lay_87 rfl rfl (Nat.le_of_ble_eq_true rfl) ?_
      refine lp_lay_in0 q 0 g so z card hJ _ _ ?_
      refine J.gen (fun g2 hg2 => ?_)
      refine J_iinc (nx := 113) dX0_lay_110 rfl rfl rfl (Nat.le_of_ble_eq_true rfl) ?_
      refine J_goto (nx := 81) dX0_lay_113 (by decide) ?_
      refine J_iload (nx := 83) dX0_lay_81 rfl rfl ?_
      refine J_if_lt (nx := 86) (tgt := 116) dX0_lay_83 rfl (by decide) (fun c_83 => ?_) (fun c_83 => ?_)
      · exact Jrv dX0_lay_116 rfl (Nat.zero_le _) (Nat.zero_le _) ⟨rfl, by rw [lyD_0, ← hg2]⟩
      · exact absurd (by decide) c_83
  | succ j ih =>
    intro g hJ hj
    have hj : j < 2 ^ 30 := by omega
    refine J_iload (nx := 83) dX0_lay_81 rfl rfl ?_
    refine J_if_lt (nx := 86) (tgt := 116) dX0_lay_83 rfl (by decide) (fun c_83 => ?_) (fun c_83 => ?_)
    · exact absurd c_83 (nI_pos (by omega))
    · refine J_iconst (nx := 87) (i := 0) (v := 0) (by decide) dX0_lay_86 rfl ?_
      refine J_istore (nx := 89) dX0_lay_87 rfl rfl (Nat.le_of_ble_eq_true rfl) ?_
      refine lp_lay_in0 q (j + 1) g so z card hJ _ _ ?_
      refine J.gen (fun g2 hg2 => ?_)
      refine J_iinc (nx := 113) dX0_lay_110 rfl rfl rfl (Nat.le_of_ble_eq_true rfl) ?_
      refine J_goto (nx := 81) dX0_lay_113 (by decide) ?_
      refine J_kill (nx := 0) 5 ?_
      show J _ _ _ _ 81 [some (.ref 40), some (.int so), some (.int z), some (.int card), some (.int (nI (j + 1) + Int32.ofInt (-1))), none] [] _ 0 0
      rw [nI_m, lyD_s, ← hg2]
      exact ih g2 (by rw [hg2]; exact hJ.it _ 32) hj

set_option maxRecDepth 100000 in
set_option maxHeartbeats 4000000 in
theorem ct_lay (g : GS) (so z card : Int32) (q : Option CD) (G : Nat) (hJ : JudgeAt g q) (hG : gF g 40 12 = nI G) (hG2 : G < 2 ^ 30) : Ct mX0_lay (rm 4 0 0) [.ref 40, .int so, .int z, .int card] (Wd g) (RR (.inl none) (lyAll g so z card q G)) := by
  refine Ct.of (by decide +kernel) (Nat.le_of_ble_eq_true rfl) ?_
  show J _ _ _ _ 0 [some (.ref 40), some (.int so), some (.int z), some (.int card), none, none] [] _ 0 0
  refine J_aload_n (nx := 1) dX0_lay_0 rfl rfl ?_
  refine J_aload_n (nx := 2) dX0_lay_1 rfl rfl ?_
  refine Jg_40_0 (nx := 5) dX0_lay_2 rfl fl_X0_37 ?_
  refine J_iload_n (nx := 6) dX0_lay_5 rfl rfl ?_
  refine J_iload_n (nx := 7) dX0_lay_6 rfl rfl ?_
  refine JcV2 (R' := rm 1 0 0) (nx := 10) dX0_lay_7 rfl ml_X1_stopWorth lk_X0_116 iv_X1_stopWorth rfl rfl ⟨(Nat.le_of_ble_eq_true rfl), (Nat.le_of_ble_eq_true rfl)⟩ (Nat.le_of_ble_eq_true rfl) ⟨rfl, rfl⟩ (ct_X1_stopWorth _ _ _) ?_
  refine Jp_40_14 (nx := 13) dX0_lay_10 rfl fl_X0_119 ?_
  refine J.gen (fun g_10 hg_10 => ?_)
  refine J_aload_n (nx := 14) dX0_lay_13 rfl rfl ?_
  refine J_aload_n (nx := 15) dX0_lay_14 rfl rfl ?_
  refine Jg_40_0 (nx := 18) dX0_lay_15 rfl fl_X0_37 ?_
  refine J_iload_n (nx := 19) dX0_lay_18 rfl rfl ?_
  refine J_iload_n (nx := 20) dX0_lay_19 rfl rfl ?_
  refine JcV2 (R' := rm 1 0 0) (nx := 23) dX0_lay_20 rfl ml_X1_afterwards lk_X0_121 iv_X1_afterwards rfl rfl ⟨(Nat.le_of_ble_eq_true rfl), (Nat.le_of_ble_eq_true rfl)⟩ (Nat.le_of_ble_eq_true rfl) ⟨rfl, rfl⟩ (ct_X1_afterwards _ _ _) ?_
  refine Jp_40_15 (nx := 26) dX0_lay_23 rfl fl_X0_124 ?_
  refine J.gen (fun g_23 hg_23 => ?_)
  refine J_aload_n (nx := 27) dX0_lay_26 rfl rfl ?_
  refine Jg_40_2 (nx := 30) dX0_lay_27 rfl fl_X0_18 ?_
  refine J_iconst (nx := 31) (i := 3) (v := 3) (by decide) dX0_lay_30 rfl ?_
  refine J_aload_n (nx := 32) dX0_lay_31 rfl rfl ?_
  refine Jg_40_0 (nx := 35) dX0_lay_32 rfl fl_X0_37 ?_
  refine Jg_20_1 (nx := 38) dX0_lay_35 rfl fl_X0_127 ?_
  refine J_iload_n (nx := 39) dX0_lay_38 rfl rfl ?_
  refine JcS2 (R' := rm 0 0 0) (nx := 42) dX0_lay_39 rfl ml_X6_at lk_X0_100 st_X6_at ⟨(Nat.le_of_ble_eq_true rfl), (Nat.le_of_ble_eq_true rfl)⟩ (Nat.le_of_ble_eq_true rfl) ⟨rfl, rfl⟩ (ct_at _ 22 8 _ _ rfl (by decide)) ?_
  refine JcS3 (R' := rm 0 0 0) (nx := 45) dX0_lay_42 rfl ml_X6_put lk_X0_41 st_X6_put ⟨(Nat.le_of_ble_eq_true rfl), (Nat.le_of_ble_eq_true rfl)⟩ (Nat.le_of_ble_eq_true rfl) ⟨rfl, rfl⟩ (ct_put _ 48 8 _ _ rfl (fun _ => rfl) (by decide)) ?_
  refine J.gen (fun g_42 hg_42 => ?_)
  refine J_aload_n (nx := 46) dX0_lay_45 rfl rfl ?_
  refine Jg_40_2 (nx := 49) dX0_lay_46 rfl fl_X0_18 ?_
  refine J_bipush (nx := 51) (i := 7) (v := 7) (by decide) dX0_lay_49 rfl ?_
  refine J_aload_n (nx := 52) dX0_lay_51 rfl rfl ?_
  refine Jg_40_0 (nx := 55) dX0_lay_52 rfl fl_X0_37 ?_
  refine Jg_20_3 (nx := 58) dX0_lay_55 rfl fl_X0_130 ?_
  refine J_iload_n (nx := 59) dX0_lay_58 rfl rfl ?_
  refine JcS2 (R' := rm 0 0 0) (nx := 62) dX0_lay_59 rfl ml_X6_at lk_X0_100 st_X6_at ⟨(Nat.le_of_ble_eq_true rfl), (Nat.le_of_ble_eq_true rfl)⟩ (Nat.le_of_ble_eq_true rfl) ⟨rfl, rfl⟩ (ct_at _ 24 6 _ _ rfl (by decide)) ?_
  refine J_bipush (nx := 64) (i := 100) (v := 100) (by decide) dX0_lay_62 rfl ?_
  refine J_icmp_ne (nx := 67) (tgt := 71) dX0_lay_64 rfl (by decide) (fun c_64 => ?_) (fun c_64 => ?_)
  · refine J_iconst (nx := 72) (i := 0) (v := 0) (by decide) dX0_lay_71 rfl ?_
    refine JcS3 (R' := rm 0 0 0) (nx := 75) dX0_lay_72 rfl ml_X6_put lk_X0_41 st_X6_put ⟨(Nat.le_of_ble_eq_true rfl), (Nat.le_of_ble_eq_true rfl)⟩ (Nat.le_of_ble_eq_true rfl) ⟨rfl, rfl⟩ (ct_put _ 48 8 _ _ rfl (fun _ => rfl) (by decide)) ?_
    refine J.gen (fun g_72 hg_72 => ?_)
    refine J_aload_n (nx := 76) dX0_lay_75 rfl rfl ?_
    refine Jg_40_12 (nx := 79) dX0_lay_76 rfl fl_X0_86 ?_
    rw [show gF g_72 40 12 = nI G from by rw [hg_72, hg_42, hg_23, hg_10]; exact hG]
    refine J_istore (nx := 81) dX0_lay_79 rfl rfl (Nat.le_of_ble_eq_true rfl) ?_
    have e3 : ly3 (ly2 (ly1 g z card) so card) z = g_42 := by rw [hg_42, hg_23, hg_10]; rfl
    have e : ly0 g so z card = g_72 := by
      unfold ly0 ly4
      rw [e3]
      first | (rw [if_pos c_64, hg_72]; rfl) | (rw [if_neg (fun z => z c_64), hg_72]; rfl)
    unfold lyAll
    rw [e]
    exact lp_lay q so z card _ G g_72 (hJ.congr (by rw [hg_72, hg_42, hg_23, hg_10]; rfl) (by rw [hg_72, hg_42, hg_23, hg_10]; rfl) (by rw [hg_72, hg_42, hg_23, hg_10]; rfl)) hG2
  · refine J_iconst (nx := 68) (i := 1) (v := 1) (by decide) dX0_lay_67 rfl ?_
    refine J_goto (nx := 72) dX0_lay_68 (by decide) ?_
    refine JcS3 (R' := rm 0 0 0) (nx := 75) dX0_lay_72 rfl ml_X6_put lk_X0_41 st_X6_put ⟨(Nat.le_of_ble_eq_true rfl), (Nat.le_of_ble_eq_true rfl)⟩ (Nat.le_of_ble_eq_true rfl) ⟨rfl, rfl⟩ (ct_put _ 48 8 _ _ rfl (fun _ => rfl) (by decide)) ?_
    refine J.gen (fun g_72 hg_72 => ?_)
    refine J_aload_n (nx := 76) dX0_lay_75 rfl rfl ?_
    refine Jg_40_12 (nx := 79) dX0_lay_76 rfl fl_X0_86 ?_
    rw [show gF g_72 40 12 = nI G from by rw [hg_72, hg_42, hg_23, hg_10]; exact hG]
    refine J_istore (nx := 81) dX0_lay_79 rfl rfl (Nat.le_of_ble_eq_true rfl) ?_
    have e3 : ly3 (ly2 (ly1 g z card) so card) z = g_42 := by rw [hg_42, hg_23, hg_10]; rfl
    have e : ly0 g so z card = g_72 := by
      unfold ly0 ly4
      rw [e3]
      first | (rw [if_pos c_64, hg_72]; rfl) | (rw [if_neg (fun z => z c_64), hg_72]; rfl)
    unfold lyAll
    rw [e]
    exact lp_lay q so z card _ G g_72 (hJ.congr (by rw [hg_72, hg_42, hg_23, hg_10]; rfl) (by rw [hg_72, hg_42, hg_23, hg_10]; rfl) (by rw [hg_72, hg_42, hg_23, hg_10]; rfl)) hG2

