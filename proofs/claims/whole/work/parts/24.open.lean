
def op1 (g : GS) (m : Int32) (q : Option CD) : GS := sF (gwG g m q) 40 13 (gwV g m q)
def op2 (g : GS) : GS := sF g 40 12 (gF g 20 12)
def opS (t s : Nat) (g : GS) : GS := sA g 50 (rPut 1952 (gA g 50) (nI t * 32 + nI s) (mixI g 1952 (gA g 50) (nI s) ((nI t - 1) * 32) (gF g 40 13) (-(gF g 20 16))))
def opT (i : Nat) (g : GS) : GS := itN (opS (i + 1)) 32 g
def opAll (g : GS) (m : Int32) (T : Nat) (q : Option CD) : GS := itN opT T (wrAll (op2 (op1 g m q)))
theorem itN_s {α : Type} (f : Nat → α → α) (n : Nat) (a : α) : itN f (n + 1) a = f n (itN f n a) := rfl
theorem itN_0 {α : Type} (f : Nat → α → α) (a : α) : itN f 0 a = a := rfl
theorem opT_e (i : Nat) (g : GS) : opT i g = itN (opS (i + 1)) 32 g := by unfold opT; rfl

set_option maxRecDepth 100000 in
set_option maxHeartbeats 4000000 in
theorem lp_open_in (t T : Nat) (g : GS) (m : Int32) (Q : Res → List ME → Prop) (n0 : Nat) (hK : J mX0_open (rm 4 0 0) Q n0 103 [some (.ref 40), some (.int m), some (.int (nI T)), some (.int (nI t)), some (.int (nI 32)), none] [] (Wd (itN (opS t) 32 g)) 0 0) : ∀ (k w : Nat), w ≤ 32 → 32 + 1 ≤ w + k → J mX0_open (rm 4 0 0) Q n0 41 [some (.ref 40), some (.int m), some (.int (nI T)), some (.int (nI t)), some (.int (nI w)), none] [] (Wd (itN (opS t) w g)) 0 0 := by
  intro k
  induction k with
  | zero => intro w h1 h2; exact absurd h2 (by omega)
  | succ k ih =>
    intro w h1 h2
    refine J_iload (nx := 43) dX0_open_41 rfl rfl ?_
    refine J_bipush (nx := 45) (i := 32) (v := 32) (by decide) dX0_open_43 rfl ?_
    refine J_icmp_ge (nx := 48) (tgt := 103) dX0_open_45 rfl (by decide) (fun c_45 => ?_) (fun c_45 => ?_)
    · obtain rfl : w = 32 := cge h1 (by omega) c_45
      exact hK
    · have hw : w < 32 := clt h1 (by omega) c_45
      have ih2 := ih (w + 1) (by omega) (by omega)
      rw [← nI_s w, itN_s (opS t) w g] at ih2
      generalize itN (opS t) w g = X at ih2 ⊢
      refine J_aload_n (nx := 49) dX0_open_48 rfl rfl ?_
      refine Jg_40_1 (nx := 52) dX0_open_49 rfl fl_X0_12 ?_
      refine J_iload (nx := 54) dX0_open_52 rfl rfl ?_
      refine J_aload_n (nx := 55) dX0_open_54 rfl rfl ?_
      refine Jg_40_4 (nx := 58) dX0_open_55 rfl fl_X0_25 ?_
      refine J_iload_n (nx := 59) dX0_open_58 rfl rfl ?_
      refine J_iconst (nx := 60) (i := 1) (v := 1) (by decide) dX0_open_59 rfl ?_
      refine J_isub (nx := 61) dX0_open_60 rfl ?_
      refine J_bipush (nx := 63) (i := 32) (v := 32) (by decide) dX0_open_61 rfl ?_
      refine J_imul (nx := 64) dX0_open_63 rfl ?_
      refine J_aload_n (nx := 65) dX0_open_64 rfl rfl ?_
      refine Jg_40_13 (nx := 68) dX0_open_65 rfl fl_X0_80 ?_
      refine J_aload_n (nx := 69) dX0_open_68 rfl rfl ?_
      refine Jg_40_0 (nx := 72) dX0_open_69 rfl fl_X0_37 ?_
      refine Jg_20_16 (nx := 75) dX0_open_72 rfl fl_X0_93 ?_
      refine J_ineg (nx := 76) dX0_open_75 rfl ?_
      refine JcV5 (R' := rm 1 0 0) (nx := 79) dX0_open_76 rfl ml_X9_mix lk_X0_96 iv_X9_mix rfl rfl ⟨(Nat.le_of_ble_eq_true rfl), (Nat.le_of_ble_eq_true rfl)⟩ (Nat.le_of_ble_eq_true rfl) ⟨rfl, rfl⟩ (ct_mix _ 50 1952 _ _ _ _ _ rfl (by decide)) ?_
      refine J_istore (nx := 81) dX0_open_79 rfl rfl (Nat.le_of_ble_eq_true rfl) ?_
      refine J_aload_n (nx := 82) dX0_open_81 rfl rfl ?_
      refine Jg_40_4 (nx := 85) dX0_open_82 rfl fl_X0_25 ?_
      refine J_iload_n (nx := 86) dX0_open_85 rfl rfl ?_
      refine J_bipush (nx := 88) (i := 32) (v := 32) (by decide) dX0_open_86 rfl ?_
      refine J_imul (nx := 89) dX0_open_88 rfl ?_
      refine J_iload (nx := 91) dX0_open_89 rfl rfl ?_
      refine J_iadd (nx := 92) dX0_open_91 rfl ?_
      refine J_iload (nx := 94) dX0_open_92 rfl rfl ?_
      refine JcS3 (R' := rm 0 0 0) (nx := 97) dX0_open_94 rfl ml_X6_put lk_X0_41 st_X6_put ⟨(Nat.le_of_ble_eq_true rfl), (Nat.le_of_ble_eq_true rfl)⟩ (Nat.le_of_ble_eq_true rfl) ⟨rfl, rfl⟩ (ct_put _ 50 1952 _ _ rfl (fun _ => rfl) (by decide)) ?_
      refine J_iinc (nx := 100) dX0_open_97 rfl rfl rfl (Nat.le_of_ble_eq_true rfl) ?_
      refine J_goto (nx := 41) dX0_open_100 (by decide) ?_
      refine J_kill (nx := 0) 5 ?_
      exact ih2

set_option maxRecDepth 100000 in
set_option maxHeartbeats 4000000 in
theorem lp_open_in0 (t T : Nat) (g : GS) (m : Int32) (Q : Res → List ME → Prop) (n0 : Nat) (hK : J mX0_open (rm 4 0 0) Q n0 103 [some (.ref 40), some (.int m), some (.int (nI T)), some (.int (nI t)), some (.int (nI 32)), none] [] (Wd (itN (opS t) 32 g)) 0 0) : J mX0_open (rm 4 0 0) Q n0 41 [some (.ref 40), some (.int m), some (.int (nI T)), some (.int (nI t)), some (.int 0), none] [] (Wd g) 0 0 := lp_open_in t T g m Q n0 hK 33 0 (by omega) (by omega)

set_option maxRecDepth 100000 in
set_option maxHeartbeats 4000000 in
theorem lp_open (T : Nat) (hT : T < 2 ^ 30) (g : GS) (m : Int32) (Q : Res → List ME → Prop) (n0 : Nat) (hK : J mX0_open (rm 4 0 0) Q n0 109 [some (.ref 40), some (.int m), some (.int (nI T)), some (.int (nI (T + 1))), none, none] [] (Wd (itN opT T g)) 0 0) : ∀ (k i : Nat), i ≤ T → T + 1 ≤ i + k → J mX0_open (rm 4 0 0) Q n0 33 [some (.ref 40), some (.int m), some (.int (nI T)), some (.int (nI (i + 1))), none, none] [] (Wd (itN opT i g)) 0 0 := by
  intro k
  induction k with
  | zero => intro i h1 h2; exact absurd h2 (by omega)
  | succ k ih =>
    intro i h1 h2
    refine J_iload_n (nx := 34) dX0_open_33 rfl rfl ?_
    refine J_iload_n (nx := 35) dX0_open_34 rfl rfl ?_
    refine J_icmp_gt (nx := 38) (tgt := 109) dX0_open_35 rfl (by decide) (fun c_35 => ?_) (fun c_35 => ?_)
    · obtain rfl : i = T := by have := (nI_ltI (by omega) (by omega)).mp c_35; omega
      exact hK
    · have hi : i < T := by
        rcases Nat.lt_or_ge i T with h | h
        · exact h
        · exact absurd ((nI_ltI (by omega) (by omega)).mpr (show T < i + 1 by omega)) c_35
      have ih2 := ih (i + 1) (by omega) (by omega)
      rw [itN_s opT i g, ← nI_s (i + 1)] at ih2
      generalize itN opT i g = Y at ih2 ⊢
      rw [opT_e] at ih2
      refine J_iconst (nx := 39) (i := 0) (v := 0) (by decide) dX0_open_38 rfl ?_
      refine J_istore (nx := 41) dX0_open_39 rfl rfl (Nat.le_of_ble_eq_true rfl) ?_
      refine lp_open_in0 (i + 1) T _ m _ _ ?_
      generalize itN (opS (i + 1)) 32 Y = X at ih2 ⊢
      refine J_iinc (nx := 106) dX0_open_103 rfl rfl rfl (Nat.le_of_ble_eq_true rfl) ?_
      refine J_goto (nx := 33) dX0_open_106 (by decide) ?_
      refine J_kill (nx := 0) 4 ?_
      exact ih2
theorem lp_open0 (T : Nat) (hT : T < 2 ^ 30) (g : GS) (m : Int32) (Q : Res → List ME → Prop) (n0 : Nat) (hK : J mX0_open (rm 4 0 0) Q n0 109 [some (.ref 40), some (.int m), some (.int (nI T)), some (.int (nI (T + 1))), none, none] [] (Wd (itN opT T g)) 0 0) : J mX0_open (rm 4 0 0) Q n0 33 [some (.ref 40), some (.int m), some (.int (nI T)), some (.int 1), none, none] [] (Wd g) 0 0 := lp_open T hT g m Q n0 hK (T + 1) 0 (by omega) (by omega)

set_option maxRecDepth 100000 in
set_option maxHeartbeats 4000000 in
theorem ct_open (g : GS) (m : Int32) (T : Nat) (q : Option CD) (hq : GoalsAt g q) (hT : T < 2 ^ 30) : Ct mX0_open (rm 4 0 0) [.ref 40, .int m, .int (nI T)] (Wd g) (RR (.inl none) (opAll g m T q)) := by
  refine Ct.of (by decide +kernel) (Nat.le_of_ble_eq_true rfl) ?_
  show J _ _ _ _ 0 [some (.ref 40), some (.int m), some (.int (nI T)), none, none, none] [] _ 0 0
  refine J_aload_n (nx := 1) dX0_open_0 rfl rfl ?_
  refine J_aload_n (nx := 2) dX0_open_1 rfl rfl ?_
  refine J_iload_n (nx := 3) dX0_open_2 rfl rfl ?_
  refine JcV1 (R' := rm 3 0 0) (nx := 6) dX0_open_3 rfl ml_X0_goalWorthAt lk_X0_76 iv_X0_goalWorthAt rfl rfl ⟨(Nat.le_of_ble_eq_true rfl), (Nat.le_of_ble_eq_true rfl)⟩ (Nat.le_of_ble_eq_true rfl) ⟨rfl, rfl⟩ (ct_gw _ _ q hq) ?_
  refine J.gen (fun g_3 hg_3 => ?_)
  refine Jp_40_13 (nx := 9) dX0_open_6 rfl fl_X0_80 ?_
  refine J.gen (fun g_6 hg_6 => ?_)
  refine J_aload_n (nx := 10) dX0_open_9 rfl rfl ?_
  refine J_aload_n (nx := 11) dX0_open_10 rfl rfl ?_
  refine Jg_40_0 (nx := 14) dX0_open_11 rfl fl_X0_37 ?_
  refine Jg_20_12 (nx := 17) dX0_open_14 rfl fl_X0_83 ?_
  refine Jp_40_12 (nx := 20) dX0_open_17 rfl fl_X0_86 ?_
  refine J.gen (fun g_17 hg_17 => ?_)
  refine J_aload_n (nx := 21) dX0_open_20 rfl rfl ?_
  refine Jg_40_1 (nx := 24) dX0_open_21 rfl fl_X0_12 ?_
  refine J_aload_n (nx := 25) dX0_open_24 rfl rfl ?_
  refine Jg_40_0 (nx := 28) dX0_open_25 rfl fl_X0_37 ?_
  refine JcV1 (R' := rm 3 0 0) (nx := 31) dX0_open_28 rfl ml_X9_read lk_X0_89 iv_X9_read rfl rfl ⟨(Nat.le_of_ble_eq_true rfl), (Nat.le_of_ble_eq_true rfl)⟩ (Nat.le_of_ble_eq_true rfl) ⟨rfl, rfl⟩ (ct_read _) ?_
  refine J.gen (fun g_28 hg_28 => ?_)
  refine J_iconst (nx := 32) (i := 1) (v := 1) (by decide) dX0_open_31 rfl ?_
  refine J_istore_n (nx := 33) dX0_open_32 rfl rfl (Nat.le_of_ble_eq_true rfl) ?_
  have e : wrAll (op2 (op1 g m q)) = g_28 := by rw [hg_28, show op2 (op1 g m q) = g_17 from by rw [hg_17, hg_6, hg_3]; rfl]
  unfold opAll
  rw [e]
  refine lp_open0 T hT g_28 m _ _ ?_
  generalize itN opT T g_28 = Y
  exact Jrv dX0_open_109 rfl (Nat.zero_le _) (Nat.zero_le _) ⟨rfl, rfl⟩

