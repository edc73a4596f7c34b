theorem J.gen {M : MI} {R : Room} {Q : Res → List ME → Prop} {n0 pc : Nat} {L : List (Option Value)} {st : List Value} {g : GS} {k ks : Nat} (h : ∀ G, G = g → J M R Q n0 pc L st (Wd G) k ks) : J M R Q n0 pc L st (Wd g) k ks := h g rfl

set_option maxRecDepth 100000 in
set_option maxHeartbeats 4000000 in
theorem lp_read_in (s : Nat) (g : GS) (n : Int32) (Q : Res → List ME → Prop) (n0 : Nat) (hK : J mX9_read (rm 3 0 0) Q n0 72 [some (.ref 41), some (.ref 20), some (.int (itN (wrStep s) 32 (g, n)).2), some (.int (nI s)), some (.int (nI 32)), none] [] (Wd (itN (wrStep s) 32 (g, n)).1) 0 0) : ∀ (k w : Nat), w ≤ 32 → 32 + 1 ≤ w + k → J mX9_read (rm 3 0 0) Q n0 22 [some (.ref 41), some (.ref 20), some (.int (itN (wrStep s) w (g, n)).2), some (.int (nI s)), some (.int (nI w)), none] [] (Wd (itN (wrStep s) w (g, n)).1) 0 0 := by
  intro k
  induction k with
  | zero => intro w h1 h2; exact absurd h2 (by omega)
  | succ k ih =>
    intro w h1 h2
    refine J_iload (nx := 24) dX9_read_22 rfl rfl ?_
    refine J_bipush (nx := 26) (i := 32) (v := 32) (by decide) dX9_read_24 rfl ?_
    refine J_icmp_ge (nx := 29) (tgt := 72) dX9_read_26 rfl (by decide) (fun c_26 => ?_) (fun c_26 => ?_)
    · obtain rfl : w = 32 := cge h1 (by omega) c_26
      exact hK
    · have hw : w < 32 := clt h1 (by omega) c_26
      have ih2 := ih (w + 1) (by omega) (by omega)
      rw [← nI_s w, show itN (wrStep s) (w + 1) (g, n) = wrStep s w (itN (wrStep s) w (g, n)) from rfl] at ih2
      generalize itN (wrStep s) w (g, n) = q at ih2 ⊢
      refine J_aload_n (nx := 30) dX9_read_29 rfl rfl ?_
      refine J_iload_n (nx := 31) dX9_read_30 rfl rfl ?_
      refine J_iload (nx := 33) dX9_read_31 rfl rfl ?_
      refine JcV2 (R' := rm 1 0 0) (nx := 36) dX9_read_33 rfl ml_X1_chance lk_X9_36 iv_X1_chance rfl rfl ⟨(Nat.le_of_ble_eq_true rfl), (Nat.le_of_ble_eq_true rfl)⟩ (Nat.le_of_ble_eq_true rfl) ⟨rfl, rfl⟩ (ct_X1_chance_20 _ _ _) ?_
      refine J_istore (nx := 38) dX9_read_36 rfl rfl (Nat.le_of_ble_eq_true rfl) ?_
      refine J_iload (nx := 40) dX9_read_38 rfl rfl ?_
      refine J_if_le (nx := 43) (tgt := 66) dX9_read_40 rfl (by decide) (fun c_40 => ?_) (fun c_40 => ?_)
      · refine J_iinc (nx := 69) dX9_read_66 rfl rfl rfl (Nat.le_of_ble_eq_true rfl) ?_
        refine J_goto (nx := 22) dX9_read_69 (by decide) ?_
        refine J_kill (nx := 0) 5 ?_
        first
          | rw [show wrStep s w q = q from if_pos c_40] at ih2
          | rw [show wrStep s w q = (sA (sA q.1 42 (rPut 144 (gA q.1 42) q.2 (nI w))) 43 (rPut 144 (gA q.1 43) q.2 (bk_ch q.1 20 (nI s) (nI w))), q.2 + Int32.ofInt 1) from if_neg c_40] at ih2
        exact ih2
      · refine J_aload_n (nx := 44) dX9_read_43 rfl rfl ?_
        refine Jg_41_0 (nx := 47) dX9_read_44 rfl fl_X9_9 ?_
        refine J_iload_n (nx := 48) dX9_read_47 rfl rfl ?_
        refine J_iload (nx := 50) dX9_read_48 rfl rfl ?_
        refine JcS3 (R' := rm 0 0 0) (nx := 53) dX9_read_50 rfl ml_X6_put lk_X9_30 st_X6_put ⟨(Nat.le_of_ble_eq_true rfl), (Nat.le_of_ble_eq_true rfl)⟩ (Nat.le_of_ble_eq_true rfl) ⟨rfl, rfl⟩ (ct_put _ 42 144 _ _ rfl (fun _ => rfl) (by decide)) ?_
        refine J_aload_n (nx := 54) dX9_read_53 rfl rfl ?_
        refine Jg_41_1 (nx := 57) dX9_read_54 rfl fl_X9_15 ?_
        refine J_iload_n (nx := 58) dX9_read_57 rfl rfl ?_
        refine J_iload (nx := 60) dX9_read_58 rfl rfl ?_
        refine JcS3 (R' := rm 0 0 0) (nx := 63) dX9_read_60 rfl ml_X6_put lk_X9_30 st_X6_put ⟨(Nat.le_of_ble_eq_true rfl), (Nat.le_of_ble_eq_true rfl)⟩ (Nat.le_of_ble_eq_true rfl) ⟨rfl, rfl⟩ (ct_put _ 43 144 _ _ rfl (fun _ => rfl) (by decide)) ?_
        refine J_iinc (nx := 66) dX9_read_63 rfl rfl rfl (Nat.le_of_ble_eq_true rfl) ?_
        refine J_iinc (nx := 69) dX9_read_66 rfl rfl rfl (Nat.le_of_ble_eq_true rfl) ?_
        refine J_goto (nx := 22) dX9_read_69 (by decide) ?_
        refine J_kill (nx := 0) 5 ?_
        first
          | rw [show wrStep s w q = q from if_pos c_40] at ih2
          | rw [show wrStep s w q = (sA (sA q.1 42 (rPut 144 (gA q.1 42) q.2 (nI w))) 43 (rPut 144 (gA q.1 43) q.2 (bk_ch q.1 20 (nI s) (nI w))), q.2 + Int32.ofInt 1) from if_neg c_40] at ih2
        exact ih2

set_option maxRecDepth 100000 in
set_option maxHeartbeats 4000000 in
theorem lp_read_in0 (s : Nat) (g : GS) (n : Int32) (Q : Res → List ME → Prop) (n0 : Nat) (hK : J mX9_read (rm 3 0 0) Q n0 72 [some (.ref 41), some (.ref 20), some (.int (itN (wrStep s) 32 (g, n)).2), some (.int (nI s)), some (.int (nI 32)), none] [] (Wd (itN (wrStep s) 32 (g, n)).1) 0 0) : J mX9_read (rm 3 0 0) Q n0 22 [some (.ref 41), some (.ref 20), some (.int n), some (.int (nI s)), some (.int 0), none] [] (Wd g) 0 0 := lp_read_in s g n Q n0 hK 33 0 (by omega) (by omega)

set_option maxRecDepth 100000 in
set_option maxHeartbeats 4000000 in
theorem lp_read (g : GS) (Q : Res → List ME → Prop) (n0 : Nat) (hK : J mX9_read (rm 3 0 0) Q n0 124 [some (.ref 41), some (.ref 20), some (.int (itN wrS 32 (g, 0)).2), some (.int (nI 32)), none, none] [] (Wd (itN wrS 32 (g, 0)).1) 0 0) : ∀ (k w : Nat), w ≤ 32 → 32 + 1 ≤ w + k → J mX9_read (rm 3 0 0) Q n0 4 [some (.ref 41), some (.ref 20), some (.int (itN wrS w (g, 0)).2), some (.int (nI w)), none, none] [] (Wd (itN wrS w (g, 0)).1) 0 0 := by
  intro k
  induction k with
  | zero => intro w h1 h2; exact absurd h2 (by omega)
  | succ k ih =>
    intro w h1 h2
    refine J_iload_n (nx := 5) dX9_read_4 rfl rfl ?_
    refine J_bipush (nx := 7) (i := 32) (v := 32) (by decide) dX9_read_5 rfl ?_
    refine J_icmp_ge (nx := 10) (tgt := 124) dX9_read_7 rfl (by decide) (fun c_7 => ?_) (fun c_7 => ?_)
    · obtain rfl : w = 32 := cge h1 (by omega) c_7
      exact hK
    · have hw : w < 32 := clt h1 (by omega) c_7
      have ih2 := ih (w + 1) (by omega) (by omega)
      rw [← nI_s w, show itN wrS (w + 1) (g, 0) = wrS w (itN wrS w (g, 0)) from rfl] at ih2
      generalize itN wrS w (g, 0) = q at ih2 ⊢
      refine J_aload_n (nx := 11) dX9_read_10 rfl rfl ?_
      refine Jg_41_2 (nx := 14) dX9_read_11 rfl fl_X9_18 ?_
      refine J_iload_n (nx := 15) dX9_read_14 rfl rfl ?_
      refine J_iload_n (nx := 16) dX9_read_15 rfl rfl ?_
      refine JcS3 (R' := rm 0 0 0) (nx := 19) dX9_read_16 rfl ml_X6_put lk_X9_30 st_X6_put ⟨(Nat.le_of_ble_eq_true rfl), (Nat.le_of_ble_eq_true rfl)⟩ (Nat.le_of_ble_eq_true rfl) ⟨rfl, rfl⟩ (ct_put _ 44 33 _ _ rfl (fun _ => rfl) (by decide)) ?_
      refine J_iconst (nx := 20) (i := 0) (v := 0) (by decide) dX9_read_19 rfl ?_
      refine J_istore (nx := 22) dX9_read_20 rfl rfl (Nat.le_of_ble_eq_true rfl) ?_
      rw [show wrS w q = wrS1 w (itN (wrStep w) 32 (wrS0 w q)) from rfl] at ih2
      refine lp_read_in0 w (sA q.1 44 (rPut 33 (gA q.1 44) (nI w) q.2)) q.2 _ _ ?_
      rw [show (sA q.1 44 (rPut 33 (gA q.1 44) (nI w) q.2), q.2) = wrS0 w q from rfl]
      generalize itN (wrStep w) 32 (wrS0 w q) = X at ih2 ⊢
      rw [show wrS1 w X = (wrP3 (wrP2 (wrP1 X.1 w) w) w, X.2) from rfl] at ih2
      dsimp only at ih2
      refine J_aload_n (nx := 73) dX9_read_72 rfl rfl ?_
      refine Jg_41_3 (nx := 76) dX9_read_73 rfl fl_X9_21 ?_
      refine J_iload_n (nx := 77) dX9_read_76 rfl rfl ?_
      refine J_aload_n (nx := 78) dX9_read_77 rfl rfl ?_
      refine J_iload_n (nx := 79) dX9_read_78 rfl rfl ?_
      refine J_bipush (nx := 81) (i := 32) (v := 32) (by decide) dX9_read_79 rfl ?_
      refine JcV2 (R' := rm 1 0 0) (nx := 84) dX9_read_81 rfl ml_X1_chance lk_X9_36 iv_X1_chance rfl rfl ⟨(Nat.le_of_ble_eq_true rfl), (Nat.le_of_ble_eq_true rfl)⟩ (Nat.le_of_ble_eq_true rfl) ⟨rfl, rfl⟩ (ct_X1_chance_20 _ _ _) ?_
      refine JcS3 (R' := rm 0 0 0) (nx := 87) dX9_read_84 rfl ml_X6_put lk_X9_30 st_X6_put ⟨(Nat.le_of_ble_eq_true rfl), (Nat.le_of_ble_eq_true rfl)⟩ (Nat.le_of_ble_eq_true rfl) ⟨rfl, rfl⟩ (ct_put _ 45 32 _ _ rfl (fun _ => rfl) (by decide)) ?_
      refine J.gen (fun g1 hg1 => ?_)
      refine J_aload_n (nx := 88) dX9_read_87 rfl rfl ?_
      refine Jg_41_4 (nx := 91) dX9_read_88 rfl fl_X9_24 ?_
      refine J_iload_n (nx := 92) dX9_read_91 rfl rfl ?_
      refine J_aload_n (nx := 93) dX9_read_92 rfl rfl ?_
      refine J_iload_n (nx := 94) dX9_read_93 rfl rfl ?_
      refine J_bipush (nx := 96) (i := 33) (v := 33) (by decide) dX9_read_94 rfl ?_
      refine JcV2 (R' := rm 1 0 0) (nx := 99) dX9_read_96 rfl ml_X1_chance lk_X9_36 iv_X1_chance rfl rfl ⟨(Nat.le_of_ble_eq_true rfl), (Nat.le_of_ble_eq_true rfl)⟩ (Nat.le_of_ble_eq_true rfl) ⟨rfl, rfl⟩ (ct_X1_chance_20 _ _ _) ?_
      refine JcS3 (R' := rm 0 0 0) (nx := 102) dX9_read_99 rfl ml_X6_put lk_X9_30 st_X6_put ⟨(Nat.le_of_ble_eq_true rfl), (Nat.le_of_ble_eq_true rfl)⟩ (Nat.le_of_ble_eq_true rfl) ⟨rfl, rfl⟩ (ct_put _ 46 32 _ _ rfl (fun _ => rfl) (by decide)) ?_
      refine J.gen (fun g2 hg2 => ?_)
      refine J_aload_n (nx := 103) dX9_read_102 rfl rfl ?_
      refine Jg_41_5 (nx := 106) dX9_read_103 rfl fl_X9_27 ?_
      refine J_iload_n (nx := 107) dX9_read_106 rfl rfl ?_
      refine J_bipush (nx := 109) (i := 100) (v := 100) (by decide) dX9_read_107 rfl ?_
      refine J_aload_n (nx := 110) dX9_read_109 rfl rfl ?_
      refine J_iload_n (nx := 111) dX9_read_110 rfl rfl ?_
      refine JcV1 (R' := rm 2 0 0) (nx := 114) dX9_read_111 rfl ml_X1_chancesTogether lk_X9_41 iv_X1_chancesTogether rfl rfl ⟨(Nat.le_of_ble_eq_true rfl), (Nat.le_of_ble_eq_true rfl)⟩ (Nat.le_of_ble_eq_true rfl) ⟨rfl, rfl⟩ (ct_X1_chancesTogether_20 _ _) ?_
      refine J_isub (nx := 115) dX9_read_114 rfl ?_
      refine JcS3 (R' := rm 0 0 0) (nx := 118) dX9_read_115 rfl ml_X6_put lk_X9_30 st_X6_put ⟨(Nat.le_of_ble_eq_true rfl), (Nat.le_of_ble_eq_true rfl)⟩ (Nat.le_of_ble_eq_true rfl) ⟨rfl, rfl⟩ (ct_put _ 47 32 _ _ rfl (fun _ => rfl) (by decide)) ?_
      refine J.gen (fun g3 hg3 => ?_)
      refine J_iinc (nx := 121) dX9_read_118 rfl rfl rfl (Nat.le_of_ble_eq_true rfl) ?_
      refine J_goto (nx := 4) dX9_read_121 (by decide) ?_
      refine J_kill (nx := 0) 4 ?_
      subst hg3
      subst hg2
      subst hg1
      exact ih2

set_option maxRecDepth 100000 in
set_option maxHeartbeats 4000000 in
theorem ct_read (g : GS) : Ct mX9_read (rm 3 0 0) [.ref 41, .ref 20] (Wd g) (RR (.inl none) (wrAll g)) := by
  refine Ct.of (by decide +kernel) (Nat.le_of_ble_eq_true rfl) ?_
  show J _ _ _ _ 0 [some (.ref 41), some (.ref 20), none, none, none, none] [] _ 0 0
  refine J_iconst (nx := 1) (i := 0) (v := 0) (by decide) dX9_read_0 rfl ?_
  refine J_istore_n (nx := 2) dX9_read_1 rfl rfl (Nat.le_of_ble_eq_true rfl) ?_
  refine J_iconst (nx := 3) (i := 0) (v := 0) (by decide) dX9_read_2 rfl ?_
  refine J_istore_n (nx := 4) dX9_read_3 rfl rfl (Nat.le_of_ble_eq_true rfl) ?_
  refine lp_read g _ _ ?_ 33 0 (by omega) (by omega)
  unfold wrAll
  generalize itN wrS 32 (g, 0) = q
  refine J_aload_n (nx := 125) dX9_read_124 rfl rfl ?_
  refine Jg_41_2 (nx := 128) dX9_read_125 rfl fl_X9_18 ?_
  refine J_bipush (nx := 130) (i := 32) (v := 32) (by decide) dX9_read_128 rfl ?_
  refine J_iload_n (nx := 131) dX9_read_130 rfl rfl ?_
  refine JcS3 (R' := rm 0 0 0) (nx := 134) dX9_read_131 rfl ml_X6_put lk_X9_30 st_X6_put ⟨(Nat.le_of_ble_eq_true rfl), (Nat.le_of_ble_eq_true rfl)⟩ (Nat.le_of_ble_eq_true rfl) ⟨rfl, rfl⟩ (ct_put _ 44 33 _ _ rfl (fun _ => rfl) (by decide)) ?_
  exact Jrv dX9_read_134 rfl (Nat.zero_le _) (Nat.zero_le _) ⟨rfl, rfl⟩

