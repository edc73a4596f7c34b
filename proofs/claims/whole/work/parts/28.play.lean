
theorem ite_nn {α : Sort _} {c : Prop} [Decidable c] {a b : α} (h : c) : (if ¬ c then a else b) = b := if_neg (fun z => z h)
def plD (g : GS) (n : Nat) (st wt : Int32) : Int32 := if wt = 0 then 1 else deI g (nI n) st
def plR : Nat → Nat → Int32 → Int32 → GS → GS
  | 0, _, _, _, g => g
  | k + 1, n, st, wt, g =>
    if ¬ plD (sF g 58 9 (nI n)) n st wt = 0 then
      if ¬ nI n = gF (sF g 58 9 (nI n)) 20 13 then
        if drawnI (cdrG (sF g 58 9 (nI n))) st (cdrV (sF g 58 9 (nI n)) 100) < 32 then
          plR k (n + 1) (drawnI (cdrG (sF g 58 9 (nI n))) st (cdrV (sF g 58 9 (nI n)) 100)) (if ¬ plD (sF g 58 9 (nI n)) n st wt = 2 then 0 else 1) (cdrG (sF g 58 9 (nI n)))
        else sF (sF (cdrG (sF g 58 9 (nI n))) 58 9 (nI n + 1)) 58 8 (if ¬ drawnI (cdrG (sF g 58 9 (nI n))) st (cdrV (sF g 58 9 (nI n)) 100) = 32 then (if (if ¬ plD (sF g 58 9 (nI n)) n st wt = 2 then (0 : Int32) else 1) = 0 then 2 else 0) else 1)
      else sF g 58 9 (nI n)
    else sF (sF g 58 9 (nI n)) 58 8 0
theorem plS_stop {k n : Nat} {st wt d : Int32} {g : GS} (hd : plD (sF g 58 9 (nI n)) n st wt = d) (h : d = 0) : plR (k + 1) n st wt g = sF (sF g 58 9 (nI n)) 58 8 0 := by
  conv => lhs; unfold plR
  rw [hd, ite_nn h]
theorem plS_end {k n : Nat} {st wt d : Int32} {g g1 : GS} (e1 : sF g 58 9 (nI n) = g1) (hd : plD g1 n st wt = d) (h : ¬ d = 0) (h2 : nI n = gF g1 20 13) : plR (k + 1) n st wt g = g1 := by
  conv => lhs; unfold plR
  rw [e1, hd, if_pos h, ite_nn h2]
theorem plS_go {k n : Nat} {st wt d w' s' : Int32} {g g1 g2 : GS} (e1 : sF g 58 9 (nI n) = g1) (e2 : cdrG g1 = g2) (hd : plD g1 n st wt = d) (h : ¬ d = 0) (h2 : ¬ nI n = gF g1 20 13) (hs : drawnI g2 st (cdrV g1 100) = s') (h3 : s' < 32) (hw : (if ¬ d = 2 then (0 : Int32) else 1) = w') : plR (k + 1) n st wt g = plR k (n + 1) s' w' g2 := by
  conv => lhs; unfold plR
  rw [e1, e2, hd, if_pos h, if_pos h2, hs, if_pos h3, hw]
theorem plS_fin {k n : Nat} {st wt d w' s' c' : Int32} {g g1 g2 : GS} (e1 : sF g 58 9 (nI n) = g1) (e2 : cdrG g1 = g2) (hd : plD g1 n st wt = d) (h : ¬ d = 0) (h2 : ¬ nI n = gF g1 20 13) (hs : drawnI g2 st (cdrV g1 100) = s') (h3 : ¬ s' < 32) (hw : (if ¬ d = 2 then (0 : Int32) else 1) = w') (hc : (if ¬ s' = 32 then (if w' = 0 then (2 : Int32) else 0) else 1) = c') : plR (k + 1) n st wt g = sF (sF g2 58 9 (nI n + 1)) 58 8 c' := by
  conv => lhs; unfold plR
  rw [e1, e2, hd, if_pos h, if_pos h2, hs, if_neg h3, hw, hc]

set_option maxRecDepth 100000 in
set_option maxHeartbeats 4000000 in
theorem lp_play (T : Nat) (hT2 : T < 2 ^ 30) (b : Int32) (n0 : Nat) : ∀ (k n : Nat) (st wt : Int32) (g r : GS), gF g 20 13 = nI T → n ≤ T → T + 1 ≤ n + k → r = plR k n st wt g → J mX3_playFrom (rm 2 0 0) (RR (.inl none) r) n0 12 [some (.ref 58), some (.int b), some (.int st), some (.int wt), some (.int (nI n)), none] [] (Wd g) 0 0 := by
  intro k
  induction k with
  | zero => intro n st wt g r hT h1 h2; exact absurd h2 (by omega)
  | succ k ih =>
    intro n st wt g r hT h1 h2 hr
    refine J_iload (nx := 14) dX3_playFrom_12 rfl rfl ?_
    refine J_aload_n (nx := 15) dX3_playFrom_14 rfl rfl ?_
    refine Jg_58_0 (nx := 18) dX3_playFrom_15 rfl fl_X3_18 ?_
    refine Jg_20_13 (nx := 21) dX3_playFrom_18 rfl fl_X3_37 ?_
    refine J_icmp_gt (nx := 24) (tgt := 148) dX3_playFrom_21 rfl (by decide) (fun c_21 => ?_) (fun c_21 => ?_)
    · exact absurd (show nI T < nI n from by rw [hT] at c_21; exact c_21) (nI_nlt h1 (by omega))
    · refine J_aload_n (nx := 25) dX3_playFrom_24 rfl rfl ?_
      refine J_iload (nx := 27) dX3_playFrom_25 rfl rfl ?_
      refine Jp_58_9 (nx := 30) dX3_playFrom_27 rfl fl_X3_86 ?_
      refine J.gen (fun g_27 hg_27 => ?_)
      refine J_iload_n (nx := 31) dX3_playFrom_30 rfl rfl ?_
      refine J_if_eq (nx := 34) (tgt := 47) dX3_playFrom_31 rfl (by decide) (fun c_31 => ?_) (fun c_31 => ?_)
      · refine J_iconst (nx := 48) (i := 1) (v := 1) (by decide) dX3_playFrom_47 rfl ?_
        refine J_istore (nx := 50) dX3_playFrom_48 rfl rfl (Nat.le_of_ble_eq_true rfl) ?_
        refine J_iload (nx := 52) dX3_playFrom_50 rfl rfl ?_
        refine J_if_ne (nx := 55) (tgt := 61) dX3_playFrom_52 rfl (by decide) (fun c_52 => ?_) (fun c_52 => ?_)
        · refine J_iload (nx := 63) dX3_playFrom_61 rfl rfl ?_
          refine J_iconst (nx := 64) (i := 2) (v := 2) (by decide) dX3_playFrom_63 rfl ?_
          refine J_icmp_ne (nx := 67) (tgt := 71) dX3_playFrom_64 rfl (by decide) (fun c_64 => ?_) (fun c_64 => ?_)
          · refine J_iconst (nx := 72) (i := 0) (v := 0) (by decide) dX3_playFrom_71 rfl ?_
            refine J_istore_n (nx := 73) dX3_playFrom_72 rfl rfl (Nat.le_of_ble_eq_true rfl) ?_
            refine J_iload (nx := 75) dX3_playFrom_73 rfl rfl ?_
            refine J_aload_n (nx := 76) dX3_playFrom_75 rfl rfl ?_
            refine Jg_58_0 (nx := 79) dX3_playFrom_76 rfl fl_X3_18 ?_
            refine Jg_20_13 (nx := 82) dX3_playFrom_79 rfl fl_X3_37 ?_
            refine J_icmp_ne (nx := 85) (tgt := 86) dX3_playFrom_82 rfl (by decide) (fun c_82 => ?_) (fun c_82 => ?_)
            · refine J_aload_n (nx := 87) dX3_playFrom_86 rfl rfl ?_
              refine Jg_58_1 (nx := 90) dX3_playFrom_87 rfl fl_X3_22 ?_
              refine Jg_40_1 (nx := 93) dX3_playFrom_90 rfl fl_X3_42 ?_
              refine J_iload_n (nx := 94) dX3_playFrom_93 rfl rfl ?_
              refine J_aload_n (nx := 95) dX3_playFrom_94 rfl rfl ?_
              refine J_bipush (nx := 97) (i := 100) (v := 100) (by decide) dX3_playFrom_95 rfl ?_
              refine JcV1 (R' := rm 0 0 0) (nx := 100) dX3_playFrom_97 rfl ml_X3_draw lk_X3_89 iv_X3_draw rfl rfl ⟨(Nat.le_of_ble_eq_true rfl), (Nat.le_of_ble_eq_true rfl)⟩ (Nat.le_of_ble_eq_true rfl) ⟨rfl, rfl⟩ (ct_draw _ _) ?_
              refine J.gen (fun g_97 hg_97 => ?_)
              refine JcV2 (R' := rm 1 0 0) (nx := 103) dX3_playFrom_100 rfl ml_X9_drawn lk_X3_93 iv_X9_drawn rfl rfl ⟨(Nat.le_of_ble_eq_true rfl), (Nat.le_of_ble_eq_true rfl)⟩ (Nat.le_of_ble_eq_true rfl) ⟨rfl, rfl⟩ (ct_drawn _ _ _) ?_
              refine J_istore_n (nx := 104) dX3_playFrom_103 rfl rfl (Nat.le_of_ble_eq_true rfl) ?_
              refine J_iload_n (nx := 105) dX3_playFrom_104 rfl rfl ?_
              refine J_bipush (nx := 107) (i := 32) (v := 32) (by decide) dX3_playFrom_105 rfl ?_
              refine J_icmp_lt (nx := 110) (tgt := 142) dX3_playFrom_107 rfl (by decide) (fun c_107 => ?_) (fun c_107 => ?_)
              · refine J_iinc (nx := 145) dX3_playFrom_142 rfl rfl rfl (Nat.le_of_ble_eq_true rfl) ?_
                refine J_goto (nx := 12) dX3_playFrom_145 (by decide) ?_
                rw [plS_go hg_27.symm hg_97.symm (by first | exact if_pos c_31 | exact if_neg c_31) c_52 c_82 rfl c_107 (by first | exact if_pos c_64 | exact ite_nn c_64)] at hr
                refine J_kill (nx := 0) 5 ?_
                show J _ _ _ _ 12 [some (.ref 58), some (.int b), some (.int _), some (.int _), some (.int (nI n + Int32.ofInt 1)), none] [] _ 0 0
                rw [nI_s]
                have hnT : ¬ n = T := fun z => c_82 (by rw [z, hg_27]; exact hT.symm)
                have hT9 : gF g_97 20 13 = nI T := by rw [hg_97, hg_27]; exact hT
                exact ih (n + 1) _ _ g_97 r hT9 (by omega) (by omega) hr
              · refine J_aload_n (nx := 111) dX3_playFrom_110 rfl rfl ?_
                refine J_iload (nx := 113) dX3_playFrom_111 rfl rfl ?_
                refine J_iconst (nx := 114) (i := 1) (v := 1) (by decide) dX3_playFrom_113 rfl ?_
                refine J_iadd (nx := 115) dX3_playFrom_114 rfl ?_
                refine Jp_58_9 (nx := 118) dX3_playFrom_115 rfl fl_X3_86 ?_
                refine J.gen (fun g_115 hg_115 => ?_)
                refine J_aload_n (nx := 119) dX3_playFrom_118 rfl rfl ?_
                refine J_iload_n (nx := 120) dX3_playFrom_119 rfl rfl ?_
                refine J_bipush (nx := 122) (i := 32) (v := 32) (by decide) dX3_playFrom_120 rfl ?_
                refine J_icmp_ne (nx := 125) (tgt := 129) dX3_playFrom_122 rfl (by decide) (fun c_122 => ?_) (fun c_122 => ?_)
                · refine J_iload_n (nx := 130) dX3_playFrom_129 rfl rfl ?_
                  refine J_if_eq (nx := 133) (tgt := 137) dX3_playFrom_130 rfl (by decide) (fun c_130 => ?_) (fun c_130 => ?_)
                  · refine J_iconst (nx := 138) (i := 2) (v := 2) (by decide) dX3_playFrom_137 rfl ?_
                    refine Jp_58_8 (nx := 141) dX3_playFrom_138 rfl fl_X3_83 ?_
                    refine J.gen (fun g_138 hg_138 => ?_)
                    rw [plS_fin hg_27.symm hg_97.symm (by first | exact if_pos c_31 | exact if_neg c_31) c_52 c_82 rfl c_107 (by first | exact if_pos c_64 | exact ite_nn c_64) (by first | exact ite_nn c_122 | exact (if_pos c_122).trans (if_pos c_130) | exact (if_pos c_122).trans (if_neg c_130))] at hr
                    rw [hg_138, hg_115]
                    exact Jrv dX3_playFrom_141 rfl (Nat.zero_le _) (Nat.zero_le _) ⟨rfl, by rw [hr]⟩
                  · refine J_iconst (nx := 134) (i := 0) (v := 0) (by decide) dX3_playFrom_133 rfl ?_
                    refine J_goto (nx := 138) dX3_playFrom_134 (by decide) ?_
                    refine Jp_58_8 (nx := 141) dX3_playFrom_138 rfl fl_X3_83 ?_
                    refine J.gen (fun g_138 hg_138 => ?_)
                    rw [plS_fin hg_27.symm hg_97.symm (by first | exact if_pos c_31 | exact if_neg c_31) c_52 c_82 rfl c_107 (by first | exact if_pos c_64 | exact ite_nn c_64) (by first | exact ite_nn c_122 | exact (if_pos c_122).trans (if_pos c_130) | exact (if_pos c_122).trans (if_neg c_130))] at hr
                    rw [hg_138, hg_115]
                    exact Jrv dX3_playFrom_141 rfl (Nat.zero_le _) (Nat.zero_le _) ⟨rfl, by rw [hr]⟩
                · refine J_iconst (nx := 126) (i := 1) (v := 1) (by decide) dX3_playFrom_125 rfl ?_
                  refine J_goto (nx := 138) dX3_playFrom_126 (by decide) ?_
                  refine Jp_58_8 (nx := 141) dX3_playFrom_138 rfl fl_X3_83 ?_
                  refine J.gen (fun g_138 hg_138 => ?_)
                  rw [plS_fin hg_27.symm hg_97.symm (by first | exact if_pos c_31 | exact if_neg c_31) c_52 c_82 rfl c_107 (by first | exact if_pos c_64 | exact ite_nn c_64) (by first | exact ite_nn c_122 | exact (if_pos c_122).trans (if_pos c_130) | exact (if_pos c_122).trans (if_neg c_130))] at hr
                  rw [hg_138, hg_115]
                  exact Jrv dX3_playFrom_141 rfl (Nat.zero_le _) (Nat.zero_le _) ⟨rfl, by rw [hr]⟩
            · rw [plS_end hg_27.symm (by first | exact if_pos c_31 | exact if_neg c_31) c_52 c_82] at hr
              exact Jrv dX3_playFrom_85 rfl (Nat.zero_le _) (Nat.zero_le _) ⟨rfl, by rw [hr]⟩
          · refine J_iconst (nx := 68) (i := 1) (v := 1) (by decide) dX3_playFrom_67 rfl ?_
            refine J_goto (nx := 72) dX3_playFrom_68 (by decide) ?_
            refine J_istore_n (nx := 73) dX3_playFrom_72 rfl rfl (Nat.le_of_ble_eq_true rfl) ?_
            refine J_iload (nx := 75) dX3_playFrom_73 rfl rfl ?_
            refine J_aload_n (nx := 76) dX3_playFrom_75 rfl rfl ?_
            refine Jg_58_0 (nx := 79) dX3_playFrom_76 rfl fl_X3_18 ?_
            refine Jg_20_13 (nx := 82) dX3_playFrom_79 rfl fl_X3_37 ?_
            refine J_icmp_ne (nx := 85) (tgt := 86) dX3_playFrom_82 rfl (by decide) (fun c_82 => ?_) (fun c_82 => ?_)
            · refine J_aload_n (nx := 87) dX3_playFrom_86 rfl rfl ?_
              refine Jg_58_1 (nx := 90) dX3_playFrom_87 rfl fl_X3_22 ?_
              refine Jg_40_1 (nx := 93) dX3_playFrom_90 rfl fl_X3_42 ?_
              refine J_iload_n (nx := 94) dX3_playFrom_93 rfl rfl ?_
              refine J_aload_n (nx := 95) dX3_playFrom_94 rfl rfl ?_
              refine J_bipush (nx := 97) (i := 100) (v := 100) (by decide) dX3_playFrom_95 rfl ?_
              refine JcV1 (R' := rm 0 0 0) (nx := 100) dX3_playFrom_97 rfl ml_X3_draw lk_X3_89 iv_X3_draw rfl rfl ⟨(Nat.le_of_ble_eq_true rfl), (Nat.le_of_ble_eq_true rfl)⟩ (Nat.le_of_ble_eq_true rfl) ⟨rfl, rfl⟩ (ct_draw _ _) ?_
              refine J.gen (fun g_97 hg_97 => ?_)
              refine JcV2 (R' := rm 1 0 0) (nx := 103) dX3_playFrom_100 rfl ml_X9_drawn lk_X3_93 iv_X9_drawn rfl rfl ⟨(Nat.le_of_ble_eq_true rfl), (Nat.le_of_ble_eq_true rfl)⟩ (Nat.le_of_ble_eq_true rfl) ⟨rfl, rfl⟩ (ct_drawn _ _ _) ?_
              refine J_istore_n (nx := 104) dX3_playFrom_103 rfl rfl (Nat.le_of_ble_eq_true rfl) ?_
              refine J_iload_n (nx := 105) dX3_playFrom_104 rfl rfl ?_
              refine J_bipush (nx := 107) (i := 32) (v := 32) (by decide) dX3_playFrom_105 rfl ?_
              refine J_icmp_lt (nx := 110) (tgt := 142) dX3_playFrom_107 rfl (by decide) (fun c_107 => ?_) (fun c_107 => ?_)
              · refine J_iinc (nx := 145) dX3_playFrom_142 rfl rfl rfl (Nat.le_of_ble_eq_true rfl) ?_
                refine J_goto (nx := 12) dX3_playFrom_145 (by decide) ?_
                rw [plS_go hg_27.symm hg_97.symm (by first | exact if_pos c_31 | exact if_neg c_31) c_52 c_82 rfl c_107 (by first | exact if_pos c_64 | exact ite_nn c_64)] at hr
                refine J_kill (nx := 0) 5 ?_
                show J _ _ _ _ 12 [some (.ref 58), some (.int b), some (.int _), some (.int _), some (.int (nI n + Int32.ofInt 1)), none] [] _ 0 0
                rw [nI_s]
                have hnT : ¬ n = T := fun z => c_82 (by rw [z, hg_27]; exact hT.symm)
                have hT9 : gF g_97 20 13 = nI T := by rw [hg_97, hg_27]; exact hT
                exact ih (n + 1) _ _ g_97 r hT9 (by omega) (by omega) hr
              · refine J_aload_n (nx := 111) dX3_playFrom_110 rfl rfl ?_
                refine J_iload (nx := 113) dX3_playFrom_111 rfl rfl ?_
                refine J_iconst (nx := 114) (i := 1) (v := 1) (by decide) dX3_playFrom_113 rfl ?_
                refine J_iadd (nx := 115) dX3_playFrom_114 rfl ?_
                refine Jp_58_9 (nx := 118) dX3_playFrom_115 rfl fl_X3_86 ?_
                refine J.gen (fun g_115 hg_115 => ?_)
                refine J_aload_n (nx := 119) dX3_playFrom_118 rfl rfl ?_
                refine J_iload_n (nx := 120) dX3_playFrom_119 rfl rfl ?_
                refine J_bipush (nx := 122) (i := 32) (v := 32) (by decide) dX3_playFrom_120 rfl ?_
                refine J_icmp_ne (nx := 125) (tgt := 129) dX3_playFrom_122 rfl (by decide) (fun c_122 => ?_) (fun c_122 => ?_)
                · refine J_iload_n (nx := 130) dX3_playFrom_129 rfl rfl ?_
                  refine J_if_eq (nx := 133) (tgt := 137) dX3_playFrom_130 rfl (by decide) (fun c_130 => ?_) (fun c_130 => ?_)
                  · refine J_iconst (nx := 138) (i := 2) (v := 2) (by decide) dX3_playFrom_137 rfl ?_
                    refine Jp_58_8 (nx := 141) dX3_playFrom_138 rfl fl_X3_83 ?_
                    refine J.gen (fun g_138 hg_138 => ?_)
                    rw [plS_fin hg_27.symm hg_97.symm (by first | exact if_pos c_31 | exact if_neg c_31) c_52 c_82 rfl c_107 (by first | exact if_pos c_64 | exact ite_nn c_64) (by first | exact ite_nn c_122 | exact (if_pos c_122).trans (if_pos c_130) | exact (if_pos c_122).trans (if_neg c_130))] at hr
                    rw [hg_138, hg_115]
                    exact Jrv dX3_playFrom_141 rfl (Nat.zero_le _) (Nat.zero_le _) ⟨rfl, by rw [hr]⟩
                  · refine J_iconst (nx := 134) (i := 0) (v := 0) (by decide) dX3_playFrom_133 rfl ?_
                    refine J_goto (nx := 138) dX3_playFrom_134 (by decide) ?_
                    refine Jp_58_8 (nx := 141) dX3_playFrom_138 rfl fl_X3_83 ?_
                    refine J.gen (fun g_138 hg_138 => ?_)
                    rw [plS_fin hg_27.symm hg_97.symm (by first | exact if_pos c_31 | exact if_neg c_31) c_52 c_82 rfl c_107 (by first | exact if_pos c_64 | exact ite_nn c_64) (by first | exact ite_nn c_122 | exact (if_pos c_122).trans (if_pos c_130) | exact (if_pos c_122).trans (if_neg c_130))] at hr
                    rw [hg_138, hg_115]
                    exact Jrv dX3_playFrom_141 rfl (Nat.zero_le _) (Nat.zero_le _) ⟨rfl, by rw [hr]⟩
                · refine J_iconst (nx := 126) (i := 1) (v := 1) (by decide) dX3_playFrom_125 rfl ?_
                  refine J_goto (nx := 138) dX3_playFrom_126 (by decide) ?_
                  refine Jp_58_8 (nx := 141) dX3_playFrom_138 rfl fl_X3_83 ?_
                  refine J.gen (fun g_138 hg_138 => ?_)
                  rw [plS_fin hg_27.symm hg_97.symm (by first | exact if_pos c_31 | exact if_neg c_31) c_52 c_82 rfl c_107 (by first | exact if_pos c_64 | exact ite_nn c_64) (by first | exact ite_nn c_122 | exact (if_pos c_122).trans (if_pos c_130) | exact (if_pos c_122).trans (if_neg c_130))] at hr
                  rw [hg_138, hg_115]
                  exact Jrv dX3_playFrom_141 rfl (Nat.zero_le _) (Nat.zero_le _) ⟨rfl, by rw [hr]⟩
            · rw [plS_end hg_27.symm (by first | exact if_pos c_31 | exact if_neg c_31) c_52 c_82] at hr
              exact Jrv dX3_playFrom_85 rfl (Nat.zero_le _) (Nat.zero_le _) ⟨rfl, by rw [hr]⟩
        · refine J_aload_n (nx := 56) dX3_playFrom_55 rfl rfl ?_
          refine J_iconst (nx := 57) (i := 0) (v := 0) (by decide) dX3_playFrom_56 rfl ?_
          refine Jp_58_8 (nx := 60) dX3_playFrom_57 rfl fl_X3_83 ?_
          refine J.gen (fun g_57 hg_57 => ?_)
          rw [plS_stop (show plD (sF g 58 9 (nI n)) n st wt = _ from by rw [← hg_27]; first | exact if_pos c_31 | exact if_neg c_31) c_52] at hr
          subst hg_57
          subst hg_27
          exact Jrv dX3_playFrom_60 rfl (Nat.zero_le _) (Nat.zero_le _) ⟨rfl, by rw [hr]⟩
      · refine J_aload_n (nx := 35) dX3_playFrom_34 rfl rfl ?_
        refine Jg_58_1 (nx := 38) dX3_playFrom_35 rfl fl_X3_22 ?_
        refine J_iload (nx := 40) dX3_playFrom_38 rfl rfl ?_
        refine J_iload_n (nx := 41) dX3_playFrom_40 rfl rfl ?_
        refine JcV2 (R' := rm 1 0 0) (nx := 44) dX3_playFrom_41 rfl ml_X0_deedAt lk_X3_72 iv_X0_deedAt rfl rfl ⟨(Nat.le_of_ble_eq_true rfl), (Nat.le_of_ble_eq_true rfl)⟩ (Nat.le_of_ble_eq_true rfl) ⟨rfl, rfl⟩ (ct_deedAt _ _ _) ?_
        refine J_goto (nx := 48) dX3_playFrom_44 (by decide) ?_
        refine J_istore (nx := 50) dX3_playFrom_48 rfl rfl (Nat.le_of_ble_eq_true rfl) ?_
        refine J_iload (nx := 52) dX3_playFrom_50 rfl rfl ?_
        refine J_if_ne (nx := 55) (tgt := 61) dX3_playFrom_52 rfl (by decide) (fun c_52 => ?_) (fun c_52 => ?_)
        · refine J_iload (nx := 63) dX3_playFrom_61 rfl rfl ?_
          refine J_iconst (nx := 64) (i := 2) (v := 2) (by decide) dX3_playFrom_63 rfl ?_
          refine J_icmp_ne (nx := 67) (tgt := 71) dX3_playFrom_64 rfl (by decide) (fun c_64 => ?_) (fun c_64 => ?_)
          · refine J_iconst (nx := 72) (i := 0) (v := 0) (by decide) dX3_playFrom_71 rfl ?_
            refine J_istore_n (nx := 73) dX3_playFrom_72 rfl rfl (Nat.le_of_ble_eq_true rfl) ?_
            refine J_iload (nx := 75) dX3_playFrom_73 rfl rfl ?_
            refine J_aload_n (nx := 76) dX3_playFrom_75 rfl rfl ?_
            refine Jg_58_0 (nx := 79) dX3_playFrom_76 rfl fl_X3_18 ?_
            refine Jg_20_13 (nx := 82) dX3_playFrom_79 rfl fl_X3_37 ?_
            refine J_icmp_ne (nx := 85) (tgt := 86) dX3_playFrom_82 rfl (by decide) (fun c_82 => ?_) (fun c_82 => ?_)
            · refine J_aload_n (nx := 87) dX3_playFrom_86 rfl rfl ?_
              refine Jg_58_1 (nx := 90) dX3_playFrom_87 rfl fl_X3_22 ?_
              refine Jg_40_1 (nx := 93) dX3_playFrom_90 rfl fl_X3_42 ?_
              refine J_iload_n (nx := 94) dX3_playFrom_93 rfl rfl ?_
              refine J_aload_n (nx := 95) dX3_playFrom_94 rfl rfl ?_
              refine J_bipush (nx := 97) (i := 100) (v := 100) (by decide) dX3_playFrom_95 rfl ?_
              refine JcV1 (R' := rm 0 0 0) (nx := 100) dX3_playFrom_97 rfl ml_X3_draw lk_X3_89 iv_X3_draw rfl rfl ⟨(Nat.le_of_ble_eq_true rfl), (Nat.le_of_ble_eq_true rfl)⟩ (Nat.le_of_ble_eq_true rfl) ⟨rfl, rfl⟩ (ct_draw _ _) ?_
              refine J.gen (fun g_97 hg_97 => ?_)
              refine JcV2 (R' := rm 1 0 0) (nx := 103) dX3_playFrom_100 rfl ml_X9_drawn lk_X3_93 iv_X9_drawn rfl rfl ⟨(Nat.le_of_ble_eq_true rfl), (Nat.le_of_ble_eq_true rfl)⟩ (Nat.le_of_ble_eq_true rfl) ⟨rfl, rfl⟩ (ct_drawn _ _ _) ?_
              refine J_istore_n (nx := 104) dX3_playFrom_103 rfl rfl (Nat.le_of_ble_eq_true rfl) ?_
              refine J_iload_n (nx := 105) dX3_playFrom_104 rfl rfl ?_
              refine J_bipush (nx := 107) (i := 32) (v := 32) (by decide) dX3_playFrom_105 rfl ?_
              refine J_icmp_lt (nx := 110) (tgt := 142) dX3_playFrom_107 rfl (by decide) (fun c_107 => ?_) (fun c_107 => ?_)
              · refine J_iinc (nx := 145) dX3_playFrom_142 rfl rfl rfl (Nat.le_of_ble_eq_true rfl) ?_
                refine J_goto (nx := 12) dX3_playFrom_145 (by decide) ?_
                rw [plS_go hg_27.symm hg_97.symm (by first | exact if_pos c_31 | exact if_neg c_31) c_52 c_82 rfl c_107 (by first | exact if_pos c_64 | exact ite_nn c_64)] at hr
                refine J_kill (nx := 0) 5 ?_
                show J _ _ _ _ 12 [some (.ref 58), some (.int b), some (.int _), some (.int _), some (.int (nI n + Int32.ofInt 1)), none] [] _ 0 0
                rw [nI_s]
                have hnT : ¬ n = T := fun z => c_82 (by rw [z, hg_27]; exact hT.symm)
                have hT9 : gF g_97 20 13 = nI T := by rw [hg_97, hg_27]; exact hT
                exact ih (n + 1) _ _ g_97 r hT9 (by omega) (by omega) hr
              · refine J_aload_n (nx := 111) dX3_playFrom_110 rfl rfl ?_
                refine J_iload (nx := 113) dX3_playFrom_111 rfl rfl ?_
                refine J_iconst (nx := 114) (i := 1) (v := 1) (by decide) dX3_playFrom_113 rfl ?_
                refine J_iadd (nx := 115) dX3_playFrom_114 rfl ?_
                refine Jp_58_9 (nx := 118) dX3_playFrom_115 rfl fl_X3_86 ?_
                refine J.gen (fun g_115 hg_115 => ?_)
                refine J_aload_n (nx := 119) dX3_playFrom_118 rfl rfl ?_
                refine J_iload_n (nx := 120) dX3_playFrom_119 rfl rfl ?_
                refine J_bipush (nx := 122) (i := 32) (v := 32) (by decide) dX3_playFrom_120 rfl ?_
                refine J_icmp_ne (nx := 125) (tgt := 129) dX3_playFrom_122 rfl (by decide) (fun c_122 => ?_) (fun c_122 => ?_)
                · refine J_iload_n (nx := 130) dX3_playFrom_129 rfl rfl ?_
                  refine J_if_eq (nx := 133) (tgt := 137) dX3_playFrom_130 rfl (by decide) (fun c_130 => ?_) (fun c_130 => ?_)
                  · refine J_iconst (nx := 138) (i := 2) (v := 2) (by decide) dX3_playFrom_137 rfl ?_
                    refine Jp_58_8 (nx := 141) dX3_playFrom_138 rfl fl_X3_83 ?_
                    refine J.gen (fun g_138 hg_138 => ?_)
                    rw [plS_fin hg_27.symm hg_97.symm (by first | exact if_pos c_31 | exact if_neg c_31) c_52 c_82 rfl c_107 (by first | exact if_pos c_64 | exact ite_nn c_64) (by first | exact ite_nn c_122 | exact (if_pos c_122).trans (if_pos c_130) | exact (if_pos c_122).trans (if_neg c_130))] at hr
                    rw [hg_138, hg_115]
                    exact Jrv dX3_playFrom_141 rfl (Nat.zero_le _) (Nat.zero_le _) ⟨rfl, by rw [hr]⟩
                  · refine J_iconst (nx := 134) (i := 0) (v := 0) (by decide) dX3_playFrom_133 rfl ?_
                    refine J_goto (nx := 138) dX3_playFrom_134 (by decide) ?_
                    refine Jp_58_8 (nx := 141) dX3_playFrom_138 rfl fl_X3_83 ?_
                    refine J.gen (fun g_138 hg_138 => ?_)
                    rw [plS_fin hg_27.symm hg_97.symm (by first | exact if_pos c_31 | exact if_neg c_31) c_52 c_82 rfl c_107 (by first | exact if_pos c_64 | exact ite_nn c_64) (by first | exact ite_nn c_122 | exact (if_pos c_122).trans (if_pos c_130) | exact (if_pos c_122).trans (if_neg c_130))] at hr
                    rw [hg_138, hg_115]
                    exact Jrv dX3_playFrom_141 rfl (Nat.zero_le _) (Nat.zero_le _) ⟨rfl, by rw [hr]⟩
                · refine J_iconst (nx := 126) (i := 1) (v := 1) (by decide) dX3_playFrom_125 rfl ?_
                  refine J_goto (nx := 138) dX3_playFrom_126 (by decide) ?_
                  refine Jp_58_8 (nx := 141) dX3_playFrom_138 rfl fl_X3_83 ?_
                  refine J.gen (fun g_138 hg_138 => ?_)
                  rw [plS_fin hg_27.symm hg_97.symm (by first | exact if_pos c_31 | exact if_neg c_31) c_52 c_82 rfl c_107 (by first | exact if_pos c_64 | exact ite_nn c_64) (by first | exact ite_nn c_122 | exact (if_pos c_122).trans (if_pos c_130) | exact (if_pos c_122).trans (if_neg c_130))] at hr
                  rw [hg_138, hg_115]
                  exact Jrv dX3_playFrom_141 rfl (Nat.zero_le _) (Nat.zero_le _) ⟨rfl, by rw [hr]⟩
            · rw [plS_end hg_27.symm (by first | exact if_pos c_31 | exact if_neg c_31) c_52 c_82] at hr
              exact Jrv dX3_playFrom_85 rfl (Nat.zero_le _) (Nat.zero_le _) ⟨rfl, by rw [hr]⟩
          · refine J_iconst (nx := 68) (i := 1) (v := 1) (by decide) dX3_playFrom_67 rfl ?_
            refine J_goto (nx := 72) dX3_playFrom_68 (by decide) ?_
            refine J_istore_n (nx := 73) dX3_playFrom_72 rfl rfl (Nat.le_of_ble_eq_true rfl) ?_
            refine J_iload (nx := 75) dX3_playFrom_73 rfl rfl ?_
            refine J_aload_n (nx := 76) dX3_playFrom_75 rfl rfl ?_
            refine Jg_58_0 (nx := 79) dX3_playFrom_76 rfl fl_X3_18 ?_
            refine Jg_20_13 (nx := 82) dX3_playFrom_79 rfl fl_X3_37 ?_
            refine J_icmp_ne (nx := 85) (tgt := 86) dX3_playFrom_82 rfl (by decide) (fun c_82 => ?_) (fun c_82 => ?_)
            · refine J_aload_n (nx := 87) dX3_playFrom_86 rfl rfl ?_
              refine Jg_58_1 (nx := 90) dX3_playFrom_87 rfl fl_X3_22 ?_
              refine Jg_40_1 (nx := 93) dX3_playFrom_90 rfl fl_X3_42 ?_
              refine J_iload_n (nx := 94) dX3_playFrom_93 rfl rfl ?_
              refine J_aload_n (nx := 95) dX3_playFrom_94 rfl rfl ?_
              refine J_bipush (nx := 97) (i := 100) (v := 100) (by decide) dX3_playFrom_95 rfl ?_
              refine JcV1 (R' := rm 0 0 0) (nx := 100) dX3_playFrom_97 rfl ml_X3_draw lk_X3_89 iv_X3_draw rfl rfl ⟨(Nat.le_of_ble_eq_true rfl), (Nat.le_of_ble_eq_true rfl)⟩ (Nat.le_of_ble_eq_true rfl) ⟨rfl, rfl⟩ (ct_draw _ _) ?_
              refine J.gen (fun g_97 hg_97 => ?_)
              refine JcV2 (R' := rm 1 0 0) (nx := 103) dX3_playFrom_100 rfl ml_X9_drawn lk_X3_93 iv_X9_drawn rfl rfl ⟨(Nat.le_of_ble_eq_true rfl), (Nat.le_of_ble_eq_true rfl)⟩ (Nat.le_of_ble_eq_true rfl) ⟨rfl, rfl⟩ (ct_drawn _ _ _) ?_
              refine J_istore_n (nx := 104) dX3_playFrom_103 rfl rfl (Nat.le_of_ble_eq_true rfl) ?_
              refine J_iload_n (nx := 105) dX3_playFrom_104 rfl rfl ?_
              refine J_bipush (nx := 107) (i := 32) (v := 32) (by decide) dX3_playFrom_105 rfl ?_
              refine J_icmp_lt (nx := 110) (tgt := 142) dX3_playFrom_107 rfl (by decide) (fun c_107 => ?_) (fun c_107 => ?_)
              · refine J_iinc (nx := 145) dX3_playFrom_142 rfl rfl rfl (Nat.le_of_ble_eq_true rfl) ?_
                refine J_goto (nx := 12) dX3_playFrom_145 (by decide) ?_
                rw [plS_go hg_27.symm hg_97.symm (by first | exact if_pos c_31 | exact if_neg c_31) c_52 c_82 rfl c_107 (by first | exact if_pos c_64 | exact ite_nn c_64)] at hr
                refine J_kill (nx := 0) 5 ?_
                show J _ _ _ _ 12 [some (.ref 58), some (.int b), some (.int _), some (.int _), some (.int (nI n + Int32.ofInt 1)), none] [] _ 0 0
                rw [nI_s]
                have hnT : ¬ n = T := fun z => c_82 (by rw [z, hg_27]; exact hT.symm)
                have hT9 : gF g_97 20 13 = nI T := by rw [hg_97, hg_27]; exact hT
                exact ih (n + 1) _ _ g_97 r hT9 (by omega) (by omega) hr
              · refine J_aload_n (nx := 111) dX3_playFrom_110 rfl rfl ?_
                refine J_iload (nx := 113) dX3_playFrom_111 rfl rfl ?_
                refine J_iconst (nx := 114) (i := 1) (v := 1) (by decide) dX3_playFrom_113 rfl ?_
                refine J_iadd (nx := 115) dX3_playFrom_114 rfl ?_
                refine Jp_58_9 (nx := 118) dX3_playFrom_115 rfl fl_X3_86 ?_
                refine J.gen (fun g_115 hg_115 => ?_)
                refine J_aload_n (nx := 119) dX3_playFrom_118 rfl rfl ?_
                refine J_iload_n (nx := 120) dX3_playFrom_119 rfl rfl ?_
                refine J_bipush (nx := 122) (i := 32) (v := 32) (by decide) dX3_playFrom_120 rfl ?_
                refine J_icmp_ne (nx := 125) (tgt := 129) dX3_playFrom_122 rfl (by decide) (fun c_122 => ?_) (fun c_122 => ?_)
                · refine J_iload_n (nx := 130) dX3_playFrom_129 rfl rfl ?_
                  refine J_if_eq (nx := 133) (tgt := 137) dX3_playFrom_130 rfl (by decide) (fun c_130 => ?_) (fun c_130 => ?_)
                  · refine J_iconst (nx := 138) (i := 2) (v := 2) (by decide) dX3_playFrom_137 rfl ?_
                    refine Jp_58_8 (nx := 141) dX3_playFrom_138 rfl fl_X3_83 ?_
                    refine J.gen (fun g_138 hg_138 => ?_)
                    rw [plS_fin hg_27.symm hg_97.symm (by first | exact if_pos c_31 | exact if_neg c_31) c_52 c_82 rfl c_107 (by first | exact if_pos c_64 | exact ite_nn c_64) (by first | exact ite_nn c_122 | exact (if_pos c_122).trans (if_pos c_130) | exact (if_pos c_122).trans (if_neg c_130))] at hr
                    rw [hg_138, hg_115]
                    exact Jrv dX3_playFrom_141 rfl (Nat.zero_le _) (Nat.zero_le _) ⟨rfl, by rw [hr]⟩
                  · refine J_iconst (nx := 134) (i := 0) (v := 0) (by decide) dX3_playFrom_133 rfl ?_
                    refine J_goto (nx := 138) dX3_playFrom_134 (by decide) ?_
                    refine Jp_58_8 (nx := 141) dX3_playFrom_138 rfl fl_X3_83 ?_
                    refine J.gen (fun g_138 hg_138 => ?_)
                    rw [plS_fin hg_27.symm hg_97.symm (by first | exact if_pos c_31 | exact if_neg c_31) c_52 c_82 rfl c_107 (by first | exact if_pos c_64 | exact ite_nn c_64) (by first | exact ite_nn c_122 | exact (if_pos c_122).trans (if_pos c_130) | exact (if_pos c_122).trans (if_neg c_130))] at hr
                    rw [hg_138, hg_115]
                    exact Jrv dX3_playFrom_141 rfl (Nat.zero_le _) (Nat.zero_le _) ⟨rfl, by rw [hr]⟩
                · refine J_iconst (nx := 126) (i := 1) (v := 1) (by decide) dX3_playFrom_125 rfl ?_
                  refine J_goto (nx := 138) dX3_playFrom_126 (by decide) ?_
                  refine Jp_58_8 (nx := 141) dX3_playFrom_138 rfl fl_X3_83 ?_
                  refine J.gen (fun g_138 hg_138 => ?_)
                  rw [plS_fin hg_27.symm hg_97.symm (by first | exact if_pos c_31 | exact if_neg c_31) c_52 c_82 rfl c_107 (by first | exact if_pos c_64 | exact ite_nn c_64) (by first | exact ite_nn c_122 | exact (if_pos c_122).trans (if_pos c_130) | exact (if_pos c_122).trans (if_neg c_130))] at hr
                  rw [hg_138, hg_115]
                  exact Jrv dX3_playFrom_141 rfl (Nat.zero_le _) (Nat.zero_le _) ⟨rfl, by rw [hr]⟩
            · rw [plS_end hg_27.symm (by first | exact if_pos c_31 | exact if_neg c_31) c_52 c_82] at hr
              exact Jrv dX3_playFrom_85 rfl (Nat.zero_le _) (Nat.zero_le _) ⟨rfl, by rw [hr]⟩
        · refine J_aload_n (nx := 56) dX3_playFrom_55 rfl rfl ?_
          refine J_iconst (nx := 57) (i := 0) (v := 0) (by decide) dX3_playFrom_56 rfl ?_
          refine Jp_58_8 (nx := 60) dX3_playFrom_57 rfl fl_X3_83 ?_
          refine J.gen (fun g_57 hg_57 => ?_)
          rw [plS_stop (show plD (sF g 58 9 (nI n)) n st wt = _ from by rw [← hg_27]; first | exact if_pos c_31 | exact if_neg c_31) c_52] at hr
          subst hg_57
          subst hg_27
          exact Jrv dX3_playFrom_60 rfl (Nat.zero_le _) (Nat.zero_le _) ⟨rfl, by rw [hr]⟩

set_option maxRecDepth 100000 in
set_option maxHeartbeats 4000000 in
theorem ct_playFrom (g : GS) (b : Int32) (T : Nat) (hT : gF g 20 13 = nI T) (hT2 : T < 2 ^ 30) : Ct mX3_playFrom (rm 2 0 0) [.ref 58, .int b] (Wd g) (RR (.inl none) (plR (T + 1) 0 b 1 (sF g 58 8 3))) := by
  refine Ct.of (by decide +kernel) (Nat.le_of_ble_eq_true rfl) ?_
  show J _ _ _ _ 0 [some (.ref 58), some (.int b), none, none, none, none] [] _ 0 0
  refine J_iload_n (nx := 1) dX3_playFrom_0 rfl rfl ?_
  refine J_istore_n (nx := 2) dX3_playFrom_1 rfl rfl (Nat.le_of_ble_eq_true rfl) ?_
  refine J_iconst (nx := 3) (i := 1) (v := 1) (by decide) dX3_playFrom_2 rfl ?_
  refine J_istore_n (nx := 4) dX3_playFrom_3 rfl rfl (Nat.le_of_ble_eq_true rfl) ?_
  refine J_aload_n (nx := 5) dX3_playFrom_4 rfl rfl ?_
  refine J_iconst (nx := 6) (i := 3) (v := 3) (by decide) dX3_playFrom_5 rfl ?_
  refine Jp_58_8 (nx := 9) dX3_playFrom_6 rfl fl_X3_83 ?_
  refine J.gen (fun g_6 hg_6 => ?_)
  refine J_iconst (nx := 10) (i := 0) (v := 0) (by decide) dX3_playFrom_9 rfl ?_
  refine J_istore (nx := 12) dX3_playFrom_10 rfl rfl (Nat.le_of_ble_eq_true rfl) ?_
  exact lp_play T hT2 b _ (T + 1) 0 b 1 g_6 _ (by rw [hg_6]; exact hT) (by omega) (by omega) (by rw [hg_6])

