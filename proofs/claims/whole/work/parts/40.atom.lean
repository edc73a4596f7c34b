
/-! Text: atoms, and the whole of a condition -/
theorem pAtom_base {o : Ob} {rl : Bool} {d b : Nat} {cs : List Int32} (h1 : ¬ oWrd o b = 14) (h2 : ¬ oSgn o b = 40) : pAtom o rl d b cs = pBase o rl b cs := by
  cases d with
  | zero => unfold pAtom; rw [if_neg h1, if_neg h2]
  | succ d => unfold pAtom; rw [if_neg h1, if_neg h2]
theorem pAtom_no {o : Ob} {rl : Bool} {b : Nat} {cs : List Int32} (hd : oWrd o b = 14 ∨ oSgn o b = 40) : pAtom o rl 0 b cs = .inl b := by
  unfold pAtom
  by_cases h1 : oWrd o b = 14
  · rw [if_pos h1]
  · rw [if_neg h1, if_pos (hd.resolve_left h1)]
theorem pBase_sum {o : Ob} {rl : Bool} {b : Nat} {cs : List Int32} (h : ¬ (¬ bI rl = 0 ∧ oWrd o b = 15)) : pBase o rl b cs = (match pSum o rl b cs with | .inl e => .inl e | .inr q => if oSgn o q.1 = 60 then (match pSum o rl (oNxt o q.1) q.2 with | .inl e => .inl e | .inr r => .inr (r.1, r.2 ++ [10011])) else if oSgn o q.1 = 62 then (match pSum o rl (oNxt o q.1) q.2 with | .inl e => .inl e | .inr r => .inr (r.1, r.2 ++ [10012])) else .inl q.1) := if_neg h
theorem PP.nar {o : Ob} {rl : Bool} {g g' : GS} {r : PR} {x : Int32} (h : PP o rl g r x g') : narrow .boolean (.int x) = .int x := by
  obtain ⟨h1, h2⟩ := h
  cases r with
  | inl e => rw [h2.1]; decide
  | inr q => rw [h2.1]; decide

set_option maxRecDepth 100000 in
set_option maxHeartbeats 4000000 in
theorem sg_cmp (o : Ob) (ho : ObOK o) (rl : Bool) (g0 g : GS) (q : Nat × List Int32) (lt : Bool) (r : PR) (x op : Int32) (d : Nat) (hT : TS o rl g q.1 q.2) (hG : Fr fC aC g0 g) (hl : q.2.length ≤ q.1) (hs : q.1 < oN o) (hop : op = if bI lt = 0 then 10012 else 10011) (hr : r = (match pSum o rl (oNxt o q.1) q.2 with | .inl e => .inl e | .inr u => .inr (u.1, u.2 ++ [op]))) (n0 : Nat) : J mX8_readAtom (rm (2 + 4 * d) 0 0) (RXi (PP o rl g0 r)) n0 117 [some (.ref 7), some (.int x), some (.int (bI lt))] [] (Wd g) 0 0 := by
  refine J_aload_n (nx := 118) dX8_readAtom_117 rfl rfl ?_
  refine Jg_7_0 (nx := 121) dX8_readAtom_118 rfl fl_X8_31 ?_
  refine JvV0 (R' := rm (0) 0 0) (nx := 124) dX8_readAtom_121 rfl ml_X7_next lk_X8_92 iv_X7_next rfl rfl (rm_room (by omega) (by decide)) (Nat.le_of_ble_eq_true rfl) ⟨rfl, rfl⟩ (ct_nextx o ho rl g q.1 q.2 hT hs) (fun g_121 p_121 => ?_)
  refine J_aload_n (nx := 125) dX8_readAtom_124 rfl rfl ?_
  refine JiV0 (R' := rm (1) 0 0) (nx := 128) dX8_readAtom_125 rfl ml_X8_readSum lk_X8_209 iv_X8_readSum rfl rfl (rm_room (by omega) (by decide)) (Nat.le_of_ble_eq_true rfl) ⟨rfl, rfl⟩ (ct_readSum o ho rl g_121 (oNxt o q.1) q.2 p_121.2 (by have := ho.2.1 _ hs; omega)) (fun x_125 g_125 p_125 => ?_)
  refine J_if_ne (nx := 131) (tgt := 133) dX8_readAtom_128 rfl (by decide) (fun c_128 => ?_) (fun c_128 => ?_)
  · obtain ⟨u, hu, hU⟩ := p_125.goes c_128
    have hok := pSum_ok ho rl (oNxt o q.1) q.2 (ho.2.1 _ hs).2
    rw [hu] at hok
    refine J_aload_n (nx := 134) dX8_readAtom_133 rfl rfl ?_
    refine J_iload_n (nx := 135) dX8_readAtom_134 rfl rfl ?_
    refine J_if_eq (nx := 138) (tgt := 144) dX8_readAtom_135 rfl (by decide) (fun c_135 => ?_) (fun c_135 => ?_)
    · refine J_sipush (nx := 147) (i := 10012) (v := 10012) (by decide) dX8_readAtom_144 rfl ?_
      refine JvV1 (R' := rm (0) 0 0) (nx := 150) dX8_readAtom_147 rfl ml_X8_addCell lk_X8_190 iv_X8_addCell rfl rfl (rm_room (by omega) (by decide)) (Nat.le_of_ble_eq_true rfl) ⟨rfl, rfl⟩ (ct_addx o rl g_125 u.1 u.2 10012 hU (by have := hok.2; have := ho.1; have := ho.2.1 _ hs; omega)) (fun g_147 p_147 => ?_)
      refine J_iconst (nx := 151) (i := 1) (v := 1) (by decide) dX8_readAtom_150 rfl ?_
      exact Jrz dX8_readAtom_151 rfl (by decide) (Nat.zero_le _) (Nat.zero_le _) (RXi.of (PP.yes ((hG.tr p_121.1).tr (p_125.1.tr p_147.1)) p_147.2 (hr.trans (by rw [hu, hop]; first | rw [if_pos c_135] | rw [if_neg c_135]))))
    · refine J_sipush (nx := 141) (i := 10011) (v := 10011) (by decide) dX8_readAtom_138 rfl ?_
      refine J_goto (nx := 147) dX8_readAtom_141 (by decide) ?_
      refine JvV1 (R' := rm (0) 0 0) (nx := 150) dX8_readAtom_147 rfl ml_X8_addCell lk_X8_190 iv_X8_addCell rfl rfl (rm_room (by omega) (by decide)) (Nat.le_of_ble_eq_true rfl) ⟨rfl, rfl⟩ (ct_addx o rl g_125 u.1 u.2 10011 hU (by have := hok.2; have := ho.1; have := ho.2.1 _ hs; omega)) (fun g_147 p_147 => ?_)
      refine J_iconst (nx := 151) (i := 1) (v := 1) (by decide) dX8_readAtom_150 rfl ?_
      exact Jrz dX8_readAtom_151 rfl (by decide) (Nat.zero_le _) (Nat.zero_le _) (RXi.of (PP.yes ((hG.tr p_121.1).tr (p_125.1.tr p_147.1)) p_147.2 (hr.trans (by rw [hu, hop]; first | rw [if_pos c_135] | rw [if_neg c_135]))))
  · refine J_iconst (nx := 132) (i := 0) (v := 0) (by decide) dX8_readAtom_131 rfl ?_
    exact Jrz dX8_readAtom_132 rfl (by decide) (Nat.zero_le _) (Nat.zero_le _) (RXi.of (PP.fail (hG.tr p_121.1) p_125 c_128 (fun e he => hr.trans (by rw [he]))))

set_option maxRecDepth 100000 in
set_option maxHeartbeats 4000000 in
theorem ct_atom0 (o : Ob) (ho : ObOK o) (rl : Bool) (d : Nat) (x : Int32) (hD : ∀ (g : GS) (b : Nat) (cs : List Int32), TS o rl g b cs → cs.length ≤ b → oWrd o b = 14 ∨ oSgn o b = 40 → Ct mX8_readDeeper (rm (1 + 4 * d) 0 0) [.ref 7, .int (x + 1)] (Wd g) (RXi (PP o rl g (pAtom o rl d b cs)))) (g : GS) (b : Nat) (cs : List Int32) (h : TS o rl g b cs) (hl : cs.length ≤ b) : Ct mX8_readAtom (rm (2 + 4 * d) 0 0) [.ref 7, .int x] (Wd g) (RXi (PP o rl g (pAtom o rl d b cs))) := by
  refine Ct.of (by decide +kernel) (Nat.le_of_ble_eq_true rfl) ?_
  show J _ _ _ _ 0 [some (.ref 7), some (.int x), none] [] _ 0 0
  refine J_aload_n (nx := 1) dX8_readAtom_0 rfl rfl ?_
  refine Jg_7_0 (nx := 4) dX8_readAtom_1 rfl fl_X8_31 ?_
  refine Jg_1_11 (nx := 7) dX8_readAtom_4 rfl fl_X8_88 ?_
  rw [h.wrd]
  refine J_getsW (nx := 10) (j := 14) dX8_readAtom_7 rfl (by decide) gs_X8_200 ?_
  refine J_acmp_eq (nx := 13) (i := (oWrd o b)) (j := 14) (tgt := 25) dX8_readAtom_10 rfl (by decide) (ho.2.2.2.1 _) (by decide) (fun c_10 => ?_) (fun c_10 => ?_)
  · refine J_aload_n (nx := 26) dX8_readAtom_25 rfl rfl ?_
    refine J_iload_n (nx := 27) dX8_readAtom_26 rfl rfl ?_
    refine J_iconst (nx := 28) (i := 1) (v := 1) (by decide) dX8_readAtom_27 rfl ?_
    refine J_iadd (nx := 29) dX8_readAtom_28 rfl ?_
    refine JiV1 (R' := rm (1 + 4 * d) 0 0) (nx := 32) dX8_readAtom_29 rfl ml_X8_readDeeper lk_X8_203 iv_X8_readDeeper rfl rfl (rm_room (by omega) (by decide)) (Nat.le_of_ble_eq_true rfl) ⟨rfl, rfl⟩ (hD g b cs h hl (Or.inl c_10)) (fun x_29 g_29 p_29 => ?_)
    exact Jrz dX8_readAtom_32 rfl (p_29.nar) (Nat.zero_le _) (Nat.zero_le _) (RXi.of p_29)
  · refine J_aload_n (nx := 14) dX8_readAtom_13 rfl rfl ?_
    refine Jg_7_0 (nx := 17) dX8_readAtom_14 rfl fl_X8_31 ?_
    refine Jg_1_10 (nx := 20) dX8_readAtom_17 rfl fl_X8_95 ?_
    refine J_bipush (nx := 22) (i := 40) (v := 40) (by decide) dX8_readAtom_20 rfl ?_
    refine J_icmp_ne (nx := 25) (tgt := 33) dX8_readAtom_22 rfl (by decide) (fun c_22 => ?_) (fun c_22 => ?_)
    · have e0 : pAtom o rl d b cs = pBase o rl b cs := pAtom_base c_10 (fun z => c_22 (h.sgn.trans z))
      rw [e0]
      refine J_aload_n (nx := 34) dX8_readAtom_33 rfl rfl ?_
      refine Jg_7_6 (nx := 37) dX8_readAtom_34 rfl fl_X8_62 ?_
      rw [h.rul]
      refine J_if_eq (nx := 40) (tgt := 69) dX8_readAtom_37 rfl (by decide) (fun c_37 => ?_) (fun c_37 => ?_)
      · have eB := pBase_sum (cs := cs) (b := b) (o := o) (rl := rl) (by first | exact (fun z => z.1 c_37) | exact (fun z => c_50 z.2))
        refine J_aload_n (nx := 70) dX8_readAtom_69 rfl rfl ?_
        refine JiV0 (R' := rm (1) 0 0) (nx := 73) dX8_readAtom_70 rfl ml_X8_readSum lk_X8_209 iv_X8_readSum rfl rfl (rm_room (by omega) (by decide)) (Nat.le_of_ble_eq_true rfl) ⟨rfl, rfl⟩ (ct_readSum o ho rl g b cs h hl) (fun x_70 g_70 p_70 => ?_)
        refine J_if_ne (nx := 76) (tgt := 78) dX8_readAtom_73 rfl (by decide) (fun c_73 => ?_) (fun c_73 => ?_)
        · obtain ⟨q, hq, hT⟩ := p_70.goes c_73
          have hok := pSum_ok ho rl b cs h.1.le
          rw [hq] at hok eB
          have hok2 := hok.2
          refine J_aload_n (nx := 79) dX8_readAtom_78 rfl rfl ?_
          refine Jg_7_0 (nx := 82) dX8_readAtom_79 rfl fl_X8_31 ?_
          refine Jg_1_10 (nx := 85) dX8_readAtom_82 rfl fl_X8_95 ?_
          refine J_bipush (nx := 87) (i := 60) (v := 60) (by decide) dX8_readAtom_85 rfl ?_
          refine J_icmp_ne (nx := 90) (tgt := 94) dX8_readAtom_87 rfl (by decide) (fun c_87 => ?_) (fun c_87 => ?_)
          · refine J_iconst (nx := 95) (i := 0) (v := 0) (by decide) dX8_readAtom_94 rfl ?_
            refine J_istore_n (nx := 96) dX8_readAtom_95 rfl rfl (Nat.le_of_ble_eq_true rfl) ?_
            refine J_iload_n (nx := 97) dX8_readAtom_96 rfl rfl ?_
            refine J_if_ne (nx := 100) (tgt := 117) dX8_readAtom_97 rfl (by decide) (fun c_97 => ?_) (fun c_97 => ?_)
            · exact absurd rfl c_97
            · refine J_aload_n (nx := 101) dX8_readAtom_100 rfl rfl ?_
              refine Jg_7_0 (nx := 104) dX8_readAtom_101 rfl fl_X8_31 ?_
              refine Jg_1_10 (nx := 107) dX8_readAtom_104 rfl fl_X8_95 ?_
              refine J_bipush (nx := 109) (i := 62) (v := 62) (by decide) dX8_readAtom_107 rfl ?_
              refine J_icmp_eq (nx := 112) (tgt := 117) dX8_readAtom_109 rfl (by decide) (fun c_109 => ?_) (fun c_109 => ?_)
              · exact sg_cmp o ho rl g g_70 q false _ x 10012 d hT p_70.1 (by omega) (ho.sgn (hT.sgn.symm.trans c_109) (by decide)) rfl (eB.trans ((if_neg (fun z => c_87 (hT.sgn.trans z))).trans (if_pos (hT.sgn.symm.trans c_109)))) _
              · refine J_aload_n (nx := 113) dX8_readAtom_112 rfl rfl ?_
                refine JcV0 (R' := rm (0) 0 0) (nx := 116) dX8_readAtom_113 rfl ml_X8_wrong lk_X8_47 iv_X8_wrong rfl rfl (rm_room (by omega) (by decide)) (Nat.le_of_ble_eq_true rfl) ⟨rfl, rfl⟩ (ct_wrong _) ?_
                exact Jrz dX8_readAtom_116 rfl (by decide) (Nat.zero_le _) (Nat.zero_le _) (RXi.of (PP.no p_70.1 hT (eB.trans ((if_neg (fun z => c_87 (hT.sgn.trans z))).trans (if_neg (fun z => c_109 (hT.sgn.trans z)))))))
          · refine J_iconst (nx := 91) (i := 1) (v := 1) (by decide) dX8_readAtom_90 rfl ?_
            refine J_goto (nx := 95) dX8_readAtom_91 (by decide) ?_
            refine J_istore_n (nx := 96) dX8_readAtom_95 rfl rfl (Nat.le_of_ble_eq_true rfl) ?_
            refine J_iload_n (nx := 97) dX8_readAtom_96 rfl rfl ?_
            refine J_if_ne (nx := 100) (tgt := 117) dX8_readAtom_97 rfl (by decide) (fun c_97 => ?_) (fun c_97 => ?_)
            · exact sg_cmp o ho rl g g_70 q true _ x 10011 d hT p_70.1 (by omega) (ho.sgn (hT.sgn.symm.trans c_87) (by decide)) rfl (eB.trans (if_pos (hT.sgn.symm.trans c_87))) _
            · exact absurd c_97 (by decide)
        · refine J_iconst (nx := 77) (i := 0) (v := 0) (by decide) dX8_readAtom_76 rfl ?_
          exact Jrz dX8_readAtom_77 rfl (by decide) (Nat.zero_le _) (Nat.zero_le _) (RXi.of (PP.fail Fr.rf p_70 c_73 (fun e he => eB.trans (by rw [he]))))
      · refine J_aload_n (nx := 41) dX8_readAtom_40 rfl rfl ?_
        refine Jg_7_0 (nx := 44) dX8_readAtom_41 rfl fl_X8_31 ?_
        refine Jg_1_11 (nx := 47) dX8_readAtom_44 rfl fl_X8_88 ?_
        rw [h.wrd]
        refine J_getsW (nx := 50) (j := 15) dX8_readAtom_47 rfl (by decide) gs_X8_206 ?_
        refine J_acmp_ne (nx := 53) (i := (oWrd o b)) (j := 15) (tgt := 69) dX8_readAtom_50 rfl (by decide) (ho.2.2.2.1 _) (by decide) (fun c_50 => ?_) (fun c_50 => ?_)
        · have eB := pBase_sum (cs := cs) (b := b) (o := o) (rl := rl) (by first | exact (fun z => z.1 c_37) | exact (fun z => c_50 z.2))
          refine J_aload_n (nx := 70) dX8_readAtom_69 rfl rfl ?_
          refine JiV0 (R' := rm (1) 0 0) (nx := 73) dX8_readAtom_70 rfl ml_X8_readSum lk_X8_209 iv_X8_readSum rfl rfl (rm_room (by omega) (by decide)) (Nat.le_of_ble_eq_true rfl) ⟨rfl, rfl⟩ (ct_readSum o ho rl g b cs h hl) (fun x_70 g_70 p_70 => ?_)
          refine J_if_ne (nx := 76) (tgt := 78) dX8_readAtom_73 rfl (by decide) (fun c_73 => ?_) (fun c_73 => ?_)
          · obtain ⟨q, hq, hT⟩ := p_70.goes c_73
            have hok := pSum_ok ho rl b cs h.1.le
            rw [hq] at hok eB
            have hok2 := hok.2
            refine J_aload_n (nx := 79) dX8_readAtom_78 rfl rfl ?_
            refine Jg_7_0 (nx := 82) dX8_readAtom_79 rfl fl_X8_31 ?_
            refine Jg_1_10 (nx := 85) dX8_readAtom_82 rfl fl_X8_95 ?_
            refine J_bipush (nx := 87) (i := 60) (v := 60) (by decide) dX8_readAtom_85 rfl ?_
            refine J_icmp_ne (nx := 90) (tgt := 94) dX8_readAtom_87 rfl (by decide) (fun c_87 => ?_) (fun c_87 => ?_)
            · refine J_iconst (nx := 95) (i := 0) (v := 0) (by decide) dX8_readAtom_94 rfl ?_
              refine J_istore_n (nx := 96) dX8_readAtom_95 rfl rfl (Nat.le_of_ble_eq_true rfl) ?_
              refine J_iload_n (nx := 97) dX8_readAtom_96 rfl rfl ?_
              refine J_if_ne (nx := 100) (tgt := 117) dX8_readAtom_97 rfl (by decide) (fun c_97 => ?_) (fun c_97 => ?_)
              · exact absurd rfl c_97
              · refine J_aload_n (nx := 101) dX8_readAtom_100 rfl rfl ?_
                refine Jg_7_0 (nx := 104) dX8_readAtom_101 rfl fl_X8_31 ?_
                refine Jg_1_10 (nx := 107) dX8_readAtom_104 rfl fl_X8_95 ?_
                refine J_bipush (nx := 109) (i := 62) (v := 62) (by decide) dX8_readAtom_107 rfl ?_
                refine J_icmp_eq (nx := 112) (tgt := 117) dX8_readAtom_109 rfl (by decide) (fun c_109 => ?_) (fun c_109 => ?_)
                · exact sg_cmp o ho rl g g_70 q false _ x 10012 d hT p_70.1 (by omega) (ho.sgn (hT.sgn.symm.trans c_109) (by decide)) rfl (eB.trans ((if_neg (fun z => c_87 (hT.sgn.trans z))).trans (if_pos (hT.sgn.symm.trans c_109)))) _
                · refine J_aload_n (nx := 113) dX8_readAtom_112 rfl rfl ?_
                  refine JcV0 (R' := rm (0) 0 0) (nx := 116) dX8_readAtom_113 rfl ml_X8_wrong lk_X8_47 iv_X8_wrong rfl rfl (rm_room (by omega) (by decide)) (Nat.le_of_ble_eq_true rfl) ⟨rfl, rfl⟩ (ct_wrong _) ?_
                  exact Jrz dX8_readAtom_116 rfl (by decide) (Nat.zero_le _) (Nat.zero_le _) (RXi.of (PP.no p_70.1 hT (eB.trans ((if_neg (fun z => c_87 (hT.sgn.trans z))).trans (if_neg (fun z => c_109 (hT.sgn.trans z)))))))
            · refine J_iconst (nx := 91) (i := 1) (v := 1) (by decide) dX8_readAtom_90 rfl ?_
              refine J_goto (nx := 95) dX8_readAtom_91 (by decide) ?_
              refine J_istore_n (nx := 96) dX8_readAtom_95 rfl rfl (Nat.le_of_ble_eq_true rfl) ?_
              refine J_iload_n (nx := 97) dX8_readAtom_96 rfl rfl ?_
              refine J_if_ne (nx := 100) (tgt := 117) dX8_readAtom_97 rfl (by decide) (fun c_97 => ?_) (fun c_97 => ?_)
              · exact sg_cmp o ho rl g g_70 q true _ x 10011 d hT p_70.1 (by omega) (ho.sgn (hT.sgn.symm.trans c_87) (by decide)) rfl (eB.trans (if_pos (hT.sgn.symm.trans c_87))) _
              · exact absurd c_97 (by decide)
          · refine J_iconst (nx := 77) (i := 0) (v := 0) (by decide) dX8_readAtom_76 rfl ?_
            exact Jrz dX8_readAtom_77 rfl (by decide) (Nat.zero_le _) (Nat.zero_le _) (RXi.of (PP.fail Fr.rf p_70 c_73 (fun e he => eB.trans (by rw [he]))))
        · refine J_aload_n (nx := 54) dX8_readAtom_53 rfl rfl ?_
          refine Jg_7_0 (nx := 57) dX8_readAtom_54 rfl fl_X8_31 ?_
          refine JvV0 (R' := rm (0) 0 0) (nx := 60) dX8_readAtom_57 rfl ml_X7_next lk_X8_92 iv_X7_next rfl rfl (rm_room (by omega) (by decide)) (Nat.le_of_ble_eq_true rfl) ⟨rfl, rfl⟩ (ct_nextx o ho rl g b cs h (ho.wrd c_50 (by decide))) (fun g_57 p_57 => ?_)
          refine J_aload_n (nx := 61) dX8_readAtom_60 rfl rfl ?_
          refine J_sipush (nx := 64) (i := 10007) (v := 10007) (by decide) dX8_readAtom_61 rfl ?_
          refine JvV1 (R' := rm (0) 0 0) (nx := 67) dX8_readAtom_64 rfl ml_X8_addCell lk_X8_190 iv_X8_addCell rfl rfl (rm_room (by omega) (by decide)) (Nat.le_of_ble_eq_true rfl) ⟨rfl, rfl⟩ (ct_addx o rl g_57 (oNxt o b) cs 10007 p_57.2 (by have := ho.2.1 b (ho.wrd c_50 (by decide)); have := ho.1; omega)) (fun g_64 p_64 => ?_)
          refine J_iconst (nx := 68) (i := 1) (v := 1) (by decide) dX8_readAtom_67 rfl ?_
          exact Jrz dX8_readAtom_68 rfl (by decide) (Nat.zero_le _) (Nat.zero_le _) (RXi.of (PP.yes (p_57.1.tr p_64.1) p_64.2 (by unfold pBase; rw [if_pos ⟨c_37, c_50⟩])))
    · refine J_aload_n (nx := 26) dX8_readAtom_25 rfl rfl ?_
      refine J_iload_n (nx := 27) dX8_readAtom_26 rfl rfl ?_
      refine J_iconst (nx := 28) (i := 1) (v := 1) (by decide) dX8_readAtom_27 rfl ?_
      refine J_iadd (nx := 29) dX8_readAtom_28 rfl ?_
      refine JiV1 (R' := rm (1 + 4 * d) 0 0) (nx := 32) dX8_readAtom_29 rfl ml_X8_readDeeper lk_X8_203 iv_X8_readDeeper rfl rfl (rm_room (by omega) (by decide)) (Nat.le_of_ble_eq_true rfl) ⟨rfl, rfl⟩ (hD g b cs h hl (Or.inr (h.sgn.symm.trans c_22))) (fun x_29 g_29 p_29 => ?_)
      exact Jrz dX8_readAtom_32 rfl (p_29.nar) (Nat.zero_le _) (Nat.zero_le _) (RXi.of p_29)

set_option maxRecDepth 100000 in
set_option maxHeartbeats 4000000 in
theorem ct_deeper (o : Ob) (ho : ObOK o) (rl : Bool) (d : Nat) (x : Int32) (hx : x ≤ 6) (hA : ∀ (g : GS) (b : Nat) (cs : List Int32), TS o rl g b cs → cs.length ≤ b → Ct mX8_readAtom (rm (2 + 4 * d) 0 0) [.ref 7, .int x] (Wd g) (RXi (PP o rl g (pAtom o rl d b cs)))) (hC : ∀ (g : GS) (b : Nat) (cs : List Int32), TS o rl g b cs → cs.length ≤ b → Ct mX8_readCondition (rm (4 + 4 * d) 0 0) [.ref 7, .int x] (Wd g) (RXi (PP o rl g (pCond o rl d b cs)))) (g : GS) (b : Nat) (cs : List Int32) (h : TS o rl g b cs) (hl : cs.length ≤ b) (hd : oWrd o b = 14 ∨ oSgn o b = 40) : Ct mX8_readDeeper (rm (5 + 4 * d) 0 0) [.ref 7, .int x] (Wd g) (RXi (PP o rl g (pAtom o rl (d + 1) b cs))) := by
  have hb : b < oN o := hd.elim (fun z => ho.wrd z (by decide)) (fun z => ho.sgn z (by decide))
  have hn1 := ho.2.1 b hb
  refine Ct.of (by decide +kernel) (Nat.le_of_ble_eq_true rfl) ?_
  show J _ _ _ _ 0 [some (.ref 7), some (.int x), none] [] _ 0 0
  refine J_iload_n (nx := 1) dX8_readDeeper_0 rfl rfl ?_
  refine J_bipush (nx := 3) (i := 6) (v := 6) (by decide) dX8_readDeeper_1 rfl ?_
  refine J_icmp_le (nx := 6) (tgt := 11) dX8_readDeeper_3 rfl (by decide) (fun c_3 => ?_) (fun c_3 => ?_)
  · refine J_aload_n (nx := 12) dX8_readDeeper_11 rfl rfl ?_
    refine Jg_7_0 (nx := 15) dX8_readDeeper_12 rfl fl_X8_31 ?_
    refine Jg_1_11 (nx := 18) dX8_readDeeper_15 rfl fl_X8_88 ?_
    rw [h.wrd]
    refine J_getsW (nx := 21) (j := 14) dX8_readDeeper_18 rfl (by decide) gs_X8_200 ?_
    refine J_acmp_ne (nx := 24) (i := (oWrd o b)) (j := 14) (tgt := 28) dX8_readDeeper_21 rfl (by decide) (ho.2.2.2.1 _) (by decide) (fun c_21 => ?_) (fun c_21 => ?_)
    · refine J_iconst (nx := 29) (i := 0) (v := 0) (by decide) dX8_readDeeper_28 rfl ?_
      refine J_istore_n (nx := 30) dX8_readDeeper_29 rfl rfl (Nat.le_of_ble_eq_true rfl) ?_
      refine J_aload_n (nx := 31) dX8_readDeeper_30 rfl rfl ?_
      refine Jg_7_0 (nx := 34) dX8_readDeeper_31 rfl fl_X8_31 ?_
      refine JvV0 (R' := rm (0) 0 0) (nx := 37) dX8_readDeeper_34 rfl ml_X7_next lk_X8_92 iv_X7_next rfl rfl (rm_room (by omega) (by decide)) (Nat.le_of_ble_eq_true rfl) ⟨rfl, rfl⟩ (ct_nextx o ho rl g b cs h hb) (fun g_34 p_34 => ?_)
      refine J_iload_n (nx := 38) dX8_readDeeper_37 rfl rfl ?_
      refine J_if_ne (nx := 41) (tgt := 64) dX8_readDeeper_38 rfl (by decide) (fun c_38 => ?_) (fun c_38 => ?_)
      · exact absurd rfl c_38
      · refine J_aload_n (nx := 42) dX8_readDeeper_41 rfl rfl ?_
        have e0 : pAtom o rl (d + 1) b cs = (match pCond o rl d (oNxt o b) cs with | .inl e => .inl e | .inr q => if oSgn o q.1 = 41 then .inr (oNxt o q.1, q.2) else .inl q.1) := by
          show (if oWrd o b = 14 then _ else if oSgn o b = 40 then _ else _) = _
          rw [if_neg c_21, if_pos (hd.resolve_left c_21)]; rfl
        refine J_iload_n (nx := 43) dX8_readDeeper_42 rfl rfl ?_
        refine JiV1 (R' := rm (4 + 4 * d) 0 0) (nx := 46) dX8_readDeeper_43 rfl ml_X8_readCondition lk_X8_169 iv_X8_readCondition rfl rfl (rm_room (by omega) (by decide)) (Nat.le_of_ble_eq_true rfl) ⟨rfl, rfl⟩ (hC g_34 (oNxt o b) cs p_34.2 (by omega)) (fun x_43 g_43 p_43 => ?_)
        refine J_if_eq (nx := 49) (tgt := 62) dX8_readDeeper_46 rfl (by decide) (fun c_46 => ?_) (fun c_46 => ?_)
        · refine J_iconst (nx := 63) (i := 0) (v := 0) (by decide) dX8_readDeeper_62 rfl ?_
          exact Jrz dX8_readDeeper_63 rfl (by decide) (Nat.zero_le _) (Nat.zero_le _) (RXi.of (PP.fail p_34.1 p_43 c_46 (fun e he => e0.trans (by rw [he]))))
        · obtain ⟨q, hq, hT⟩ := p_43.goes c_46
          refine J_aload_n (nx := 50) dX8_readDeeper_49 rfl rfl ?_
          refine J_bipush (nx := 52) (i := 41) (v := 41) (by decide) dX8_readDeeper_50 rfl ?_
          refine JiV1 (R' := rm (1) 0 0) (nx := 55) dX8_readDeeper_52 rfl ml_X8_takeSign lk_X8_78 iv_X8_takeSign rfl rfl (rm_room (by omega) (by decide)) (Nat.le_of_ble_eq_true rfl) ⟨rfl, rfl⟩ (ct_takeSign o ho rl g_43 q.1 q.2 hT 41 (by decide)) (fun x_52 g_52 p_52 => ?_)
          refine J_if_eq (nx := 58) (tgt := 62) dX8_readDeeper_55 rfl (by decide) (fun c_55 => ?_) (fun c_55 => ?_)
          · refine J_iconst (nx := 63) (i := 0) (v := 0) (by decide) dX8_readDeeper_62 rfl ?_
            exact Jrz dX8_readDeeper_63 rfl (by decide) (Nat.zero_le _) (Nat.zero_le _) (RXi.of (PP.fail (p_34.1.tr p_43.1) p_52 c_55 (fun e he => e0.trans (by rw [hq]; exact he))))
          · refine J_iconst (nx := 59) (i := 1) (v := 1) (by decide) dX8_readDeeper_58 rfl ?_
            refine J_goto (nx := 63) dX8_readDeeper_59 (by decide) ?_
            exact Jrz dX8_readDeeper_63 rfl (by decide) (Nat.zero_le _) (Nat.zero_le _) (by obtain ⟨u, hu, hU⟩ := p_52.goes c_55; exact RXi.of (PP.yes ((p_34.1.tr p_43.1).tr p_52.1) hU (e0.trans (by rw [hq]; exact hu))))
    · refine J_iconst (nx := 25) (i := 1) (v := 1) (by decide) dX8_readDeeper_24 rfl ?_
      refine J_goto (nx := 29) dX8_readDeeper_25 (by decide) ?_
      refine J_istore_n (nx := 30) dX8_readDeeper_29 rfl rfl (Nat.le_of_ble_eq_true rfl) ?_
      refine J_aload_n (nx := 31) dX8_readDeeper_30 rfl rfl ?_
      refine Jg_7_0 (nx := 34) dX8_readDeeper_31 rfl fl_X8_31 ?_
      refine JvV0 (R' := rm (0) 0 0) (nx := 37) dX8_readDeeper_34 rfl ml_X7_next lk_X8_92 iv_X7_next rfl rfl (rm_room (by omega) (by decide)) (Nat.le_of_ble_eq_true rfl) ⟨rfl, rfl⟩ (ct_nextx o ho rl g b cs h hb) (fun g_34 p_34 => ?_)
      refine J_iload_n (nx := 38) dX8_readDeeper_37 rfl rfl ?_
      refine J_if_ne (nx := 41) (tgt := 64) dX8_readDeeper_38 rfl (by decide) (fun c_38 => ?_) (fun c_38 => ?_)
      · refine J_aload_n (nx := 65) dX8_readDeeper_64 rfl rfl ?_
        have e0 : pAtom o rl (d + 1) b cs = (match pAtom o rl d (oNxt o b) cs with | .inl e => .inl e | .inr q => .inr (q.1, q.2 ++ [10013])) := if_pos c_21
        refine J_iload_n (nx := 66) dX8_readDeeper_65 rfl rfl ?_
        refine JiV1 (R' := rm (2 + 4 * d) 0 0) (nx := 69) dX8_readDeeper_66 rfl ml_X8_readAtom lk_X8_194 iv_X8_readAtom rfl rfl (rm_room (by omega) (by decide)) (Nat.le_of_ble_eq_true rfl) ⟨rfl, rfl⟩ (hA g_34 (oNxt o b) cs p_34.2 (by omega)) (fun x_66 g_66 p_66 => ?_)
        refine J_if_ne (nx := 72) (tgt := 74) dX8_readDeeper_69 rfl (by decide) (fun c_69 => ?_) (fun c_69 => ?_)
        · obtain ⟨q, hq, hT⟩ := p_66.goes c_69
          have hok := pAtom_ok ho rl d (oNxt o b) cs hn1.2
          rw [hq] at hok
          have hok2 := hok.2
          have ho1 := ho.1
          refine J_aload_n (nx := 75) dX8_readDeeper_74 rfl rfl ?_
          refine J_sipush (nx := 78) (i := 10013) (v := 10013) (by decide) dX8_readDeeper_75 rfl ?_
          refine JvV1 (R' := rm (0) 0 0) (nx := 81) dX8_readDeeper_78 rfl ml_X8_addCell lk_X8_190 iv_X8_addCell rfl rfl (rm_room (by omega) (by decide)) (Nat.le_of_ble_eq_true rfl) ⟨rfl, rfl⟩ (ct_addx o rl g_66 q.1 q.2 10013 hT (by omega)) (fun g_78 p_78 => ?_)
          refine J_iconst (nx := 82) (i := 1) (v := 1) (by decide) dX8_readDeeper_81 rfl ?_
          exact Jrz dX8_readDeeper_82 rfl (by decide) (Nat.zero_le _) (Nat.zero_le _) (RXi.of (PP.yes ((p_34.1.tr p_66.1).tr p_78.1) p_78.2 (e0.trans (by rw [hq]))))
        · refine J_iconst (nx := 73) (i := 0) (v := 0) (by decide) dX8_readDeeper_72 rfl ?_
          exact Jrz dX8_readDeeper_73 rfl (by decide) (Nat.zero_le _) (Nat.zero_le _) (RXi.of (PP.fail p_34.1 p_66 c_69 (fun e he => e0.trans (by rw [he]))))
      · exact absurd c_38 (by decide)
  · exact absurd hx c_3

set_option maxRecDepth 100000 in
set_option maxHeartbeats 4000000 in
theorem ct_deeper7 (o : Ob) (ho : ObOK o) (rl : Bool) (g : GS) (b : Nat) (cs : List Int32) (h : TS o rl g b cs) (hd : oWrd o b = 14 ∨ oSgn o b = 40) : Ct mX8_readDeeper (rm 1 0 0) [.ref 7, .int 7] (Wd g) (RXi (PP o rl g (pAtom o rl 0 b cs))) := by
  refine Ct.of (by decide +kernel) (Nat.le_of_ble_eq_true rfl) ?_
  show J _ _ _ _ 0 [some (.ref 7), some (.int 7), none] [] _ 0 0
  refine J_iload_n (nx := 1) dX8_readDeeper_0 rfl rfl ?_
  refine J_bipush (nx := 3) (i := 6) (v := 6) (by decide) dX8_readDeeper_1 rfl ?_
  refine J_icmp_le (nx := 6) (tgt := 11) dX8_readDeeper_3 rfl (by decide) (fun c_3 => ?_) (fun c_3 => ?_)
  · exact absurd c_3 (by decide)
  · refine J_aload_n (nx := 7) dX8_readDeeper_6 rfl rfl ?_
    refine JcV0 (R' := rm (0) 0 0) (nx := 10) dX8_readDeeper_7 rfl ml_X8_wrong lk_X8_47 iv_X8_wrong rfl rfl ⟨(Nat.le_of_ble_eq_true rfl), (Nat.le_of_ble_eq_true rfl)⟩ (Nat.le_of_ble_eq_true rfl) ⟨rfl, rfl⟩ (ct_wrong _) ?_
    exact Jrz dX8_readDeeper_10 rfl (by decide) (Nat.zero_le _) (Nat.zero_le _) (RXi.of (PP.no Fr.rf h (pAtom_no hd)))


theorem ct_readAtom (o : Ob) (ho : ObOK o) (rl : Bool) : ∀ (d : Nat), d ≤ 6 → ∀ (g : GS) (b : Nat) (cs : List Int32), TS o rl g b cs → cs.length ≤ b → Ct mX8_readAtom (rm (2 + 4 * d) 0 0) [.ref 7, .int (nI (6 - d))] (Wd g) (RXi (PP o rl g (pAtom o rl d b cs)))
  | 0, _, g, b, cs, h, hl => ct_atom0 o ho rl 0 (nI 6) (fun g b cs h hl hd => ct_deeper7 o ho rl g b cs h hd) g b cs h hl
  | d + 1, h6, g, b, cs, h, hl => by
    have hA := ct_readAtom o ho rl d (by omega)
    refine ct_atom0 o ho rl (d + 1) (nI (6 - (d + 1))) (fun g b cs h hl hd => ?_) g b cs h hl
    have e : nI (6 - (d + 1)) + 1 = nI (6 - d) := by rw [nI_1]; congr 1; omega
    rw [e, show 1 + 4 * (d + 1) = 5 + 4 * d by omega]
    exact ct_deeper o ho rl d (nI (6 - d)) (show nI (6 - d) ≤ nI 6 from nI_le (by omega) (by decide)) hA (ct_readCond o ho rl d (nI (6 - d)) (ct_readAll o ho rl d (nI (6 - d)) hA)) g b cs h hl hd
theorem ct_cond (o : Ob) (ho : ObOK o) (rl : Bool) (g : GS) (b : Nat) (cs : List Int32) (h : TS o rl g b cs) (hl : cs.length ≤ b) : Ct mX8_readCondition (rm 28 0 0) [.ref 7, .int 0] (Wd g) (RXi (PP o rl g (pCond o rl 6 b cs))) :=
  ct_readCond o ho rl 6 (nI 0) (ct_readAll o ho rl 6 (nI 0) (ct_readAtom o ho rl 6 (by omega))) g b cs h hl

