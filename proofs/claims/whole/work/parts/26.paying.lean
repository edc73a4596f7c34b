
theorem it_F (q : Option CD) (j n : Nat) (g : GS) : gF (itN (lyF q j) n g) = gF g := by
  induction n with
  | zero => rfl
  | succ n ih => rw [itN_s]; show gF (dcAll _ _ _ _) = _; rw [dc_F, ih]
theorem it_P (q : Option CD) (j n : Nat) (g : GS) : gP (itN (lyF q j) n g) = gP g := by
  induction n with
  | zero => rfl
  | succ n ih => rw [itN_s]; show gP (dcAll _ _ _ _) = _; rw [dc_P, ih]
theorem it_T (q : Option CD) (j n : Nat) (g : GS) : gT (itN (lyF q j) n g) = gT g := by
  induction n with
  | zero => rfl
  | succ n ih => rw [itN_s]; show gT (dcAll _ _ _ _) = _; rw [dc_T, ih]
theorem lyD_F (q : Option CD) (j : Nat) (g : GS) : gF (lyD q j g) = gF g := by
  induction j generalizing g with
  | zero => rw [lyD_0, it_F]
  | succ j ih => rw [lyD_s, ih, it_F]
theorem lyD_P (q : Option CD) (j : Nat) (g : GS) : gP (lyD q j g) = gP g := by
  induction j generalizing g with
  | zero => rw [lyD_0, it_P]
  | succ j ih => rw [lyD_s, ih, it_P]
theorem lyD_T (q : Option CD) (j : Nat) (g : GS) : gT (lyD q j g) = gT g := by
  induction j generalizing g with
  | zero => rw [lyD_0, it_T]
  | succ j ih => rw [lyD_s, ih, it_T]
theorem ly_F8 (g : GS) (so z card : Int32) (q : Option CD) (G : Nat) : gF (lyAll g so z card q G) 40 8 = gF g 40 8 := by unfold lyAll; rw [lyD_F]; rfl
theorem ly_F12 (g : GS) (so z card : Int32) (q : Option CD) (G : Nat) : gF (lyAll g so z card q G) 40 12 = gF g 40 12 := by unfold lyAll; rw [lyD_F]; rfl
theorem ly_P (g : GS) (so z card : Int32) (q : Option CD) (G : Nat) : gP (lyAll g so z card q G) = gP g := by unfold lyAll; rw [lyD_P]; rfl
theorem ly_T (g : GS) (so z card : Int32) (q : Option CD) (G : Nat) : gT (lyAll g so z card q G) = gT g := by unfold lyAll; rw [lyD_T]; rfl
/-- what lay() needs, and keeps -/
def LayOK (g : GS) (q : Option CD) (G : Nat) : Prop := JudgeAt g q ∧ gF g 40 12 = nI G ∧ G ≤ 10
theorem LayOK.ly {g : GS} {q : Option CD} {G : Nat} (h : LayOK g q G) (so z card : Int32) : LayOK (lyAll g so z card q G) q G :=
  ⟨h.1.congr (ly_F8 _ _ _ _ _ _) (ly_P _ _ _ _ _ _) (ly_T _ _ _ _ _ _), by rw [ly_F12]; exact h.2.1, h.2.2⟩
theorem ct_lay1 (g : GS) (so z card : Int32) (q : Option CD) (G : Nat) (h : LayOK g q G) : Ct mX0_lay (rm 4 0 0) [.ref 40, .int so, .int z, .int card] (Wd g) (RR (.inl none) (lyAll g so z card q G)) := ct_lay g so z card q G h.1 h.2.1 (by have := h.2.2; omega)
def usr (x y : Int32) : Int32 := (x.toUInt32 >>> (y.toUInt32 &&& Int32.toUInt32 31)).toInt32
def pyG (q : Option CD) (G : Nat) (so card sts : Int32) (s : Nat) (g : GS) : GS :=
  if ¬ nI s - nI s / 4 * 4 = 0 then g else if usr sts (nI s) &&& 15 = 0 then g else lyAll g so (nI s / 4) card q G
def pyB (sts : Int32) (g : GS) (s : Nat) (b : Int32) : Int32 :=
  if usr sts (nI s) &&& 1 = 0 then b else if gnI g (nI s) ≤ 0 then b else b ||| 1 <<< (nI s &&& 31)
def pyStep (q : Option CD) (G : Nat) (so card sts : Int32) (s : Nat) (p : Int32 × GS) : Int32 × GS :=
  (pyB sts (pyG q G so card sts s p.2) s p.1, pyG q G so card sts s p.2)
def pyAll (q : Option CD) (G : Nat) (so card sts : Int32) (g : GS) : Int32 × GS := itN (pyStep q G so card sts) 32 (0, g)
theorem LayOK.pyg {g : GS} {q : Option CD} {G : Nat} (h : LayOK g q G) (so card sts : Int32) (s : Nat) : LayOK (pyG q G so card sts s g) q G := by
  unfold pyG
  split
  · exact h
  · split
    · exact h
    · exact h.ly _ _ _
theorem LayOK.pyN {g : GS} {q : Option CD} {G : Nat} (h : LayOK g q G) (so card sts b : Int32) (n : Nat) : LayOK (itN (pyStep q G so card sts) n (b, g)).2 q G := by
  induction n with
  | zero => exact h
  | succ n ih => rw [itN_s]; exact ih.pyg so card sts n
def sL (f : Nat → Int64) : Nat → Int64
  | 0 => 0
  | n + 1 => sL f n + f n
def rwI (g : GS) (so : Int32) (z : Nat) : Int64 := sL (fun i => (bk_rt g 20 so (nI (4 * z + i))).toInt64 * (woI g 0 (nI (4 * z + i))).toInt64) 4
def srF (g : GS) (so : Int32) (z i : Nat) : Int64 := if ¬ deI g 0 (nI (4 * z + i)) = 0 then 0 else (bk_rt g 20 so (nI (4 * z + i))).toInt64
def srI (g : GS) (so : Int32) (z : Nat) : Int64 := sL (srF g so z) 4
theorem z4_e (z : Nat) : (4 : Int32) * (nI z + 1) = nI (4 * z + 4) := by
  rw [nI_1, show (4 : Int32) = nI 4 from rfl, nI_mul]
  rfl

set_option maxRecDepth 100000 in
set_option maxHeartbeats 4000000 in
theorem lp_paying (q : Option CD) (G : Nat) (so card sts : Int32) (g : GS) (hL : LayOK g q G) (Q : Res → List ME → Prop) (n0 : Nat) (hK : J mX0_paying (rm 5 0 0) Q n0 77 [some (.ref 40), some (.int so), some (.int card), some (.int sts), some (.int (itN (pyStep q G so card sts) 32 (0, g)).1), some (.int (nI 32)), none] [] (Wd (itN (pyStep q G so card sts) 32 (0, g)).2) 0 0) : ∀ (k w : Nat), w ≤ 32 → 32 + 1 ≤ w + k → J mX0_paying (rm 5 0 0) Q n0 6 [some (.ref 40), some (.int so), some (.int card), some (.int sts), some (.int (itN (pyStep q G so card sts) w (0, g)).1), some (.int (nI w)), none] [] (Wd (itN (pyStep q G so card sts) w (0, g)).2) 0 0 := by
  intro k
  induction k with
  | zero => intro w h1 h2; exact absurd h2 (by omega)
  | succ k ih =>
    intro w h1 h2
    refine J_iload (nx := 8) dX0_paying_6 rfl rfl ?_
    refine J_bipush (nx := 10) (i := 32) (v := 32) (by decide) dX0_paying_8 rfl ?_
    refine J_icmp_ge (nx := 13) (tgt := 77) dX0_paying_10 rfl (by decide) (fun c_10 => ?_) (fun c_10 => ?_)
    · obtain rfl : w = 32 := cge h1 (by omega) c_10
      exact hK
    · have hw : w < 32 := clt h1 (by omega) c_10
      have ih2 := ih (w + 1) (by omega) (by omega)
      have hP := hL.pyN so card sts 0 w
      rw [← nI_s w, itN_s (pyStep q G so card sts) w (0, g)] at ih2
      generalize itN (pyStep q G so card sts) w (0, g) = P at ih2 hP ⊢
      refine J_iload (nx := 15) dX0_paying_13 rfl rfl ?_
      refine J_iconst (nx := 16) (i := 4) (v := 4) (by decide) dX0_paying_15 rfl ?_
      refine J_idiv (nx := 17) (by decide) dX0_paying_16 rfl ?_
      refine J_istore (nx := 19) dX0_paying_17 rfl rfl (Nat.le_of_ble_eq_true rfl) ?_
      refine J_iload (nx := 21) dX0_paying_19 rfl rfl ?_
      refine J_iconst (nx := 22) (i := 4) (v := 4) (by decide) dX0_paying_21 rfl ?_
      refine J_irem (nx := 23) (by decide) dX0_paying_22 rfl ?_
      refine J_if_ne (nx := 26) (tgt := 44) dX0_paying_23 rfl (by decide) (fun c_23 => ?_) (fun c_23 => ?_)
      · have e1 : pyG q G so card sts w P.2 = P.2 := by
          unfold pyG
          first | rw [if_pos c_23] | (rw [if_neg (fun z => z c_23)]; first | (rw [if_pos (show usr sts (nI w) &&& 15 = 0 from c_33)]) | (rw [if_neg (show ¬ usr sts (nI w) &&& 15 = 0 from c_33)]))
        refine J_iload_n (nx := 45) dX0_paying_44 rfl rfl ?_
        refine J_iload (nx := 47) dX0_paying_45 rfl rfl ?_
        refine J_iushr (nx := 48) dX0_paying_47 rfl ?_
        refine J_iconst (nx := 49) (i := 1) (v := 1) (by decide) dX0_paying_48 rfl ?_
        refine J_iand (nx := 50) dX0_paying_49 rfl ?_
        refine J_if_eq (nx := 53) (tgt := 71) dX0_paying_50 rfl (by decide) (fun c_50 => ?_) (fun c_50 => ?_)
        · refine J_iinc (nx := 74) dX0_paying_71 rfl rfl rfl (Nat.le_of_ble_eq_true rfl) ?_
          refine J_goto (nx := 6) dX0_paying_74 (by decide) ?_
          refine J_kill (nx := 0) 6 ?_
          rw [show pyStep q G so card sts w P = (pyB sts P.2 w P.1, P.2) from by unfold pyStep; rw [e1]] at ih2
          first
            | rw [show pyB sts P.2 w P.1 = P.1 from if_pos c_50] at ih2
            | rw [show pyB sts P.2 w P.1 = P.1 from (if_neg c_50).trans (if_pos c_59)] at ih2
            | rw [show pyB sts P.2 w P.1 = P.1 ||| 1 <<< (nI w &&& 31) from (if_neg c_50).trans (if_neg c_59)] at ih2
          exact ih2
        · refine J_aload_n (nx := 54) dX0_paying_53 rfl rfl ?_
          refine J_iload (nx := 56) dX0_paying_54 rfl rfl ?_
          refine JcV1 (R' := rm 2 0 0) (nx := 59) dX0_paying_56 rfl ml_X0_gain lk_X0_165 iv_X0_gain rfl rfl ⟨(Nat.le_of_ble_eq_true rfl), (Nat.le_of_ble_eq_true rfl)⟩ (Nat.le_of_ble_eq_true rfl) ⟨rfl, rfl⟩ (ct_gain _ _) ?_
          refine J_if_le (nx := 62) (tgt := 71) dX0_paying_59 rfl (by decide) (fun c_59 => ?_) (fun c_59 => ?_)
          · refine J_iinc (nx := 74) dX0_paying_71 rfl rfl rfl (Nat.le_of_ble_eq_true rfl) ?_
            refine J_goto (nx := 6) dX0_paying_74 (by decide) ?_
            refine J_kill (nx := 0) 6 ?_
            rw [show pyStep q G so card sts w P = (pyB sts P.2 w P.1, P.2) from by unfold pyStep; rw [e1]] at ih2
            first
              | rw [show pyB sts P.2 w P.1 = P.1 from if_pos c_50] at ih2
              | rw [show pyB sts P.2 w P.1 = P.1 from (if_neg c_50).trans (if_pos c_59)] at ih2
              | rw [show pyB sts P.2 w P.1 = P.1 ||| 1 <<< (nI w &&& 31) from (if_neg c_50).trans (if_neg c_59)] at ih2
            exact ih2
          · refine J_iload (nx := 64) dX0_paying_62 rfl rfl ?_
            refine J_iconst (nx := 65) (i := 1) (v := 1) (by decide) dX0_paying_64 rfl ?_
            refine J_iload (nx := 67) dX0_paying_65 rfl rfl ?_
            refine J_ishl (nx := 68) dX0_paying_67 rfl ?_
            refine J_ior (nx := 69) dX0_paying_68 rfl ?_
            refine J_istore (nx := 71) dX0_paying_69 rfl rfl (Nat.le_of_ble_eq_true rfl) ?_
            refine J_iinc (nx := 74) dX0_paying_71 rfl rfl rfl (Nat.le_of_ble_eq_true rfl) ?_
            refine J_goto (nx := 6) dX0_paying_74 (by decide) ?_
            refine J_kill (nx := 0) 6 ?_
            rw [show pyStep q G so card sts w P = (pyB sts P.2 w P.1, P.2) from by unfold pyStep; rw [e1]] at ih2
            first
              | rw [show pyB sts P.2 w P.1 = P.1 from if_pos c_50] at ih2
              | rw [show pyB sts P.2 w P.1 = P.1 from (if_neg c_50).trans (if_pos c_59)] at ih2
              | rw [show pyB sts P.2 w P.1 = P.1 ||| 1 <<< (nI w &&& 31) from (if_neg c_50).trans (if_neg c_59)] at ih2
            exact ih2
      · refine J_iload_n (nx := 27) dX0_paying_26 rfl rfl ?_
        refine J_iload (nx := 29) dX0_paying_27 rfl rfl ?_
        refine J_iushr (nx := 30) dX0_paying_29 rfl ?_
        refine J_bipush (nx := 32) (i := 15) (v := 15) (by decide) dX0_paying_30 rfl ?_
        refine J_iand (nx := 33) dX0_paying_32 rfl ?_
        refine J_if_eq (nx := 36) (tgt := 44) dX0_paying_33 rfl (by decide) (fun c_33 => ?_) (fun c_33 => ?_)
        · have e1 : pyG q G so card sts w P.2 = P.2 := by
            unfold pyG
            first | rw [if_pos c_23] | (rw [if_neg (fun z => z c_23)]; first | (rw [if_pos (show usr sts (nI w) &&& 15 = 0 from c_33)]) | (rw [if_neg (show ¬ usr sts (nI w) &&& 15 = 0 from c_33)]))
          refine J_iload_n (nx := 45) dX0_paying_44 rfl rfl ?_
          refine J_iload (nx := 47) dX0_paying_45 rfl rfl ?_
          refine J_iushr (nx := 48) dX0_paying_47 rfl ?_
          refine J_iconst (nx := 49) (i := 1) (v := 1) (by decide) dX0_paying_48 rfl ?_
          refine J_iand (nx := 50) dX0_paying_49 rfl ?_
          refine J_if_eq (nx := 53) (tgt := 71) dX0_paying_50 rfl (by decide) (fun c_50 => ?_) (fun c_50 => ?_)
          · refine J_iinc (nx := 74) dX0_paying_71 rfl rfl rfl (Nat.le_of_ble_eq_true rfl) ?_
            refine J_goto (nx := 6) dX0_paying_74 (by decide) ?_
            refine J_kill (nx := 0) 6 ?_
            rw [show pyStep q G so card sts w P = (pyB sts P.2 w P.1, P.2) from by unfold pyStep; rw [e1]] at ih2
            first
              | rw [show pyB sts P.2 w P.1 = P.1 from if_pos c_50] at ih2
              | rw [show pyB sts P.2 w P.1 = P.1 from (if_neg c_50).trans (if_pos c_59)] at ih2
              | rw [show pyB sts P.2 w P.1 = P.1 ||| 1 <<< (nI w &&& 31) from (if_neg c_50).trans (if_neg c_59)] at ih2
            exact ih2
          · refine J_aload_n (nx := 54) dX0_paying_53 rfl rfl ?_
            refine J_iload (nx := 56) dX0_paying_54 rfl rfl ?_
            refine JcV1 (R' := rm 2 0 0) (nx := 59) dX0_paying_56 rfl ml_X0_gain lk_X0_165 iv_X0_gain rfl rfl ⟨(Nat.le_of_ble_eq_true rfl), (Nat.le_of_ble_eq_true rfl)⟩ (Nat.le_of_ble_eq_true rfl) ⟨rfl, rfl⟩ (ct_gain _ _) ?_
            refine J_if_le (nx := 62) (tgt := 71) dX0_paying_59 rfl (by decide) (fun c_59 => ?_) (fun c_59 => ?_)
            · refine J_iinc (nx := 74) dX0_paying_71 rfl rfl rfl (Nat.le_of_ble_eq_true rfl) ?_
              refine J_goto (nx := 6) dX0_paying_74 (by decide) ?_
              refine J_kill (nx := 0) 6 ?_
              rw [show pyStep q G so card sts w P = (pyB sts P.2 w P.1, P.2) from by unfold pyStep; rw [e1]] at ih2
              first
                | rw [show pyB sts P.2 w P.1 = P.1 from if_pos c_50] at ih2
                | rw [show pyB sts P.2 w P.1 = P.1 from (if_neg c_50).trans (if_pos c_59)] at ih2
                | rw [show pyB sts P.2 w P.1 = P.1 ||| 1 <<< (nI w &&& 31) from (if_neg c_50).trans (if_neg c_59)] at ih2
              exact ih2
            · refine J_iload (nx := 64) dX0_paying_62 rfl rfl ?_
              refine J_iconst (nx := 65) (i := 1) (v := 1) (by decide) dX0_paying_64 rfl ?_
              refine J_iload (nx := 67) dX0_paying_65 rfl rfl ?_
              refine J_ishl (nx := 68) dX0_paying_67 rfl ?_
              refine J_ior (nx := 69) dX0_paying_68 rfl ?_
              refine J_istore (nx := 71) dX0_paying_69 rfl rfl (Nat.le_of_ble_eq_true rfl) ?_
              refine J_iinc (nx := 74) dX0_paying_71 rfl rfl rfl (Nat.le_of_ble_eq_true rfl) ?_
              refine J_goto (nx := 6) dX0_paying_74 (by decide) ?_
              refine J_kill (nx := 0) 6 ?_
              rw [show pyStep q G so card sts w P = (pyB sts P.2 w P.1, P.2) from by unfold pyStep; rw [e1]] at ih2
              first
                | rw [show pyB sts P.2 w P.1 = P.1 from if_pos c_50] at ih2
                | rw [show pyB sts P.2 w P.1 = P.1 from (if_neg c_50).trans (if_pos c_59)] at ih2
                | rw [show pyB sts P.2 w P.1 = P.1 ||| 1 <<< (nI w &&& 31) from (if_neg c_50).trans (if_neg c_59)] at ih2
              exact ih2
        · refine J_aload_n (nx := 37) dX0_paying_36 rfl rfl ?_
          refine J_iload_n (nx := 38) dX0_paying_37 rfl rfl ?_
          refine J_iload (nx := 40) dX0_paying_38 rfl rfl ?_
          refine J_iload_n (nx := 41) dX0_paying_40 rfl rfl ?_
          refine JcV3 (R' := rm 4 0 0) (nx := 44) dX0_paying_41 rfl ml_X0_lay lk_X0_161 iv_X0_lay rfl rfl ⟨(Nat.le_of_ble_eq_true rfl), (Nat.le_of_ble_eq_true rfl)⟩ (Nat.le_of_ble_eq_true rfl) ⟨rfl, rfl⟩ (ct_lay1 _ _ _ _ q G (hP)) ?_
          refine J.gen (fun g_41 hg_41 => ?_)
          have e1 : pyG q G so card sts w P.2 = g_41 := by
            unfold pyG
            first | rw [if_pos c_23] | (rw [if_neg (fun z => z c_23)]; first | (rw [if_pos (show usr sts (nI w) &&& 15 = 0 from c_33)]) | (rw [if_neg (show ¬ usr sts (nI w) &&& 15 = 0 from c_33), hg_41]))
          refine J_iload_n (nx := 45) dX0_paying_44 rfl rfl ?_
          refine J_iload (nx := 47) dX0_paying_45 rfl rfl ?_
          refine J_iushr (nx := 48) dX0_paying_47 rfl ?_
          refine J_iconst (nx := 49) (i := 1) (v := 1) (by decide) dX0_paying_48 rfl ?_
          refine J_iand (nx := 50) dX0_paying_49 rfl ?_
          refine J_if_eq (nx := 53) (tgt := 71) dX0_paying_50 rfl (by decide) (fun c_50 => ?_) (fun c_50 => ?_)
          · refine J_iinc (nx := 74) dX0_paying_71 rfl rfl rfl (Nat.le_of_ble_eq_true rfl) ?_
            refine J_goto (nx := 6) dX0_paying_74 (by decide) ?_
            refine J_kill (nx := 0) 6 ?_
            rw [show pyStep q G so card sts w P = (pyB sts g_41 w P.1, g_41) from by unfold pyStep; rw [e1]] at ih2
            first
              | rw [show pyB sts g_41 w P.1 = P.1 from if_pos c_50] at ih2
              | rw [show pyB sts g_41 w P.1 = P.1 from (if_neg c_50).trans (if_pos c_59)] at ih2
              | rw [show pyB sts g_41 w P.1 = P.1 ||| 1 <<< (nI w &&& 31) from (if_neg c_50).trans (if_neg c_59)] at ih2
            exact ih2
          · refine J_aload_n (nx := 54) dX0_paying_53 rfl rfl ?_
            refine J_iload (nx := 56) dX0_paying_54 rfl rfl ?_
            refine JcV1 (R' := rm 2 0 0) (nx := 59) dX0_paying_56 rfl ml_X0_gain lk_X0_165 iv_X0_gain rfl rfl ⟨(Nat.le_of_ble_eq_true rfl), (Nat.le_of_ble_eq_true rfl)⟩ (Nat.le_of_ble_eq_true rfl) ⟨rfl, rfl⟩ (ct_gain _ _) ?_
            refine J_if_le (nx := 62) (tgt := 71) dX0_paying_59 rfl (by decide) (fun c_59 => ?_) (fun c_59 => ?_)
            · refine J_iinc (nx := 74) dX0_paying_71 rfl rfl rfl (Nat.le_of_ble_eq_true rfl) ?_
              refine J_goto (nx := 6) dX0_paying_74 (by decide) ?_
              refine J_kill (nx := 0) 6 ?_
              rw [show pyStep q G so card sts w P = (pyB sts g_41 w P.1, g_41) from by unfold pyStep; rw [e1]] at ih2
              first
                | rw [show pyB sts g_41 w P.1 = P.1 from if_pos c_50] at ih2
                | rw [show pyB sts g_41 w P.1 = P.1 from (if_neg c_50).trans (if_pos c_59)] at ih2
                | rw [show pyB sts g_41 w P.1 = P.1 ||| 1 <<< (nI w &&& 31) from (if_neg c_50).trans (if_neg c_59)] at ih2
              exact ih2
            · refine J_iload (nx := 64) dX0_paying_62 rfl rfl ?_
              refine J_iconst (nx := 65) (i := 1) (v := 1) (by decide) dX0_paying_64 rfl ?_
              refine J_iload (nx := 67) dX0_paying_65 rfl rfl ?_
              refine J_ishl (nx := 68) dX0_paying_67 rfl ?_
              refine J_ior (nx := 69) dX0_paying_68 rfl ?_
              refine J_istore (nx := 71) dX0_paying_69 rfl rfl (Nat.le_of_ble_eq_true rfl) ?_
              refine J_iinc (nx := 74) dX0_paying_71 rfl rfl rfl (Nat.le_of_ble_eq_true rfl) ?_
              refine J_goto (nx := 6) dX0_paying_74 (by decide) ?_
              refine J_kill (nx := 0) 6 ?_
              rw [show pyStep q G so card sts w P = (pyB sts g_41 w P.1, g_41) from by unfold pyStep; rw [e1]] at ih2
              first
                | rw [show pyB sts g_41 w P.1 = P.1 from if_pos c_50] at ih2
                | rw [show pyB sts g_41 w P.1 = P.1 from (if_neg c_50).trans (if_pos c_59)] at ih2
                | rw [show pyB sts g_41 w P.1 = P.1 ||| 1 <<< (nI w &&& 31) from (if_neg c_50).trans (if_neg c_59)] at ih2
              exact ih2

set_option maxRecDepth 100000 in
set_option maxHeartbeats 4000000 in
theorem ct_paying (g : GS) (q : Option CD) (G : Nat) (so card sts : Int32) (hL : LayOK g q G) : Ct mX0_paying (rm 5 0 0) [.ref 40, .int so, .int card, .int sts] (Wd g) (RR (.inl (some (.int (pyAll q G so card sts g).1))) (pyAll q G so card sts g).2) := by
  refine Ct.of (by decide +kernel) (Nat.le_of_ble_eq_true rfl) ?_
  show J _ _ _ _ 0 [some (.ref 40), some (.int so), some (.int card), some (.int sts), none, none, none] [] _ 0 0
  refine J_iconst (nx := 1) (i := 0) (v := 0) (by decide) dX0_paying_0 rfl ?_
  refine J_istore (nx := 3) dX0_paying_1 rfl rfl (Nat.le_of_ble_eq_true rfl) ?_
  refine J_iconst (nx := 4) (i := 0) (v := 0) (by decide) dX0_paying_3 rfl ?_
  refine J_istore (nx := 6) dX0_paying_4 rfl rfl (Nat.le_of_ble_eq_true rfl) ?_
  refine lp_paying q G so card sts g hL _ _ ?_ 33 0 (by omega) (by omega)
  unfold pyAll
  generalize itN (pyStep q G so card sts) 32 (0, g) = P
  refine J_iload (nx := 79) dX0_paying_77 rfl rfl ?_
  exact Jri dX0_paying_79 rfl (Nat.zero_le _) (Nat.zero_le _) ⟨rfl, rfl⟩

set_option maxRecDepth 100000 in
set_option maxHeartbeats 4000000 in
theorem lp_ratedWorth (g : GS) (so : Int32) (z : Nat) (hz : z < 8) (n0 : Nat) : ∀ (k i : Nat), i ≤ 4 → 4 + 1 ≤ i + k → J mX0_ratedWorth (rm 2 0 0) (RR (.inl (some (.long (rwI g so z)))) g) n0 7 [some (.ref 40), some (.int so), some (.int (nI z)), some (.long (sL (fun i => (bk_rt g 20 so (nI (4 * z + i))).toInt64 * (woI g 0 (nI (4 * z + i))).toInt64) i)), none, some (.int (nI (4 * z + i)))] [] (Wd g) 0 0 := by
  intro k
  induction k with
  | zero => intro i h1 h2; exact absurd h2 (by omega)
  | succ k ih =>
    intro i h1 h2
    refine J_iload (nx := 9) dX0_ratedWorth_7 rfl rfl ?_
    refine J_iconst (nx := 10) (i := 4) (v := 4) (by decide) dX0_ratedWorth_9 rfl ?_
    refine J_iload_n (nx := 11) dX0_ratedWorth_10 rfl rfl ?_
    refine J_iconst (nx := 12) (i := 1) (v := 1) (by decide) dX0_ratedWorth_11 rfl ?_
    refine J_iadd (nx := 13) dX0_ratedWorth_12 rfl ?_
    refine J_imul (nx := 14) dX0_ratedWorth_13 rfl ?_
    refine J_icmp_ge (nx := 17) (tgt := 46) dX0_ratedWorth_14 rfl (by decide) (fun c_14 => ?_) (fun c_14 => ?_)
    · rw [z4_e] at c_14
      obtain rfl : i = 4 := by have := (nI_leI (by omega) (by omega)).mp c_14; omega
      refine J_lload_n (nx := 47) dX0_ratedWorth_46 rfl rfl ?_
      exact Jrl dX0_ratedWorth_47 rfl (Nat.zero_le _) (Nat.zero_le _) ⟨rfl, rfl⟩
    · rw [z4_e] at c_14
      have hi : i < 4 := by
        rcases Nat.lt_or_ge i 4 with h | h
        · exact h
        · exact absurd ((nI_leI (by omega) (by omega)).mpr (show 4 * z + 4 ≤ 4 * z + i by omega)) c_14
      have ih2 := ih (i + 1) (by omega) (by omega)
      rw [show 4 * z + (i + 1) = (4 * z + i) + 1 from rfl, ← nI_s (4 * z + i), show sL (fun i => (bk_rt g 20 so (nI (4 * z + i))).toInt64 * (woI g 0 (nI (4 * z + i))).toInt64) (i + 1) = sL (fun i => (bk_rt g 20 so (nI (4 * z + i))).toInt64 * (woI g 0 (nI (4 * z + i))).toInt64) i + (fun i => (bk_rt g 20 so (nI (4 * z + i))).toInt64 * (woI g 0 (nI (4 * z + i))).toInt64) i from rfl] at ih2
      refine J_lload_n (nx := 18) dX0_ratedWorth_17 rfl rfl ?_
      refine J_aload_n (nx := 19) dX0_ratedWorth_18 rfl rfl ?_
      refine Jg_40_0 (nx := 22) dX0_ratedWorth_19 rfl fl_X0_37 ?_
      refine J_iload_n (nx := 23) dX0_ratedWorth_22 rfl rfl ?_
      refine J_iload (nx := 25) dX0_ratedWorth_23 rfl rfl ?_
      refine JcV2 (R' := rm 1 0 0) (nx := 28) dX0_ratedWorth_25 rfl ml_X1_rateOf lk_X0_168 iv_X1_rateOf rfl rfl ⟨(Nat.le_of_ble_eq_true rfl), (Nat.le_of_ble_eq_true rfl)⟩ (Nat.le_of_ble_eq_true rfl) ⟨rfl, rfl⟩ (ct_X1_rateOf _ _ _) ?_
      refine J_i2l (nx := 29) dX0_ratedWorth_28 rfl ?_
      refine J_aload_n (nx := 30) dX0_ratedWorth_29 rfl rfl ?_
      refine J_iconst (nx := 31) (i := 0) (v := 0) (by decide) dX0_ratedWorth_30 rfl ?_
      refine J_iload (nx := 33) dX0_ratedWorth_31 rfl rfl ?_
      refine JcV2 (R' := rm 1 0 0) (nx := 36) dX0_ratedWorth_33 rfl ml_X0_worthAt lk_X0_154 iv_X0_worthAt rfl rfl ⟨(Nat.le_of_ble_eq_true rfl), (Nat.le_of_ble_eq_true rfl)⟩ (Nat.le_of_ble_eq_true rfl) ⟨rfl, rfl⟩ (ct_worthAt _ _ _) ?_
      refine J_i2l (nx := 37) dX0_ratedWorth_36 rfl ?_
      refine J_lmul (nx := 38) dX0_ratedWorth_37 rfl ?_
      refine J_ladd (nx := 39) dX0_ratedWorth_38 rfl ?_
      refine J_lstore_n (nx := 40) dX0_ratedWorth_39 rfl rfl (Nat.le_of_ble_eq_true rfl) ?_
      refine J_iinc (nx := 43) dX0_ratedWorth_40 rfl rfl rfl (Nat.le_of_ble_eq_true rfl) ?_
      refine J_goto (nx := 7) dX0_ratedWorth_43 (by decide) ?_
      exact ih2

set_option maxRecDepth 100000 in
set_option maxHeartbeats 4000000 in
theorem ct_ratedWorth (g : GS) (so : Int32) (z : Nat) (hz : z < 8) : Ct mX0_ratedWorth (rm 2 0 0) [.ref 40, .int so, .int (nI z)] (Wd g) (RR (.inl (some (.long (rwI g so z)))) g) := by
  refine Ct.of (by decide +kernel) (Nat.le_of_ble_eq_true rfl) ?_
  show J _ _ _ _ 0 [some (.ref 40), some (.int so), some (.int (nI z)), none, none, none] [] _ 0 0
  refine J_lconst (nx := 1) (i := 0) (v := 0) (by decide) dX0_ratedWorth_0 rfl ?_
  refine J_lstore_n (nx := 2) dX0_ratedWorth_1 rfl rfl (Nat.le_of_ble_eq_true rfl) ?_
  refine J_iconst (nx := 3) (i := 4) (v := 4) (by decide) dX0_ratedWorth_2 rfl ?_
  refine J_iload_n (nx := 4) dX0_ratedWorth_3 rfl rfl ?_
  refine J_imul (nx := 5) dX0_ratedWorth_4 rfl ?_
  rw [show (4 : Int32) * nI z = nI (4 * z + 0) from nI_mul 4 z]
  refine J_istore (nx := 7) dX0_ratedWorth_5 rfl rfl (Nat.le_of_ble_eq_true rfl) ?_
  exact lp_ratedWorth g so z hz _ 5 0 (by omega) (by omega)

set_option maxRecDepth 100000 in
set_option maxHeartbeats 4000000 in
theorem lp_stoppedRates (g : GS) (so : Int32) (z : Nat) (hz : z < 8) (n0 : Nat) : ∀ (k i : Nat), i ≤ 4 → 4 + 1 ≤ i + k → J mX0_stoppedRates (rm 2 0 0) (RR (.inl (some (.long (srI g so z)))) g) n0 7 [some (.ref 40), some (.int so), some (.int (nI z)), some (.long (sL (srF g so z) i)), none, some (.int (nI (4 * z + i)))] [] (Wd g) 0 0 := by
  intro k
  induction k with
  | zero => intro i h1 h2; exact absurd h2 (by omega)
  | succ k ih =>
    intro i h1 h2
    refine J_iload (nx := 9) dX0_stoppedRates_7 rfl rfl ?_
    refine J_iconst (nx := 10) (i := 4) (v := 4) (by decide) dX0_stoppedRates_9 rfl ?_
    refine J_iload_n (nx := 11) dX0_stoppedRates_10 rfl rfl ?_
    refine J_iconst (nx := 12) (i := 1) (v := 1) (by decide) dX0_stoppedRates_11 rfl ?_
    refine J_iadd (nx := 13) dX0_stoppedRates_12 rfl ?_
    refine J_imul (nx := 14) dX0_stoppedRates_13 rfl ?_
    refine J_icmp_ge (nx := 17) (tgt := 51) dX0_stoppedRates_14 rfl (by decide) (fun c_14 => ?_) (fun c_14 => ?_)
    · rw [z4_e] at c_14
      obtain rfl : i = 4 := by have := (nI_leI (by omega) (by omega)).mp c_14; omega
      refine J_lload_n (nx := 52) dX0_stoppedRates_51 rfl rfl ?_
      exact Jrl dX0_stoppedRates_52 rfl (Nat.zero_le _) (Nat.zero_le _) ⟨rfl, rfl⟩
    · rw [z4_e] at c_14
      have hi : i < 4 := by
        rcases Nat.lt_or_ge i 4 with h | h
        · exact h
        · exact absurd ((nI_leI (by omega) (by omega)).mpr (show 4 * z + 4 ≤ 4 * z + i by omega)) c_14
      have ih2 := ih (i + 1) (by omega) (by omega)
      rw [show 4 * z + (i + 1) = (4 * z + i) + 1 from rfl, ← nI_s (4 * z + i), show sL (srF g so z) (i + 1) = sL (srF g so z) i + (srF g so z) i from rfl] at ih2
      refine J_lload_n (nx := 18) dX0_stoppedRates_17 rfl rfl ?_
      refine J_aload_n (nx := 19) dX0_stoppedRates_18 rfl rfl ?_
      refine J_iconst (nx := 20) (i := 0) (v := 0) (by decide) dX0_stoppedRates_19 rfl ?_
      refine J_iload (nx := 22) dX0_stoppedRates_20 rfl rfl ?_
      refine JcV2 (R' := rm 1 0 0) (nx := 25) dX0_stoppedRates_22 rfl ml_X0_deedAt lk_X0_171 iv_X0_deedAt rfl rfl ⟨(Nat.le_of_ble_eq_true rfl), (Nat.le_of_ble_eq_true rfl)⟩ (Nat.le_of_ble_eq_true rfl) ⟨rfl, rfl⟩ (ct_deedAt _ _ _) ?_
      refine J_if_ne (nx := 28) (tgt := 42) dX0_stoppedRates_25 rfl (by decide) (fun c_25 => ?_) (fun c_25 => ?_)
      · refine J_lconst (nx := 43) (i := 0) (v := 0) (by decide) dX0_stoppedRates_42 rfl ?_
        refine J_ladd (nx := 44) dX0_stoppedRates_43 rfl ?_
        refine J_lstore_n (nx := 45) dX0_stoppedRates_44 rfl rfl (Nat.le_of_ble_eq_true rfl) ?_
        refine J_iinc (nx := 48) dX0_stoppedRates_45 rfl rfl rfl (Nat.le_of_ble_eq_true rfl) ?_
        refine J_goto (nx := 7) dX0_stoppedRates_48 (by decide) ?_
        first
          | rw [show srF g so z i = _ from if_pos c_25] at ih2
          | rw [show srF g so z i = _ from if_neg (fun z => z c_25)] at ih2
        exact ih2
      · refine J_aload_n (nx := 29) dX0_stoppedRates_28 rfl rfl ?_
        refine Jg_40_0 (nx := 32) dX0_stoppedRates_29 rfl fl_X0_37 ?_
        refine J_iload_n (nx := 33) dX0_stoppedRates_32 rfl rfl ?_
        refine J_iload (nx := 35) dX0_stoppedRates_33 rfl rfl ?_
        refine JcV2 (R' := rm 1 0 0) (nx := 38) dX0_stoppedRates_35 rfl ml_X1_rateOf lk_X0_168 iv_X1_rateOf rfl rfl ⟨(Nat.le_of_ble_eq_true rfl), (Nat.le_of_ble_eq_true rfl)⟩ (Nat.le_of_ble_eq_true rfl) ⟨rfl, rfl⟩ (ct_X1_rateOf _ _ _) ?_
        refine J_i2l (nx := 39) dX0_stoppedRates_38 rfl ?_
        refine J_goto (nx := 43) dX0_stoppedRates_39 (by decide) ?_
        refine J_ladd (nx := 44) dX0_stoppedRates_43 rfl ?_
        refine J_lstore_n (nx := 45) dX0_stoppedRates_44 rfl rfl (Nat.le_of_ble_eq_true rfl) ?_
        refine J_iinc (nx := 48) dX0_stoppedRates_45 rfl rfl rfl (Nat.le_of_ble_eq_true rfl) ?_
        refine J_goto (nx := 7) dX0_stoppedRates_48 (by decide) ?_
        first
          | rw [show srF g so z i = _ from if_pos c_25] at ih2
          | rw [show srF g so z i = _ from if_neg (fun z => z c_25)] at ih2
        exact ih2

set_option maxRecDepth 100000 in
set_option maxHeartbeats 4000000 in
theorem ct_stoppedRates (g : GS) (so : Int32) (z : Nat) (hz : z < 8) : Ct mX0_stoppedRates (rm 2 0 0) [.ref 40, .int so, .int (nI z)] (Wd g) (RR (.inl (some (.long (srI g so z)))) g) := by
  refine Ct.of (by decide +kernel) (Nat.le_of_ble_eq_true rfl) ?_
  show J _ _ _ _ 0 [some (.ref 40), some (.int so), some (.int (nI z)), none, none, none] [] _ 0 0
  refine J_lconst (nx := 1) (i := 0) (v := 0) (by decide) dX0_stoppedRates_0 rfl ?_
  refine J_lstore_n (nx := 2) dX0_stoppedRates_1 rfl rfl (Nat.le_of_ble_eq_true rfl) ?_
  refine J_iconst (nx := 3) (i := 4) (v := 4) (by decide) dX0_stoppedRates_2 rfl ?_
  refine J_iload_n (nx := 4) dX0_stoppedRates_3 rfl rfl ?_
  refine J_imul (nx := 5) dX0_stoppedRates_4 rfl ?_
  rw [show (4 : Int32) * nI z = nI (4 * z + 0) from nI_mul 4 z]
  refine J_istore (nx := 7) dX0_stoppedRates_5 rfl rfl (Nat.le_of_ble_eq_true rfl) ?_
  exact lp_stoppedRates g so z hz _ 5 0 (by omega) (by omega)

