
/-! the JDK's Math over longs -/
def fdL (a b : Int64) : Int64 := if 0 ≤ lg_cmp (a ^^^ b) 0 then a / b else if lg_cmp (a / b * b) a = 0 then a / b else a / b - 1
def mxL (a b : Int64) : Int64 := if lg_cmp a b < 0 then b else a
def mnL (a b : Int64) : Int64 := if 0 < lg_cmp a b then b else a
set_option maxRecDepth 100000 in
set_option maxHeartbeats 4000000 in
theorem ct_floorDivL (g : GS) (a b : Int64) (hb : ¬ b = 0) : Ct mJ9_floorDiv_f86c9 (rm 0 0 0) [.long a, .long b] (Wd g) (RR (.inl (some (.long (fdL a b)))) g) := by
  refine Ct.ofF (by decide +kernel) (Nat.le_of_ble_eq_true rfl) ?_
  show J _ _ _ _ 0 [some (.long a), none, some (.long b), none, none, none] [] _ 0 0
  refine J_lload_n (nx := 1) dJ9_floorDiv_f86c9_0 rfl rfl ?_
  refine J_lload_n (nx := 2) dJ9_floorDiv_f86c9_1 rfl rfl ?_
  refine J_ldiv (nx := 3) hb dJ9_floorDiv_f86c9_2 rfl ?_
  refine J_lstore (nx := 5) dJ9_floorDiv_f86c9_3 rfl rfl (Nat.le_of_ble_eq_true rfl) ?_
  refine J_lload_n (nx := 6) dJ9_floorDiv_f86c9_5 rfl rfl ?_
  refine J_lload_n (nx := 7) dJ9_floorDiv_f86c9_6 rfl rfl ?_
  refine J_lxor (nx := 8) dJ9_floorDiv_f86c9_7 rfl ?_
  refine J_lconst (nx := 9) (i := 0) (v := 0) (by decide) dJ9_floorDiv_f86c9_8 rfl ?_
  refine J_lcmp (nx := 10) dJ9_floorDiv_f86c9_9 rfl ?_
  refine J_if_ge (nx := 13) (tgt := 27) dJ9_floorDiv_f86c9_10 rfl (by decide) (fun c_10 => ?_) (fun c_10 => ?_)
  · refine J_lload (nx := 29) dJ9_floorDiv_f86c9_27 rfl rfl ?_
    exact Jrl dJ9_floorDiv_f86c9_29 rfl (Nat.zero_le _) (Nat.zero_le _) (RR.l (by unfold fdL; first | rw [if_pos c_10] | rw [if_neg c_10, if_pos c_19] | rw [if_neg c_10, if_neg c_19]) rfl)
  · refine J_lload (nx := 15) dJ9_floorDiv_f86c9_13 rfl rfl ?_
    refine J_lload_n (nx := 16) dJ9_floorDiv_f86c9_15 rfl rfl ?_
    refine J_lmul (nx := 17) dJ9_floorDiv_f86c9_16 rfl ?_
    refine J_lload_n (nx := 18) dJ9_floorDiv_f86c9_17 rfl rfl ?_
    refine J_lcmp (nx := 19) dJ9_floorDiv_f86c9_18 rfl ?_
    refine J_if_eq (nx := 22) (tgt := 27) dJ9_floorDiv_f86c9_19 rfl (by decide) (fun c_19 => ?_) (fun c_19 => ?_)
    · refine J_lload (nx := 29) dJ9_floorDiv_f86c9_27 rfl rfl ?_
      exact Jrl dJ9_floorDiv_f86c9_29 rfl (Nat.zero_le _) (Nat.zero_le _) (RR.l (by unfold fdL; first | rw [if_pos c_10] | rw [if_neg c_10, if_pos c_19] | rw [if_neg c_10, if_neg c_19]) rfl)
    · refine J_lload (nx := 24) dJ9_floorDiv_f86c9_22 rfl rfl ?_
      refine J_lconst (nx := 25) (i := 1) (v := 1) (by decide) dJ9_floorDiv_f86c9_24 rfl ?_
      refine J_lsub (nx := 26) dJ9_floorDiv_f86c9_25 rfl ?_
      exact Jrl dJ9_floorDiv_f86c9_26 rfl (Nat.zero_le _) (Nat.zero_le _) (RR.l (by unfold fdL; first | rw [if_pos c_10] | rw [if_neg c_10, if_pos c_19] | rw [if_neg c_10, if_neg c_19]) rfl)

set_option maxRecDepth 100000 in
set_option maxHeartbeats 4000000 in
theorem ct_maxL (g : GS) (a b : Int64) : Ct mJ9_max_f86c9 (rm 0 0 0) [.long a, .long b] (Wd g) (RR (.inl (some (.long (mxL a b)))) g) := by
  refine Ct.ofF (by decide +kernel) (Nat.le_of_ble_eq_true rfl) ?_
  show J _ _ _ _ 0 [some (.long a), none, some (.long b), none] [] _ 0 0
  refine J_lload_n (nx := 1) dJ9_max_f86c9_0 rfl rfl ?_
  refine J_lload_n (nx := 2) dJ9_max_f86c9_1 rfl rfl ?_
  refine J_lcmp (nx := 3) dJ9_max_f86c9_2 rfl ?_
  refine J_if_lt (nx := 6) (tgt := 10) dJ9_max_f86c9_3 rfl (by decide) (fun c_3 => ?_) (fun c_3 => ?_)
  · refine J_lload_n (nx := 11) dJ9_max_f86c9_10 rfl rfl ?_
    exact Jrl dJ9_max_f86c9_11 rfl (Nat.zero_le _) (Nat.zero_le _) (RR.l (by unfold mxL; first | rw [if_pos c_3] | rw [if_neg c_3]) rfl)
  · refine J_lload_n (nx := 7) dJ9_max_f86c9_6 rfl rfl ?_
    refine J_goto (nx := 11) dJ9_max_f86c9_7 (by decide) ?_
    exact Jrl dJ9_max_f86c9_11 rfl (Nat.zero_le _) (Nat.zero_le _) (RR.l (by unfold mxL; first | rw [if_pos c_3] | rw [if_neg c_3]) rfl)

set_option maxRecDepth 100000 in
set_option maxHeartbeats 4000000 in
theorem ct_minL (g : GS) (a b : Int64) : Ct mJ9_min_f86c9 (rm 0 0 0) [.long a, .long b] (Wd g) (RR (.inl (some (.long (mnL a b)))) g) := by
  refine Ct.ofF (by decide +kernel) (Nat.le_of_ble_eq_true rfl) ?_
  show J _ _ _ _ 0 [some (.long a), none, some (.long b), none] [] _ 0 0
  refine J_lload_n (nx := 1) dJ9_min_f86c9_0 rfl rfl ?_
  refine J_lload_n (nx := 2) dJ9_min_f86c9_1 rfl rfl ?_
  refine J_lcmp (nx := 3) dJ9_min_f86c9_2 rfl ?_
  refine J_if_gt (nx := 6) (tgt := 10) dJ9_min_f86c9_3 rfl (by decide) (fun c_3 => ?_) (fun c_3 => ?_)
  · refine J_lload_n (nx := 11) dJ9_min_f86c9_10 rfl rfl ?_
    exact Jrl dJ9_min_f86c9_11 rfl (Nat.zero_le _) (Nat.zero_le _) (RR.l (by unfold mnL; first | rw [if_pos c_3] | rw [if_neg c_3]) rfl)
  · refine J_lload_n (nx := 7) dJ9_min_f86c9_6 rfl rfl ?_
    refine J_goto (nx := 11) dJ9_min_f86c9_7 (by decide) ?_
    exact Jrl dJ9_min_f86c9_11 rfl (Nat.zero_le _) (Nat.zero_le _) (RR.l (by unfold mnL; first | rw [if_pos c_3] | rw [if_neg c_3]) rfl)


/-! the face's loops -/
def enR (so z st most : Int32) : Nat → Nat → GS → Int32 × GS
  | 0, _, g => (10, g)
  | k + 1, n, g => if woI (bbG g so z n) 0 st = most then (nI n, bbG g so z n) else enR so z st most k (n + 1) (bbG g so z n)
set_option maxRecDepth 100000 in
set_option maxHeartbeats 4000000 in
theorem lp_enough (so z st most : Int32) (n0 : Nat) : ∀ (k : Nat) (n : Nat) (g : GS) (r : Int32 × GS), n + k = 10 → JudgeAt g none → r = enR so z st most k n g → J mX11_enough (rm 8 2 12) (RR (.inl (some (.int r.1))) r.2) n0 57 [some (.ref 0), some (.int so), some (.int z), some (.int st), some (.int most), some (.int (nI n))] [] (Wd g) 2 12 := by
  intro k
  induction k with
  | zero =>
    intro n g r hk hJ hr
    refine J_iload (nx := 59) dX11_enough_57 rfl rfl ?_
    refine J_bipush (nx := 61) (i := 10) (v := 10) (by decide) dX11_enough_59 rfl ?_
    refine J_icmp_ge (nx := 64) (tgt := 87) dX11_enough_61 rfl (by decide) (fun c_61 => ?_) (fun c_61 => ?_)
    · refine J_bipush (nx := 89) (i := 10) (v := 10) (by decide) dX11_enough_87 rfl ?_
      exact Jri dX11_enough_89 rfl (Nat.le_of_ble_eq_true rfl) (Nat.le_of_ble_eq_true rfl) ⟨by rw [hr]; rfl, by rw [hr]; rfl⟩
    · exact absurd (show nI 10 ≤ nI n from by rw [show n = 10 by omega]; exact le_self_nI) c_61
  | succ k ih =>
    intro n g r hk hJ hr
    refine J_iload (nx := 59) dX11_enough_57 rfl rfl ?_
    refine J_bipush (nx := 61) (i := 10) (v := 10) (by decide) dX11_enough_59 rfl ?_
    refine J_icmp_ge (nx := 64) (tgt := 87) dX11_enough_61 rfl (by decide) (fun c_61 => ?_) (fun c_61 => ?_)
    · exact absurd c_61 (nlt_nI (n := 10) (by omega) (by omega))
    · refine J_aload_n (nx := 65) dX11_enough_64 rfl rfl ?_
      refine J_iload (nx := 67) dX11_enough_65 rfl rfl ?_
      refine J_iload_n (nx := 68) dX11_enough_67 rfl rfl ?_
      refine J_iload_n (nx := 69) dX11_enough_68 rfl rfl ?_
      refine J_iload_n (nx := 70) dX11_enough_69 rfl rfl ?_
      refine JcKV4 (R' := rm (6) 0 0) (nx := 73) dX11_enough_70 rfl ml_X11_bestBy lk_X11_224 iv_X11_bestBy rfl rfl ⟨(Nat.le_of_ble_eq_true rfl), (Nat.le_of_ble_eq_true rfl)⟩ (Nat.le_of_ble_eq_true rfl) ⟨rfl, rfl⟩ ⟨(Nat.le_of_ble_eq_true rfl), (Nat.le_of_ble_eq_true rfl)⟩ (ct_bestBy g so z st n (by omega) hJ) ?_
      refine J.gen (fun g_70 hg_70 => ?_)
      refine J_iload (nx := 75) dX11_enough_73 rfl rfl ?_
      refine J_icmp_ne (nx := 78) (tgt := 81) dX11_enough_75 rfl (by decide) (fun c_75 => ?_) (fun c_75 => ?_)
      · refine J_iinc (nx := 84) dX11_enough_81 rfl rfl rfl (Nat.le_of_ble_eq_true rfl) ?_
        refine J_goto (nx := 57) dX11_enough_84 (by decide) ?_
        show J _ _ _ _ 57 [some (.ref 0), some (.int so), some (.int z), some (.int st), some (.int most), some (.int (nI n + Int32.ofInt 1))] [] _ _ _
        rw [nI_s]
        exact ih (n + 1) g_70 r (by omega) (by rw [hg_70]; exact bb_J hJ so z (by omega)) (hr.trans ((if_neg c_75).trans (by rw [hg_70])))
      · refine J_iload (nx := 80) dX11_enough_78 rfl rfl ?_
        exact Jri dX11_enough_80 rfl (Nat.le_of_ble_eq_true rfl) (Nat.le_of_ble_eq_true rfl) ⟨by rw [hr, show enR so z st most (k + 1) n g = _ from if_pos c_75], by rw [hr, show enR so z st most (k + 1) n g = _ from if_pos c_75, hg_70]⟩

def enG1 (g : GS) (so z : Int32) (q : Option CD) (T : Nat) : GS := bbG (wtG g q T) so z 10
def enA (g : GS) (so z st : Int32) (q : Option CD) (T : Nat) : Int32 × GS := enR so z st (woI (enG1 g so z q T) 0 st) 10 0 (enG1 g so z q T)
set_option maxRecDepth 100000 in
set_option maxHeartbeats 4000000 in
theorem ct_enough (g : GS) (so z st : Int32) (q : Option CD) (T G : Nat) (hC : Cl g q T G) : Ct mX11_enough (rm 8 2 12) [.ref 0, .int so, .int z, .int st] (Wd g) (FX [(fFo g so z, x_iob), (fSt st, x_iob)] (RR (.inl (some (.int (enA g so z st q T).1))) (enA g so z st q T).2) g) := by
  refine Ct.of (by decide +kernel) (Nat.le_of_ble_eq_true rfl) ?_
  show J _ _ _ _ 0 [some (.ref 0), some (.int so), some (.int z), some (.int st), none, none] [] _ 0 0
  refine J_aload_n (nx := 1) dX11_enough_0 rfl rfl ?_
  refine J_iload_n (nx := 2) dX11_enough_1 rfl rfl ?_
  refine J_iload_n (nx := 3) dX11_enough_2 rfl rfl ?_
  refine JtKV2 (R' := rm (1) 1 6) (nx := 6) dX11_enough_3 rfl ml_X11_requireFoul lk_X11_194 iv_X11_requireFoul rfl rfl ⟨(Nat.le_of_ble_eq_true rfl), (Nat.le_of_ble_eq_true rfl)⟩ (Nat.le_of_ble_eq_true rfl) ⟨rfl, rfl⟩ ⟨(Nat.le_of_ble_eq_true rfl), (Nat.le_of_ble_eq_true rfl)⟩ (ct_requireFoul _ _ _) (fun t_3 => ?_)
  refine J_iload_n (nx := 7) dX11_enough_6 rfl rfl ?_
  refine JcKS1 (R' := rm (0) 0 0) (nx := 10) dX11_enough_7 rfl ml_X11_isState lk_X11_130 st_X11_isState ⟨(Nat.le_of_ble_eq_true rfl), (Nat.le_of_ble_eq_true rfl)⟩ (Nat.le_of_ble_eq_true rfl) ⟨rfl, rfl⟩ ⟨(Nat.le_of_ble_eq_true rfl), (Nat.le_of_ble_eq_true rfl)⟩ (ct_isState _ _) ?_
  refine JtKS1 (R' := rm (0) 1 6) (nx := 13) dX11_enough_10 rfl ml_X11_requirePlace lk_X11_133 st_X11_requirePlace ⟨(Nat.le_of_ble_eq_true rfl), (Nat.le_of_ble_eq_true rfl)⟩ (Nat.le_of_ble_eq_true rfl) ⟨rfl, rfl⟩ ⟨(Nat.le_of_ble_eq_true rfl), (Nat.le_of_ble_eq_true rfl)⟩ (ct_requirePlace _ (fSt st)) (fun t_10 => ?_)
  refine J_aload_n (nx := 14) dX11_enough_13 rfl rfl ?_
  refine Jg_0_5 (nx := 17) dX11_enough_14 rfl fl_X11_40 ?_
  refine J_aload_n (nx := 18) dX11_enough_17 rfl rfl ?_
  refine Jg_0_2 (nx := 21) dX11_enough_18 rfl fl_X11_28 ?_
  refine Jg_20_14 (nx := 24) dX11_enough_21 rfl fl_X11_161 ?_
  refine J_aload_n (nx := 25) dX11_enough_24 rfl rfl ?_
  refine Jg_0_2 (nx := 28) dX11_enough_25 rfl fl_X11_28 ?_
  refine Jg_20_13 (nx := 31) dX11_enough_28 rfl fl_X11_173 ?_
  rw [hC.2.1]
  refine JcKV2 (R' := rm (4) 0 0) (nx := 34) dX11_enough_31 rfl ml_X0_open lk_X11_188 iv_X0_open rfl rfl ⟨(Nat.le_of_ble_eq_true rfl), (Nat.le_of_ble_eq_true rfl)⟩ (Nat.le_of_ble_eq_true rfl) ⟨rfl, rfl⟩ ⟨(Nat.le_of_ble_eq_true rfl), (Nat.le_of_ble_eq_true rfl)⟩ (ct_open g _ T q hC.1 (by have := hC.2.2.1; omega)) ?_
  refine J.gen (fun g_31 hg_31 => ?_)
  refine J_aload_n (nx := 35) dX11_enough_34 rfl rfl ?_
  refine Jg_0_5 (nx := 38) dX11_enough_35 rfl fl_X11_40 ?_
  refine J_iconst (nx := 39) (i := 3) (v := 3) (by decide) dX11_enough_38 rfl ?_
  refine J_iconst (nx := 40) (i := 0) (v := 0) (by decide) dX11_enough_39 rfl ?_
  refine JcKV2 (R' := rm (0) 0 0) (nx := 43) dX11_enough_40 rfl ml_X0_seat lk_X11_222 iv_X0_seat rfl rfl ⟨(Nat.le_of_ble_eq_true rfl), (Nat.le_of_ble_eq_true rfl)⟩ (Nat.le_of_ble_eq_true rfl) ⟨rfl, rfl⟩ ⟨(Nat.le_of_ble_eq_true rfl), (Nat.le_of_ble_eq_true rfl)⟩ (ct_seat _ _ _) ?_
  refine J.gen (fun g_40 hg_40 => ?_)
  have hJ : JudgeAt g_40 none := by rw [hg_40]; exact (show (3 : Int32) < 5 by decide)
  refine J_aload_n (nx := 44) dX11_enough_43 rfl rfl ?_
  refine J_bipush (nx := 46) (i := 10) (v := 10) (by decide) dX11_enough_44 rfl ?_
  refine J_iload_n (nx := 47) dX11_enough_46 rfl rfl ?_
  refine J_iload_n (nx := 48) dX11_enough_47 rfl rfl ?_
  refine J_iload_n (nx := 49) dX11_enough_48 rfl rfl ?_
  refine JcKV4 (R' := rm (6) 0 0) (nx := 52) dX11_enough_49 rfl ml_X11_bestBy lk_X11_224 iv_X11_bestBy rfl rfl ⟨(Nat.le_of_ble_eq_true rfl), (Nat.le_of_ble_eq_true rfl)⟩ (Nat.le_of_ble_eq_true rfl) ⟨rfl, rfl⟩ ⟨(Nat.le_of_ble_eq_true rfl), (Nat.le_of_ble_eq_true rfl)⟩ (ct_bestBy g_40 so z st 10 (by omega) hJ) ?_
  refine J.gen (fun g_49 hg_49 => ?_)
  refine J_istore (nx := 54) dX11_enough_52 rfl rfl (Nat.le_of_ble_eq_true rfl) ?_
  refine J_iconst (nx := 55) (i := 0) (v := 0) (by decide) dX11_enough_54 rfl ?_
  refine J_istore (nx := 57) dX11_enough_55 rfl rfl (Nat.le_of_ble_eq_true rfl) ?_
  unfold enA enG1
  rw [show wtG g q T = g_40 from by rw [hg_40, hg_31]; rfl, show bbG g_40 so z 10 = g_49 from hg_49.symm]
  exact lp_enough so z st _ _ 10 0 g_49 _ rfl (by rw [hg_49]; exact bb_J hJ so z (by omega)) rfl


def baT (so z : Int32) (G b : Nat) (g : GS) : GS := lyAll (sF (sF g 40 8 2) 40 9 (nI b)) so z (bk_cn (sF (sF g 40 8 2) 40 9 (nI b)) 20 so) none G
def baR (so z : Int32) (G : Nat) : Nat → Nat → Int32 → Int32 → GS → Int32 × GS
  | 0, _, best, _, g => (best, g)
  | k + 1, b, best, most, g => if best = -1 then baR so z G k (b + 1) (nI b) (wtI (baT so z G b g) 0 32) (baT so z G b g) else if wtI (baT so z G b g) 0 32 ≤ most then baR so z G k (b + 1) best most (baT so z G b g) else baR so z G k (b + 1) (nI b) (wtI (baT so z G b g) 0 32) (baT so z G b g)
theorem baT_G {so z : Int32} {G b : Nat} {g : GS} (hG : gF g 40 12 = nI G) (hG2 : G ≤ 10) : gF (baT so z G b g) 40 12 = nI G := (LayOK.ly (q := none) (g := sF (sF g 40 8 2) 40 9 (nI b)) ⟨(show (2 : Int32) < 5 by decide), hG, hG2⟩ so z _).2.1
set_option maxRecDepth 100000 in
set_option maxHeartbeats 4000000 in
theorem lp_bar (so z : Int32) (G : Nat) (hG2 : G ≤ 10) (n0 : Nat) : ∀ (k : Nat) (b : Nat) (best most : Int32) (g : GS) (r : Int32 × GS), b + k = 32 → gF g 40 12 = nI G → r = baR so z G k b best most g → J mX11_bar (rm 8 1 6) (RR (.inl (some (.int r.1))) r.2) n0 35 [some (.ref 0), some (.int so), some (.int z), some (.int best), some (.int most), some (.int (nI b)), none] [] (Wd g) 1 6 := by
  intro k
  induction k with
  | zero =>
    intro b best most g r hk hG hr
    refine J_iload (nx := 37) dX11_bar_35 rfl rfl ?_
    refine J_bipush (nx := 39) (i := 32) (v := 32) (by decide) dX11_bar_37 rfl ?_
    refine J_icmp_ge (nx := 42) (tgt := 106) dX11_bar_39 rfl (by decide) (fun c_39 => ?_) (fun c_39 => ?_)
    · refine J_iload_n (nx := 107) dX11_bar_106 rfl rfl ?_
      exact Jri dX11_bar_107 rfl (Nat.le_of_ble_eq_true rfl) (Nat.le_of_ble_eq_true rfl) ⟨by rw [hr]; rfl, by rw [hr]; rfl⟩
    · exact absurd (show nI 32 ≤ nI b from by rw [show b = 32 by omega]; exact le_self_nI) c_39
  | succ k ih =>
    intro b best most g r hk hG hr
    refine J_iload (nx := 37) dX11_bar_35 rfl rfl ?_
    refine J_bipush (nx := 39) (i := 32) (v := 32) (by decide) dX11_bar_37 rfl ?_
    refine J_icmp_ge (nx := 42) (tgt := 106) dX11_bar_39 rfl (by decide) (fun c_39 => ?_) (fun c_39 => ?_)
    · exact absurd c_39 (nlt_nI (n := 32) (by omega) (by omega))
    · refine J_aload_n (nx := 43) dX11_bar_42 rfl rfl ?_
      refine Jg_0_5 (nx := 46) dX11_bar_43 rfl fl_X11_40 ?_
      refine J_iconst (nx := 47) (i := 2) (v := 2) (by decide) dX11_bar_46 rfl ?_
      refine J_iload (nx := 49) dX11_bar_47 rfl rfl ?_
      refine JcKV2 (R' := rm (0) 0 0) (nx := 52) dX11_bar_49 rfl ml_X0_seat lk_X11_222 iv_X0_seat rfl rfl ⟨(Nat.le_of_ble_eq_true rfl), (Nat.le_of_ble_eq_true rfl)⟩ (Nat.le_of_ble_eq_true rfl) ⟨rfl, rfl⟩ ⟨(Nat.le_of_ble_eq_true rfl), (Nat.le_of_ble_eq_true rfl)⟩ (ct_seat _ _ _) ?_
      refine J.gen (fun g_49 hg_49 => ?_)
      refine J_aload_n (nx := 53) dX11_bar_52 rfl rfl ?_
      refine Jg_0_5 (nx := 56) dX11_bar_53 rfl fl_X11_40 ?_
      refine J_iload_n (nx := 57) dX11_bar_56 rfl rfl ?_
      refine J_iload_n (nx := 58) dX11_bar_57 rfl rfl ?_
      refine J_aload_n (nx := 59) dX11_bar_58 rfl rfl ?_
      refine Jg_0_2 (nx := 62) dX11_bar_59 rfl fl_X11_28 ?_
      refine J_iload_n (nx := 63) dX11_bar_62 rfl rfl ?_
      refine JcKV1 (R' := rm (3) 0 0) (nx := 66) dX11_bar_63 rfl ml_X1_cardNow lk_X11_197 iv_X1_cardNow rfl rfl ⟨(Nat.le_of_ble_eq_true rfl), (Nat.le_of_ble_eq_true rfl)⟩ (Nat.le_of_ble_eq_true rfl) ⟨rfl, rfl⟩ ⟨(Nat.le_of_ble_eq_true rfl), (Nat.le_of_ble_eq_true rfl)⟩ (ct_X1_cardNow _ _) ?_
      refine JcKV3 (R' := rm (4) 0 0) (nx := 69) dX11_bar_66 rfl ml_X0_lay lk_X11_241 iv_X0_lay rfl rfl ⟨(Nat.le_of_ble_eq_true rfl), (Nat.le_of_ble_eq_true rfl)⟩ (Nat.le_of_ble_eq_true rfl) ⟨rfl, rfl⟩ ⟨(Nat.le_of_ble_eq_true rfl), (Nat.le_of_ble_eq_true rfl)⟩ (ct_lay1 g_49 _ _ _ none G (by rw [hg_49]; exact ⟨(show (2 : Int32) < 5 by decide), hG, hG2⟩)) ?_
      refine J.gen (fun g_66 hg_66 => ?_)
      have e1 : g_66 = baT so z G b g := by rw [hg_66, hg_49]; rfl
      refine J_aload_n (nx := 70) dX11_bar_69 rfl rfl ?_
      refine Jg_0_5 (nx := 73) dX11_bar_70 rfl fl_X11_40 ?_
      refine J_iconst (nx := 74) (i := 0) (v := 0) (by decide) dX11_bar_73 rfl ?_
      refine J_bipush (nx := 76) (i := 31) (v := 31) (by decide) dX11_bar_74 rfl ?_
      refine JcKV2 (R' := rm (2) 0 0) (nx := 79) dX11_bar_76 rfl ml_X0_worthTogether lk_X11_228 iv_X0_worthTogether rfl rfl ⟨(Nat.le_of_ble_eq_true rfl), (Nat.le_of_ble_eq_true rfl)⟩ (Nat.le_of_ble_eq_true rfl) ⟨rfl, rfl⟩ ⟨(Nat.le_of_ble_eq_true rfl), (Nat.le_of_ble_eq_true rfl)⟩ (ct_worthTogether g_66 0 31 32 (by omega) (by omega)) ?_
      refine J_istore (nx := 81) dX11_bar_79 rfl rfl (Nat.le_of_ble_eq_true rfl) ?_
      refine J_iload_n (nx := 82) dX11_bar_81 rfl rfl ?_
      refine J_iconst (nx := 83) (i := -1) (v := -1) (by decide) dX11_bar_82 rfl ?_
      refine J_icmp_eq (nx := 86) (tgt := 93) dX11_bar_83 rfl (by decide) (fun c_83 => ?_) (fun c_83 => ?_)
      · refine J_iload (nx := 95) dX11_bar_93 rfl rfl ?_
        refine J_istore (nx := 97) dX11_bar_95 rfl rfl (Nat.le_of_ble_eq_true rfl) ?_
        refine J_iload (nx := 99) dX11_bar_97 rfl rfl ?_
        refine J_istore_n (nx := 100) dX11_bar_99 rfl rfl (Nat.le_of_ble_eq_true rfl) ?_
        refine J_iinc (nx := 103) dX11_bar_100 rfl rfl rfl (Nat.le_of_ble_eq_true rfl) ?_
        refine J_goto (nx := 35) dX11_bar_103 (by decide) ?_
        refine J_kill (nx := 0) 6 ?_
        show J _ _ _ _ 35 [some (.ref 0), some (.int so), some (.int z), some (.int (nI b)), some (.int (wtI g_66 0 32)), some (.int (nI b + Int32.ofInt 1)), none] [] _ _ _
        rw [nI_s]
        exact ih (b + 1) (nI b) (wtI g_66 0 32) g_66 r (by omega) (by rw [e1]; exact baT_G hG hG2) (hr.trans (by show (if best = -1 then _ else _) = _; rw [if_pos c_83, ← e1]))
      · refine J_iload (nx := 88) dX11_bar_86 rfl rfl ?_
        refine J_iload (nx := 90) dX11_bar_88 rfl rfl ?_
        refine J_icmp_le (nx := 93) (tgt := 100) dX11_bar_90 rfl (by decide) (fun c_90 => ?_) (fun c_90 => ?_)
        · refine J_iinc (nx := 103) dX11_bar_100 rfl rfl rfl (Nat.le_of_ble_eq_true rfl) ?_
          refine J_goto (nx := 35) dX11_bar_103 (by decide) ?_
          refine J_kill (nx := 0) 6 ?_
          show J _ _ _ _ 35 [some (.ref 0), some (.int so), some (.int z), some (.int best), some (.int most), some (.int (nI b + Int32.ofInt 1)), none] [] _ _ _
          rw [nI_s]
          exact ih (b + 1) best most g_66 r (by omega) (by rw [e1]; exact baT_G hG hG2) (hr.trans (by show (if best = -1 then _ else if _ then _ else _) = _; rw [if_neg c_83, ← e1, if_pos c_90]))
        · refine J_iload (nx := 95) dX11_bar_93 rfl rfl ?_
          refine J_istore (nx := 97) dX11_bar_95 rfl rfl (Nat.le_of_ble_eq_true rfl) ?_
          refine J_iload (nx := 99) dX11_bar_97 rfl rfl ?_
          refine J_istore_n (nx := 100) dX11_bar_99 rfl rfl (Nat.le_of_ble_eq_true rfl) ?_
          refine J_iinc (nx := 103) dX11_bar_100 rfl rfl rfl (Nat.le_of_ble_eq_true rfl) ?_
          refine J_goto (nx := 35) dX11_bar_103 (by decide) ?_
          refine J_kill (nx := 0) 6 ?_
          show J _ _ _ _ 35 [some (.ref 0), some (.int so), some (.int z), some (.int (nI b)), some (.int (wtI g_66 0 32)), some (.int (nI b + Int32.ofInt 1)), none] [] _ _ _
          rw [nI_s]
          exact ih (b + 1) (nI b) (wtI g_66 0 32) g_66 r (by omega) (by rw [e1]; exact baT_G hG hG2) (hr.trans (by show (if best = -1 then _ else if _ then _ else _) = _; rw [if_neg c_83, ← e1, if_neg c_90]))

def baA (g : GS) (so z : Int32) (q : Option CD) (T G : Nat) : Int32 × GS := baR so z G 32 0 (-1) 0 (opAll g (gF g 20 14) T q)
set_option maxRecDepth 100000 in
set_option maxHeartbeats 4000000 in
theorem ct_bar (g : GS) (so z : Int32) (q : Option CD) (T G : Nat) (hC : Cl g q T G) : Ct mX11_bar (rm 8 1 6) [.ref 0, .int so, .int z] (Wd g) (FX [(fFo g so z, x_iob)] (RR (.inl (some (.int (baA g so z q T G).1))) (baA g so z q T G).2) g) := by
  refine Ct.of (by decide +kernel) (Nat.le_of_ble_eq_true rfl) ?_
  show J _ _ _ _ 0 [some (.ref 0), some (.int so), some (.int z), none, none, none, none] [] _ 0 0
  refine J_aload_n (nx := 1) dX11_bar_0 rfl rfl ?_
  refine J_iload_n (nx := 2) dX11_bar_1 rfl rfl ?_
  refine J_iload_n (nx := 3) dX11_bar_2 rfl rfl ?_
  refine JtKV2 (R' := rm (1) 1 6) (nx := 6) dX11_bar_3 rfl ml_X11_requireFoul lk_X11_194 iv_X11_requireFoul rfl rfl ⟨(Nat.le_of_ble_eq_true rfl), (Nat.le_of_ble_eq_true rfl)⟩ (Nat.le_of_ble_eq_true rfl) ⟨rfl, rfl⟩ ⟨(Nat.le_of_ble_eq_true rfl), (Nat.le_of_ble_eq_true rfl)⟩ (ct_requireFoul _ _ _) (fun t_3 => ?_)
  refine J_aload_n (nx := 7) dX11_bar_6 rfl rfl ?_
  refine Jg_0_5 (nx := 10) dX11_bar_7 rfl fl_X11_40 ?_
  refine J_aload_n (nx := 11) dX11_bar_10 rfl rfl ?_
  refine Jg_0_2 (nx := 14) dX11_bar_11 rfl fl_X11_28 ?_
  refine Jg_20_14 (nx := 17) dX11_bar_14 rfl fl_X11_161 ?_
  refine J_aload_n (nx := 18) dX11_bar_17 rfl rfl ?_
  refine Jg_0_2 (nx := 21) dX11_bar_18 rfl fl_X11_28 ?_
  refine Jg_20_13 (nx := 24) dX11_bar_21 rfl fl_X11_173 ?_
  rw [hC.2.1]
  refine JcKV2 (R' := rm (4) 0 0) (nx := 27) dX11_bar_24 rfl ml_X0_open lk_X11_188 iv_X0_open rfl rfl ⟨(Nat.le_of_ble_eq_true rfl), (Nat.le_of_ble_eq_true rfl)⟩ (Nat.le_of_ble_eq_true rfl) ⟨rfl, rfl⟩ ⟨(Nat.le_of_ble_eq_true rfl), (Nat.le_of_ble_eq_true rfl)⟩ (ct_open g _ T q hC.1 (by have := hC.2.2.1; omega)) ?_
  refine J.gen (fun g_24 hg_24 => ?_)
  refine J_iconst (nx := 28) (i := -1) (v := -1) (by decide) dX11_bar_27 rfl ?_
  refine J_istore_n (nx := 29) dX11_bar_28 rfl rfl (Nat.le_of_ble_eq_true rfl) ?_
  refine J_iconst (nx := 30) (i := 0) (v := 0) (by decide) dX11_bar_29 rfl ?_
  refine J_istore (nx := 32) dX11_bar_30 rfl rfl (Nat.le_of_ble_eq_true rfl) ?_
  refine J_iconst (nx := 33) (i := 0) (v := 0) (by decide) dX11_bar_32 rfl ?_
  refine J_istore (nx := 35) dX11_bar_33 rfl rfl (Nat.le_of_ble_eq_true rfl) ?_
  unfold baA
  rw [show opAll g (gF g 20 14) T q = g_24 from hg_24.symm]
  exact lp_bar so z G hC.2.2.2.2 _ 32 0 (-1) 0 g_24 _ rfl (by rw [hg_24]; exact hC.opened _ _) rfl


def lcR (q2 : Option CD) (G : Nat) (so sts more : Int32) : Nat → Int32 → Int32 → GS → Int32 × GS
  | 0, _, hi, g => (hi, g)
  | k + 1, lo, hi, g => if hi ≤ lo then (hi, g) else
    if (pyAll q2 G so ((lo + hi) / 2 + more) sts g).1 = 0 then lcR q2 G so sts more k lo ((lo + hi) / 2) (pyAll q2 G so ((lo + hi) / 2 + more) sts g).2
    else lcR q2 G so sts more k ((lo + hi) / 2 + 1) hi (pyAll q2 G so ((lo + hi) / 2 + more) sts g).2
def lcM (g : GS) (so : Int32) : Int32 := bk_cn g 20 so - rAt 6 (gA g 23) so
def lcA (q2 : Option CD) (G : Nat) (so sts : Int32) (g : GS) : Int32 × GS :=
  if (pyAll q2 G so (9999 + lcM g so) sts g).1 = 0 then lcR q2 G so sts (lcM g so) 14 0 9999 (pyAll q2 G so (9999 + lcM g so) sts g).2 else (-1, (pyAll q2 G so (9999 + lcM g so) sts g).2)
set_option maxRecDepth 100000 in
set_option maxHeartbeats 4000000 in
theorem lp_least (q2 : Option CD) (G : Nat) (so sts more : Int32) (n0 : Nat) : ∀ (k : Nat) (c : Nat) (lo hi : Int32) (g : GS) (r : Int32 × GS), c + k = 14 → LayOK g q2 G → r = lcR q2 G so sts more k lo hi g → J mX11_leastCard (rm 7 0 0) (RR (.inl (some (.int r.1))) r.2) n0 51 [some (.ref 0), some (.int so), some (.int sts), some (.int more), some (.int lo), some (.int hi), some (.int (nI c)), none] [] (Wd g) 0 0 := by
  intro k
  induction k with
  | zero =>
    intro c lo hi g r hk hL hr
    refine J_iload (nx := 53) dX11_leastCard_51 rfl rfl ?_
    refine J_bipush (nx := 55) (i := 14) (v := 14) (by decide) dX11_leastCard_53 rfl ?_
    refine J_icmp_ge (nx := 58) (tgt := 109) dX11_leastCard_55 rfl (by decide) (fun c_55 => ?_) (fun c_55 => ?_)
    · refine J_iload (nx := 111) dX11_leastCard_109 rfl rfl ?_
      exact Jri dX11_leastCard_111 rfl (Nat.zero_le _) (Nat.zero_le _) ⟨by rw [hr]; rfl, by rw [hr]; rfl⟩
    · exact absurd (show nI 14 ≤ nI c from by rw [show c = 14 by omega]; exact le_self_nI) c_55
  | succ k ih =>
    intro c lo hi g r hk hL hr
    refine J_iload (nx := 53) dX11_leastCard_51 rfl rfl ?_
    refine J_bipush (nx := 55) (i := 14) (v := 14) (by decide) dX11_leastCard_53 rfl ?_
    refine J_icmp_ge (nx := 58) (tgt := 109) dX11_leastCard_55 rfl (by decide) (fun c_55 => ?_) (fun c_55 => ?_)
    · exact absurd c_55 (nlt_nI (n := 14) (by omega) (by omega))
    · refine J_iload (nx := 60) dX11_leastCard_58 rfl rfl ?_
      refine J_iload (nx := 62) dX11_leastCard_60 rfl rfl ?_
      refine J_icmp_ge (nx := 65) (tgt := 109) dX11_leastCard_62 rfl (by decide) (fun c_62 => ?_) (fun c_62 => ?_)
      · refine J_iload (nx := 111) dX11_leastCard_109 rfl rfl ?_
        exact Jri dX11_leastCard_111 rfl (Nat.zero_le _) (Nat.zero_le _) ⟨by rw [hr, show lcR q2 G so sts more (k + 1) lo hi g = _ from if_pos c_62], by rw [hr, show lcR q2 G so sts more (k + 1) lo hi g = _ from if_pos c_62]⟩
      · refine J_iload (nx := 67) dX11_leastCard_65 rfl rfl ?_
        refine J_iload (nx := 69) dX11_leastCard_67 rfl rfl ?_
        refine J_iadd (nx := 70) dX11_leastCard_69 rfl ?_
        refine J_iconst (nx := 71) (i := 2) (v := 2) (by decide) dX11_leastCard_70 rfl ?_
        refine J_idiv (nx := 72) (by decide) dX11_leastCard_71 rfl ?_
        refine J_istore (nx := 74) dX11_leastCard_72 rfl rfl (Nat.le_of_ble_eq_true rfl) ?_
        refine J_aload_n (nx := 75) dX11_leastCard_74 rfl rfl ?_
        refine Jg_0_5 (nx := 78) dX11_leastCard_75 rfl fl_X11_40 ?_
        refine J_iload_n (nx := 79) dX11_leastCard_78 rfl rfl ?_
        refine J_iload (nx := 81) dX11_leastCard_79 rfl rfl ?_
        refine J_iload_n (nx := 82) dX11_leastCard_81 rfl rfl ?_
        refine J_iadd (nx := 83) dX11_leastCard_82 rfl ?_
        refine J_iload_n (nx := 84) dX11_leastCard_83 rfl rfl ?_
        refine JcV3 (R' := rm (5) 0 0) (nx := 87) dX11_leastCard_84 rfl ml_X0_paying lk_X11_248 iv_X0_paying rfl rfl ⟨(Nat.le_of_ble_eq_true rfl), (Nat.le_of_ble_eq_true rfl)⟩ (Nat.le_of_ble_eq_true rfl) ⟨rfl, rfl⟩ (ct_paying g q2 G _ _ _ hL) ?_
        refine J.gen (fun g_84 hg_84 => ?_)
        have hL2 : LayOK g_84 q2 G := by rw [hg_84]; exact hL.pyN so _ sts 0 32
        refine J_if_ne (nx := 90) (tgt := 97) dX11_leastCard_87 rfl (by decide) (fun c_87 => ?_) (fun c_87 => ?_)
        · refine J_iload (nx := 99) dX11_leastCard_97 rfl rfl ?_
          refine J_iconst (nx := 100) (i := 1) (v := 1) (by decide) dX11_leastCard_99 rfl ?_
          refine J_iadd (nx := 101) dX11_leastCard_100 rfl ?_
          refine J_istore (nx := 103) dX11_leastCard_101 rfl rfl (Nat.le_of_ble_eq_true rfl) ?_
          refine J_iinc (nx := 106) dX11_leastCard_103 rfl rfl rfl (Nat.le_of_ble_eq_true rfl) ?_
          refine J_goto (nx := 51) dX11_leastCard_106 (by decide) ?_
          refine J_kill (nx := 0) 7 ?_
          show J _ _ _ _ 51 [some (.ref 0), some (.int so), some (.int sts), some (.int more), some (.int ((lo + hi) / 2 + 1)), some (.int hi), some (.int (nI c + Int32.ofInt 1)), none] [] _ _ _
          rw [nI_s]
          exact ih (c + 1) ((lo + hi) / 2 + 1) hi g_84 r (by omega) hL2 (hr.trans ((if_neg c_62).trans ((if_neg c_87).trans (by rw [hg_84]))))
        · refine J_iload (nx := 92) dX11_leastCard_90 rfl rfl ?_
          refine J_istore (nx := 94) dX11_leastCard_92 rfl rfl (Nat.le_of_ble_eq_true rfl) ?_
          refine J_goto (nx := 103) dX11_leastCard_94 (by decide) ?_
          refine J_iinc (nx := 106) dX11_leastCard_103 rfl rfl rfl (Nat.le_of_ble_eq_true rfl) ?_
          refine J_goto (nx := 51) dX11_leastCard_106 (by decide) ?_
          refine J_kill (nx := 0) 7 ?_
          show J _ _ _ _ 51 [some (.ref 0), some (.int so), some (.int sts), some (.int more), some (.int lo), some (.int ((lo + hi) / 2)), some (.int (nI c + Int32.ofInt 1)), none] [] _ _ _
          rw [nI_s]
          exact ih (c + 1) lo ((lo + hi) / 2) g_84 r (by omega) hL2 (hr.trans ((if_neg c_62).trans ((if_pos c_87).trans (by rw [hg_84]))))

set_option maxRecDepth 100000 in
set_option maxHeartbeats 4000000 in
theorem ct_leastCard (g : GS) (so sts : Int32) (q2 : Option CD) (G : Nat) (hL : LayOK g q2 G) : Ct mX11_leastCard (rm 7 0 0) [.ref 0, .int so, .int sts] (Wd g) (RR (.inl (some (.int (lcA q2 G so sts g).1))) (lcA q2 G so sts g).2) := by
  refine Ct.of (by decide +kernel) (Nat.le_of_ble_eq_true rfl) ?_
  show J _ _ _ _ 0 [some (.ref 0), some (.int so), some (.int sts), none, none, none, none, none] [] _ 0 0
  refine J_aload_n (nx := 1) dX11_leastCard_0 rfl rfl ?_
  refine Jg_0_2 (nx := 4) dX11_leastCard_1 rfl fl_X11_28 ?_
  refine J_iload_n (nx := 5) dX11_leastCard_4 rfl rfl ?_
  refine JcV1 (R' := rm (3) 0 0) (nx := 8) dX11_leastCard_5 rfl ml_X1_cardNow lk_X11_197 iv_X1_cardNow rfl rfl ⟨(Nat.le_of_ble_eq_true rfl), (Nat.le_of_ble_eq_true rfl)⟩ (Nat.le_of_ble_eq_true rfl) ⟨rfl, rfl⟩ (ct_X1_cardNow _ _) ?_
  refine J_aload_n (nx := 9) dX11_leastCard_8 rfl rfl ?_
  refine Jg_0_2 (nx := 12) dX11_leastCard_9 rfl fl_X11_28 ?_
  refine Jg_20_2 (nx := 15) dX11_leastCard_12 rfl fl_X11_367 ?_
  refine J_iload_n (nx := 16) dX11_leastCard_15 rfl rfl ?_
  refine JcS2 (R' := rm (0) 0 0) (nx := 19) dX11_leastCard_16 rfl ml_X6_at lk_X11_155 st_X6_at ⟨(Nat.le_of_ble_eq_true rfl), (Nat.le_of_ble_eq_true rfl)⟩ (Nat.le_of_ble_eq_true rfl) ⟨rfl, rfl⟩ (ct_at _ 23 6 _ _ rfl (by decide)) ?_
  refine J_isub (nx := 20) dX11_leastCard_19 rfl ?_
  refine J_istore_n (nx := 21) dX11_leastCard_20 rfl rfl (Nat.le_of_ble_eq_true rfl) ?_
  refine J_aload_n (nx := 22) dX11_leastCard_21 rfl rfl ?_
  refine Jg_0_5 (nx := 25) dX11_leastCard_22 rfl fl_X11_40 ?_
  refine J_iload_n (nx := 26) dX11_leastCard_25 rfl rfl ?_
  refine J_sipush (nx := 29) (i := 9999) (v := 9999) (by decide) dX11_leastCard_26 rfl ?_
  refine J_iload_n (nx := 30) dX11_leastCard_29 rfl rfl ?_
  refine J_iadd (nx := 31) dX11_leastCard_30 rfl ?_
  refine J_iload_n (nx := 32) dX11_leastCard_31 rfl rfl ?_
  refine JcV3 (R' := rm (5) 0 0) (nx := 35) dX11_leastCard_32 rfl ml_X0_paying lk_X11_248 iv_X0_paying rfl rfl ⟨(Nat.le_of_ble_eq_true rfl), (Nat.le_of_ble_eq_true rfl)⟩ (Nat.le_of_ble_eq_true rfl) ⟨rfl, rfl⟩ (ct_paying g q2 G _ _ _ hL) ?_
  refine J.gen (fun g_32 hg_32 => ?_)
  refine J_if_eq (nx := 38) (tgt := 40) dX11_leastCard_35 rfl (by decide) (fun c_35 => ?_) (fun c_35 => ?_)
  · refine J_iconst (nx := 41) (i := 0) (v := 0) (by decide) dX11_leastCard_40 rfl ?_
    refine J_istore (nx := 43) dX11_leastCard_41 rfl rfl (Nat.le_of_ble_eq_true rfl) ?_
    refine J_sipush (nx := 46) (i := 9999) (v := 9999) (by decide) dX11_leastCard_43 rfl ?_
    refine J_istore (nx := 48) dX11_leastCard_46 rfl rfl (Nat.le_of_ble_eq_true rfl) ?_
    refine J_iconst (nx := 49) (i := 0) (v := 0) (by decide) dX11_leastCard_48 rfl ?_
    refine J_istore (nx := 51) dX11_leastCard_49 rfl rfl (Nat.le_of_ble_eq_true rfl) ?_
    have e : lcA q2 G so sts g = lcR q2 G so sts (lcM g so) 14 0 9999 g_32 := by unfold lcA; rw [hg_32]; exact if_pos c_35
    rw [e]
    exact lp_least q2 G so sts _ _ 14 0 0 9999 g_32 _ rfl (by rw [hg_32]; exact hL.pyN so _ sts 0 32) rfl
  · refine J_iconst (nx := 39) (i := -1) (v := -1) (by decide) dX11_leastCard_38 rfl ?_
    exact Jri dX11_leastCard_39 rfl (Nat.zero_le _) (Nat.zero_le _) ⟨by unfold lcA lcM; rw [if_neg c_35], by unfold lcA lcM; rw [if_neg c_35, hg_32]⟩

set_option maxRecDepth 100000 in
set_option maxHeartbeats 4000000 in
theorem ct_least (g : GS) (j b so sts : Int32) (q q2 : Option CD) (T G : Nat) (hC : Cl g q T G) (hJ : fJu g j = true → JAt g j q2) : Ct mX11_least (rm 9 3 18) [.ref 0, .int j, .int b, .int so, .int sts] (Wd g) (FX [(fJu g j, x_iob), (fSo g so, x_iob), (fBa j b, x_iae)] (RR (.inl (some (.int (lcA q2 G so sts (seG g j b q T)).1))) (lcA q2 G so sts (seG g j b q T)).2) g) := by
  refine Ct.of (by decide +kernel) (Nat.le_of_ble_eq_true rfl) ?_
  show J _ _ _ _ 0 [some (.ref 0), some (.int j), some (.int b), some (.int so), some (.int sts)] [] _ 0 0
  refine J_aload_n (nx := 1) dX11_least_0 rfl rfl ?_
  refine J_iload_n (nx := 2) dX11_least_1 rfl rfl ?_
  refine JtKV1 (R' := rm (1) 1 6) (nx := 5) dX11_least_2 rfl ml_X11_requireJudge lk_X11_206 iv_X11_requireJudge rfl rfl ⟨(Nat.le_of_ble_eq_true rfl), (Nat.le_of_ble_eq_true rfl)⟩ (Nat.le_of_ble_eq_true rfl) ⟨rfl, rfl⟩ ⟨(Nat.le_of_ble_eq_true rfl), (Nat.le_of_ble_eq_true rfl)⟩ (ct_requireJudge _ _) (fun t_2 => ?_)
  refine J_aload_n (nx := 6) dX11_least_5 rfl rfl ?_
  refine J_iload_n (nx := 7) dX11_least_6 rfl rfl ?_
  refine JcKV1 (R' := rm (0) 0 0) (nx := 10) dX11_least_7 rfl ml_X11_isSort lk_X11_245 iv_X11_isSort rfl rfl ⟨(Nat.le_of_ble_eq_true rfl), (Nat.le_of_ble_eq_true rfl)⟩ (Nat.le_of_ble_eq_true rfl) ⟨rfl, rfl⟩ ⟨(Nat.le_of_ble_eq_true rfl), (Nat.le_of_ble_eq_true rfl)⟩ (ct_isSort _ _) ?_
  refine JtKS1 (R' := rm (0) 1 6) (nx := 13) dX11_least_10 rfl ml_X11_requirePlace lk_X11_133 st_X11_requirePlace ⟨(Nat.le_of_ble_eq_true rfl), (Nat.le_of_ble_eq_true rfl)⟩ (Nat.le_of_ble_eq_true rfl) ⟨rfl, rfl⟩ ⟨(Nat.le_of_ble_eq_true rfl), (Nat.le_of_ble_eq_true rfl)⟩ (ct_requirePlace _ (fSo g so)) (fun t_10 => ?_)
  refine J_iload_n (nx := 14) dX11_least_13 rfl rfl ?_
  refine J_iload_n (nx := 15) dX11_least_14 rfl rfl ?_
  refine JcKS2 (R' := rm (1) 0 0) (nx := 18) dX11_least_15 rfl ml_X11_isBarFor lk_X11_209 st_X11_isBarFor ⟨(Nat.le_of_ble_eq_true rfl), (Nat.le_of_ble_eq_true rfl)⟩ (Nat.le_of_ble_eq_true rfl) ⟨rfl, rfl⟩ ⟨(Nat.le_of_ble_eq_true rfl), (Nat.le_of_ble_eq_true rfl)⟩ (ct_isBarFor _ _ _) ?_
  refine JtKS1 (R' := rm (0) 1 6) (nx := 21) dX11_least_18 rfl ml_X11_requireNumber lk_X11_83 st_X11_requireNumber ⟨(Nat.le_of_ble_eq_true rfl), (Nat.le_of_ble_eq_true rfl)⟩ (Nat.le_of_ble_eq_true rfl) ⟨rfl, rfl⟩ ⟨(Nat.le_of_ble_eq_true rfl), (Nat.le_of_ble_eq_true rfl)⟩ (ct_requireNumber _ (fBa j b)) (fun t_18 => ?_)
  refine J_aload_n (nx := 22) dX11_least_21 rfl rfl ?_
  refine Jg_0_5 (nx := 25) dX11_least_22 rfl fl_X11_40 ?_
  refine J_aload_n (nx := 26) dX11_least_25 rfl rfl ?_
  refine Jg_0_2 (nx := 29) dX11_least_26 rfl fl_X11_28 ?_
  refine Jg_20_14 (nx := 32) dX11_least_29 rfl fl_X11_161 ?_
  refine J_aload_n (nx := 33) dX11_least_32 rfl rfl ?_
  refine Jg_0_2 (nx := 36) dX11_least_33 rfl fl_X11_28 ?_
  refine Jg_20_13 (nx := 39) dX11_least_36 rfl fl_X11_173 ?_
  rw [hC.2.1]
  refine JcKV2 (R' := rm (4) 0 0) (nx := 42) dX11_least_39 rfl ml_X0_open lk_X11_188 iv_X0_open rfl rfl ⟨(Nat.le_of_ble_eq_true rfl), (Nat.le_of_ble_eq_true rfl)⟩ (Nat.le_of_ble_eq_true rfl) ⟨rfl, rfl⟩ ⟨(Nat.le_of_ble_eq_true rfl), (Nat.le_of_ble_eq_true rfl)⟩ (ct_open g _ T q hC.1 (by have := hC.2.2.1; omega)) ?_
  refine J.gen (fun g_39 hg_39 => ?_)
  refine J_aload_n (nx := 43) dX11_least_42 rfl rfl ?_
  refine Jg_0_5 (nx := 46) dX11_least_43 rfl fl_X11_40 ?_
  refine J_iload_n (nx := 47) dX11_least_46 rfl rfl ?_
  refine J_iload_n (nx := 48) dX11_least_47 rfl rfl ?_
  refine JcKV2 (R' := rm (0) 0 0) (nx := 51) dX11_least_48 rfl ml_X0_seat lk_X11_222 iv_X0_seat rfl rfl ⟨(Nat.le_of_ble_eq_true rfl), (Nat.le_of_ble_eq_true rfl)⟩ (Nat.le_of_ble_eq_true rfl) ⟨rfl, rfl⟩ ⟨(Nat.le_of_ble_eq_true rfl), (Nat.le_of_ble_eq_true rfl)⟩ (ct_seat _ _ _) ?_
  refine J.gen (fun g_48 hg_48 => ?_)
  have e1 : g_48 = seG g j b q T := by rw [hg_48, hg_39]; rfl
  refine J_aload_n (nx := 52) dX11_least_51 rfl rfl ?_
  refine J_iload_n (nx := 53) dX11_least_52 rfl rfl ?_
  refine J_iload (nx := 55) dX11_least_53 rfl rfl ?_
  refine JcKV2 (R' := rm (7) 0 0) (nx := 58) dX11_least_55 rfl ml_X11_leastCard lk_X11_252 iv_X11_leastCard rfl rfl ⟨(Nat.le_of_ble_eq_true rfl), (Nat.le_of_ble_eq_true rfl)⟩ (Nat.le_of_ble_eq_true rfl) ⟨rfl, rfl⟩ ⟨(Nat.le_of_ble_eq_true rfl), (Nat.le_of_ble_eq_true rfl)⟩ (ct_leastCard g_48 so sts q2 G (by rw [e1]; exact se_L hC (hJ t_2))) ?_
  refine J.gen (fun g_55 hg_55 => ?_)
  subst hg_55
  exact Jri dX11_least_58 rfl (Nat.le_of_ble_eq_true rfl) (Nat.le_of_ble_eq_true rfl) ⟨by rw [e1], by rw [e1]⟩


def msZ (q2 : Option CD) (G so : Nat) (card : Int32) (st : Bool) : Nat → Nat → Int64 → GS → Int64 × GS
  | 0, _, a, g => (a, g)
  | k + 1, z, a, g => if arR g (nI so) z 4 0 = true then msZ q2 G so card st k (z + 1) (a + (bif st then srI (lyAll g (nI so) (nI z) card q2 G) (nI so) z else rwI (lyAll g (nI so) (nI z) card q2 G) (nI so) z)) (lyAll g (nI so) (nI z) card q2 G) else msZ q2 G so card st k (z + 1) a g
def msS (q2 : Option CD) (G : Nat) (st : Bool) : Nat → Nat → Int64 → GS → Int64 × GS
  | 0, _, a, g => (a, g)
  | k + 1, so, a, g => msS q2 G st k (so + 1) (msZ q2 G so (bk_cn g 20 (nI so)) st 8 0 a g).1 (msZ q2 G so (bk_cn g 20 (nI so)) st 8 0 a g).2
theorem msZ_L {q2 : Option CD} {G so : Nat} {card : Int32} {st : Bool} : ∀ (k z : Nat) (a : Int64) {g : GS}, LayOK g q2 G → LayOK (msZ q2 G so card st k z a g).2 q2 G
  | 0, _, _, _, h => h
  | k + 1, z, a, g, h => by
    unfold msZ
    by_cases h1 : arR g (nI so) z 4 0 = true
    · rw [if_pos h1]; exact msZ_L k _ _ (h.ly _ _ _)
    · rw [if_neg h1]; exact msZ_L k _ _ h
theorem msZ_kf {q2 : Option CD} {G so : Nat} {card : Int32} {st : Bool} {g0 : GS} : ∀ (k z : Nat) (a : Int64) {g : GS}, KF g0 g → KF g0 (msZ q2 G so card st k z a g).2
  | 0, _, _, _, h => h
  | k + 1, z, a, g, h => by
    unfold msZ
    by_cases h1 : arR g (nI so) z 4 0 = true
    · rw [if_pos h1]; exact msZ_kf k _ _ (kf_ly h _ _ _ _ _)
    · rw [if_neg h1]; exact msZ_kf k _ _ h
theorem msS_kf {q2 : Option CD} {G : Nat} {st : Bool} {g0 : GS} : ∀ (k so : Nat) (a : Int64) {g : GS}, KF g0 g → KF g0 (msS q2 G st k so a g).2
  | 0, _, _, _, h => h
  | k + 1, so, a, g, h => msS_kf k _ _ (msZ_kf 8 0 a h)
set_option maxRecDepth 100000 in
set_option maxHeartbeats 4000000 in
theorem lp_msZ (Q : Res → List ME → Prop) (q2 : Option CD) (G so : Nat) (card : Int32) (st : Bool) (n0 : Nat) : ∀ (k : Nat) (z : Nat) (a : Int64) (g : GS) (r : Int64 × GS), z + k = 8 → LayOK g q2 G → r = msZ q2 G so card st k z a g → J mX11_matchSum (rm 6 0 0) Q n0 103 [some (.ref 0), some (.int (bI st)), some (.long (r.1)), none, some (.int (nI so)), some (.int card), some (.int (nI 8))] [] (Wd r.2) 0 0 → J mX11_matchSum (rm 6 0 0) (Q) n0 31 [some (.ref 0), some (.int (bI st)), some (.long (a)), none, some (.int (nI so)), some (.int card), some (.int (nI z))] [] (Wd g) 0 0 := by
  intro k
  induction k with
  | zero =>
    intro z a g r hk hL hr hK
    refine J_iload (nx := 33) dX11_matchSum_31 rfl rfl ?_
    refine J_bipush (nx := 35) (i := 8) (v := 8) (by decide) dX11_matchSum_33 rfl ?_
    refine J_icmp_ge (nx := 38) (tgt := 103) dX11_matchSum_35 rfl (by decide) (fun c_35 => ?_) (fun c_35 => ?_)
    · rw [show a = r.1 from by rw [hr]; rfl, show g = r.2 from by rw [hr]; rfl, show z = 8 by omega]
      exact hK
    · exact absurd (show nI 8 ≤ nI z from by rw [show z = 8 by omega]; exact le_self_nI) c_35
  | succ k ih =>
    intro z a g r hk hL hr hK
    refine J_iload (nx := 33) dX11_matchSum_31 rfl rfl ?_
    refine J_bipush (nx := 35) (i := 8) (v := 8) (by decide) dX11_matchSum_33 rfl ?_
    refine J_icmp_ge (nx := 38) (tgt := 103) dX11_matchSum_35 rfl (by decide) (fun c_35 => ?_) (fun c_35 => ?_)
    · exact absurd c_35 (nlt_nI (n := 8) (by omega) (by omega))
    · refine J_aload_n (nx := 39) dX11_matchSum_38 rfl rfl ?_
      refine Jg_0_2 (nx := 42) dX11_matchSum_39 rfl fl_X11_28 ?_
      refine J_iload (nx := 44) dX11_matchSum_42 rfl rfl ?_
      refine J_iload (nx := 46) dX11_matchSum_44 rfl rfl ?_
      refine JcV2 (R' := rm (2) 0 0) (nx := 49) dX11_matchSum_46 rfl ml_X1_anyRate lk_X11_370 iv_X1_anyRate rfl rfl ⟨(Nat.le_of_ble_eq_true rfl), (Nat.le_of_ble_eq_true rfl)⟩ (Nat.le_of_ble_eq_true rfl) ⟨rfl, rfl⟩ (ct_anyRate g _ z (by omega)) ?_
      refine J_if_eq (nx := 52) (tgt := 97) dX11_matchSum_49 rfl (by decide) (fun c_49 => ?_) (fun c_49 => ?_)
      · refine J_iinc (nx := 100) dX11_matchSum_97 rfl rfl rfl (Nat.le_of_ble_eq_true rfl) ?_
        refine J_goto (nx := 31) dX11_matchSum_100 (by decide) ?_
        show J _ _ _ _ 31 [some (.ref 0), some (.int (bI st)), some (.long (a)), none, some (.int (nI so)), some (.int card), some (.int (nI z + Int32.ofInt 1))] [] _ _ _
        rw [nI_s]
        exact ih (z + 1) (a) g r (by omega) hL (hr.trans (if_neg (by rw [bI_0.mp c_49]; decide))) hK
      · refine J_aload_n (nx := 53) dX11_matchSum_52 rfl rfl ?_
        refine Jg_0_5 (nx := 56) dX11_matchSum_53 rfl fl_X11_40 ?_
        refine J_iload (nx := 58) dX11_matchSum_56 rfl rfl ?_
        refine J_iload (nx := 60) dX11_matchSum_58 rfl rfl ?_
        refine J_iload (nx := 62) dX11_matchSum_60 rfl rfl ?_
        refine JcV3 (R' := rm (4) 0 0) (nx := 65) dX11_matchSum_62 rfl ml_X0_lay lk_X11_241 iv_X0_lay rfl rfl ⟨(Nat.le_of_ble_eq_true rfl), (Nat.le_of_ble_eq_true rfl)⟩ (Nat.le_of_ble_eq_true rfl) ⟨rfl, rfl⟩ (ct_lay1 g _ _ _ q2 G hL) ?_
        refine J.gen (fun g_62 hg_62 => ?_)
        refine J_lload_n (nx := 66) dX11_matchSum_65 rfl rfl ?_
        refine J_iload_n (nx := 67) dX11_matchSum_66 rfl rfl ?_
        refine J_if_eq (nx := 70) (tgt := 84) dX11_matchSum_67 rfl (by decide) (fun c_67 => ?_) (fun c_67 => ?_)
        · refine J_aload_n (nx := 85) dX11_matchSum_84 rfl rfl ?_
          refine Jg_0_5 (nx := 88) dX11_matchSum_85 rfl fl_X11_40 ?_
          refine J_iload (nx := 90) dX11_matchSum_88 rfl rfl ?_
          refine J_iload (nx := 92) dX11_matchSum_90 rfl rfl ?_
          refine JcV2 (R' := rm (2) 0 0) (nx := 95) dX11_matchSum_92 rfl ml_X0_ratedWorth lk_X11_376 iv_X0_ratedWorth rfl rfl ⟨(Nat.le_of_ble_eq_true rfl), (Nat.le_of_ble_eq_true rfl)⟩ (Nat.le_of_ble_eq_true rfl) ⟨rfl, rfl⟩ (ct_ratedWorth g_62 (nI so) z (by omega)) ?_
          refine J_ladd (nx := 96) dX11_matchSum_95 rfl ?_
          refine J_lstore_n (nx := 97) dX11_matchSum_96 rfl rfl (Nat.le_of_ble_eq_true rfl) ?_
          refine J_iinc (nx := 100) dX11_matchSum_97 rfl rfl rfl (Nat.le_of_ble_eq_true rfl) ?_
          refine J_goto (nx := 31) dX11_matchSum_100 (by decide) ?_
          show J _ _ _ _ 31 [some (.ref 0), some (.int (bI st)), some (.long (a + rwI g_62 (nI so) z)), none, some (.int (nI so)), some (.int card), some (.int (nI z + Int32.ofInt 1))] [] _ _ _
          rw [nI_s]
          exact ih (z + 1) (a + rwI g_62 (nI so) z) g_62 r (by omega) (by rw [hg_62]; exact hL.ly _ _ _) (hr.trans ((if_pos (bI_n0.mp c_49)).trans (by rw [hg_62, bI_0.mp c_67]; rfl))) hK
        · refine J_aload_n (nx := 71) dX11_matchSum_70 rfl rfl ?_
          refine Jg_0_5 (nx := 74) dX11_matchSum_71 rfl fl_X11_40 ?_
          refine J_iload (nx := 76) dX11_matchSum_74 rfl rfl ?_
          refine J_iload (nx := 78) dX11_matchSum_76 rfl rfl ?_
          refine JcV2 (R' := rm (2) 0 0) (nx := 81) dX11_matchSum_78 rfl ml_X0_stoppedRates lk_X11_373 iv_X0_stoppedRates rfl rfl ⟨(Nat.le_of_ble_eq_true rfl), (Nat.le_of_ble_eq_true rfl)⟩ (Nat.le_of_ble_eq_true rfl) ⟨rfl, rfl⟩ (ct_stoppedRates g_62 (nI so) z (by omega)) ?_
          refine J_goto (nx := 95) dX11_matchSum_81 (by decide) ?_
          refine J_ladd (nx := 96) dX11_matchSum_95 rfl ?_
          refine J_lstore_n (nx := 97) dX11_matchSum_96 rfl rfl (Nat.le_of_ble_eq_true rfl) ?_
          refine J_iinc (nx := 100) dX11_matchSum_97 rfl rfl rfl (Nat.le_of_ble_eq_true rfl) ?_
          refine J_goto (nx := 31) dX11_matchSum_100 (by decide) ?_
          show J _ _ _ _ 31 [some (.ref 0), some (.int (bI st)), some (.long (a + srI g_62 (nI so) z)), none, some (.int (nI so)), some (.int card), some (.int (nI z + Int32.ofInt 1))] [] _ _ _
          rw [nI_s]
          exact ih (z + 1) (a + srI g_62 (nI so) z) g_62 r (by omega) (by rw [hg_62]; exact hL.ly _ _ _) (hr.trans ((if_pos (bI_n0.mp c_49)).trans (by rw [hg_62, bI_n0.mp c_67]; rfl))) hK

set_option maxRecDepth 100000 in
set_option maxHeartbeats 4000000 in
theorem lp_msS (q2 : Option CD) (G n : Nat) (hn : n ≤ 6) (st : Bool) (n0 : Nat) : ∀ (k : Nat) (so : Nat) (a : Int64) (g : GS) (r : Int64 × GS), so + k = n → gF g 20 11 = nI n → LayOK g q2 G → r = msS q2 G st k so a g → J mX11_matchSum (rm 6 0 0) (RR (.inl (some (.long r.1))) r.2) n0 5 [some (.ref 0), some (.int (bI st)), some (.long (a)), none, some (.int (nI so)), none, none] [] (Wd g) 0 0 := by
  intro k
  induction k with
  | zero =>
    intro so a g r hk hN hL hr
    refine J_iload (nx := 7) dX11_matchSum_5 rfl rfl ?_
    refine J_aload_n (nx := 8) dX11_matchSum_7 rfl rfl ?_
    refine Jg_0_2 (nx := 11) dX11_matchSum_8 rfl fl_X11_28 ?_
    refine Jg_20_11 (nx := 14) dX11_matchSum_11 rfl fl_X11_179 ?_
    rw [hN]
    refine J_icmp_ge (nx := 17) (tgt := 109) dX11_matchSum_14 rfl (by decide) (fun c_14 => ?_) (fun c_14 => ?_)
    · refine J_lload_n (nx := 110) dX11_matchSum_109 rfl rfl ?_
      exact Jrl dX11_matchSum_110 rfl (Nat.zero_le _) (Nat.zero_le _) ⟨by rw [hr]; rfl, by rw [hr]; rfl⟩
    · exact absurd (nI_le (show n ≤ so by omega) (by omega)) c_14
  | succ k ih =>
    intro so a g r hk hN hL hr
    refine J_iload (nx := 7) dX11_matchSum_5 rfl rfl ?_
    refine J_aload_n (nx := 8) dX11_matchSum_7 rfl rfl ?_
    refine Jg_0_2 (nx := 11) dX11_matchSum_8 rfl fl_X11_28 ?_
    refine Jg_20_11 (nx := 14) dX11_matchSum_11 rfl fl_X11_179 ?_
    rw [hN]
    refine J_icmp_ge (nx := 17) (tgt := 109) dX11_matchSum_14 rfl (by decide) (fun c_14 => ?_) (fun c_14 => ?_)
    · exact absurd c_14 (nlt_nI (show so < n by omega) (by omega))
    · refine J_aload_n (nx := 18) dX11_matchSum_17 rfl rfl ?_
      refine Jg_0_2 (nx := 21) dX11_matchSum_18 rfl fl_X11_28 ?_
      refine J_iload (nx := 23) dX11_matchSum_21 rfl rfl ?_
      refine JcV1 (R' := rm (3) 0 0) (nx := 26) dX11_matchSum_23 rfl ml_X1_cardNow lk_X11_197 iv_X1_cardNow rfl rfl ⟨(Nat.le_of_ble_eq_true rfl), (Nat.le_of_ble_eq_true rfl)⟩ (Nat.le_of_ble_eq_true rfl) ⟨rfl, rfl⟩ (ct_X1_cardNow _ _) ?_
      refine J_istore (nx := 28) dX11_matchSum_26 rfl rfl (Nat.le_of_ble_eq_true rfl) ?_
      refine J_iconst (nx := 29) (i := 0) (v := 0) (by decide) dX11_matchSum_28 rfl ?_
      refine J_istore (nx := 31) dX11_matchSum_29 rfl rfl (Nat.le_of_ble_eq_true rfl) ?_
      have hz := lp_msZ (RR (.inl (some (.long r.1))) r.2) q2 G so (bk_cn g 20 (nI so)) st n0 8 0 a g _ rfl hL rfl ?_
      · exact hz
      · show J _ _ _ _ 103 _ [] _ _ _
        refine J_iinc (nx := 106) dX11_matchSum_103 rfl rfl rfl (Nat.le_of_ble_eq_true rfl) ?_
        refine J_goto (nx := 5) dX11_matchSum_106 (by decide) ?_
        refine J_kill (nx := 0) 5 ?_
        refine J_kill (nx := 0) 6 ?_
        show J _ _ _ _ 5 [some (.ref 0), some (.int (bI st)), some (.long ((msZ q2 G so (bk_cn g 20 (nI so)) st 8 0 a g).1)), none, some (.int (nI so + Int32.ofInt 1)), none, none] [] _ _ _
        rw [nI_s]
        exact ih (so + 1) _ _ r (by omega) (((msZ_kf 8 0 a Fr.rf).book 11 (by decide)).trans hN) (msZ_L 8 0 a hL) hr

set_option maxRecDepth 100000 in
set_option maxHeartbeats 4000000 in
theorem ct_matchSum (g : GS) (st : Bool) (q2 : Option CD) (G n : Nat) (hn : n ≤ 6) (hN : gF g 20 11 = nI n) (hL : LayOK g q2 G) : Ct mX11_matchSum (rm 6 0 0) [.ref 0, .int (bI st)] (Wd g) (RR (.inl (some (.long (msS q2 G st n 0 0 g).1))) (msS q2 G st n 0 0 g).2) := by
  refine Ct.of (by decide +kernel) (Nat.le_of_ble_eq_true rfl) ?_
  show J _ _ _ _ 0 [some (.ref 0), some (.int (bI st)), none, none, none, none, none] [] _ 0 0
  refine J_lconst (nx := 1) (i := 0) (v := 0) (by decide) dX11_matchSum_0 rfl ?_
  refine J_lstore_n (nx := 2) dX11_matchSum_1 rfl rfl (Nat.le_of_ble_eq_true rfl) ?_
  refine J_iconst (nx := 3) (i := 0) (v := 0) (by decide) dX11_matchSum_2 rfl ?_
  refine J_istore (nx := 5) dX11_matchSum_3 rfl rfl (Nat.le_of_ble_eq_true rfl) ?_
  exact lp_msS q2 G n hn st _ n 0 0 g _ (by omega) hN hL rfl


theorem op_J (g : GS) (m : Int32) (T : Nat) (q : Option CD) : gF (opAll g m T q) 40 8 = gF g 40 8 := by
  have h1 : gF (opAll g m T q) 40 8 = gF (wrAll (op2 (op1 g m q))) 40 8 := itN_F (S := opT) (c := 40) (k := 8) (fun i g => itN_F (S := opS (i + 1)) (c := 40) (k := 8) (fun _ _ => rfl) 32 g) T (wrAll (op2 (op1 g m q)))
  rw [h1, wr_F]
  cases q <;> rfl
theorem op_L {g : GS} {q q2 : Option CD} {T G : Nat} (hC : Cl g q T G) (hJ : JudgeAt g q2) (m : Int32) (T' : Nat) : LayOK (opAll g m T' q) q2 G :=
  ⟨hJ.congr (op_J _ _ _ _) (op_P _ _ _ _) (kf_open Fr.rf _ _ _).tail, hC.opened _ _, hC.2.2.2.2⟩
def mtR (q q2 : Option CD) (T G n : Nat) : Nat → Nat → Int64 → GS → Int64 × GS
  | 0, _, a, g => (a, g)
  | k + 1, i, a, g => mtR q q2 T G n k (i + 1) (a + (msS q2 G false n 0 0 (opAll g (nI (10 * i)) T q)).1) (msS q2 G false n 0 0 (opAll g (nI (10 * i)) T q)).2
theorem ms_L {q2 : Option CD} {G : Nat} {st : Bool} : ∀ (k so : Nat) (a : Int64) {g : GS}, LayOK g q2 G → LayOK (msS q2 G st k so a g).2 q2 G
  | 0, _, _, _, h => h
  | k + 1, so, a, g, h => ms_L k _ _ (msZ_L 8 0 a h)
set_option maxRecDepth 100000 in
set_option maxHeartbeats 4000000 in
theorem lp_match (q q2 : Option CD) (T G n : Nat) (hn : n ≤ 6) (j b : Int32) (n0 : Nat) : ∀ (k : Nat) (i : Nat) (a : Int64) (g : GS) (r : Int64 × GS), i + k = 9 → Cl g q T G → gF g 20 11 = nI n → JudgeAt g q2 → r = mtR q q2 T G n k i a g → J mX11_match (rm 8 2 12) (RR (.inl (some (.long (fdL r.1 9)))) r.2) n0 59 [some (.ref 0), some (.int j), some (.int b), some (.int 0), some (.long (a)), none, some (.int (nI (10 * i)))] [] (Wd g) 2 12 := by
  intro k
  induction k with
  | zero =>
    intro i a g r hk hC hN hJ hr
    refine J_iload (nx := 61) dX11_match_59 rfl rfl ?_
    refine J_bipush (nx := 63) (i := 80) (v := 80) (by decide) dX11_match_61 rfl ?_
    refine J_icmp_gt (nx := 66) (tgt := 98) dX11_match_63 rfl (by decide) (fun c_63 => ?_) (fun c_63 => ?_)
    · refine J_lload (nx := 100) dX11_match_98 rfl rfl ?_
      refine J_ldc2 (nx := 103) cn_X11_265 dX11_match_100 rfl ?_
      refine JcKS2 (R' := rm (0) 0 0) (nx := 106) dX11_match_103 rfl ml_J9_floorDiv_f86c9 lk_X11_267 st_J9_floorDiv_f86c9 ⟨(Nat.le_of_ble_eq_true rfl), (Nat.le_of_ble_eq_true rfl)⟩ (Nat.le_of_ble_eq_true rfl) ⟨rfl, rfl⟩ ⟨(Nat.le_of_ble_eq_true rfl), (Nat.le_of_ble_eq_true rfl)⟩ (ct_floorDivL _ _ _ (by decide)) ?_
      exact Jrl dX11_match_106 rfl (Nat.le_of_ble_eq_true rfl) (Nat.le_of_ble_eq_true rfl) ⟨by rw [hr]; rfl, by rw [hr]; rfl⟩
    · exact absurd (show nI 80 < nI (10 * i) from nI_lt (by omega) (by omega)) c_63
  | succ k ih =>
    intro i a g r hk hC hN hJ hr
    refine J_iload (nx := 61) dX11_match_59 rfl rfl ?_
    refine J_bipush (nx := 63) (i := 80) (v := 80) (by decide) dX11_match_61 rfl ?_
    refine J_icmp_gt (nx := 66) (tgt := 98) dX11_match_63 rfl (by decide) (fun c_63 => ?_) (fun c_63 => ?_)
    · exact absurd c_63 (show ¬ nI 80 < nI (10 * i) from nI_nlt (by omega) (by omega))
    · refine J_aload_n (nx := 67) dX11_match_66 rfl rfl ?_
      refine Jg_0_5 (nx := 70) dX11_match_67 rfl fl_X11_40 ?_
      refine J_iload (nx := 72) dX11_match_70 rfl rfl ?_
      refine J_aload_n (nx := 73) dX11_match_72 rfl rfl ?_
      refine Jg_0_2 (nx := 76) dX11_match_73 rfl fl_X11_28 ?_
      refine Jg_20_13 (nx := 79) dX11_match_76 rfl fl_X11_173 ?_
      rw [hC.2.1]
      refine JcKV2 (R' := rm (4) 0 0) (nx := 82) dX11_match_79 rfl ml_X0_open lk_X11_188 iv_X0_open rfl rfl ⟨(Nat.le_of_ble_eq_true rfl), (Nat.le_of_ble_eq_true rfl)⟩ (Nat.le_of_ble_eq_true rfl) ⟨rfl, rfl⟩ ⟨(Nat.le_of_ble_eq_true rfl), (Nat.le_of_ble_eq_true rfl)⟩ (ct_open g _ T q hC.1 (by have := hC.2.2.1; omega)) ?_
      refine J.gen (fun g_79 hg_79 => ?_)
      have k1 : KF g g_79 := by rw [hg_79]; exact kf_open Fr.rf _ _ _
      have hL : LayOK g_79 q2 G := by rw [hg_79]; exact op_L hC hJ _ _
      refine J_lload (nx := 84) dX11_match_82 rfl rfl ?_
      refine J_aload_n (nx := 85) dX11_match_84 rfl rfl ?_
      refine J_iconst (nx := 86) (i := 0) (v := 0) (by decide) dX11_match_85 rfl ?_
      refine JcKV1 (R' := rm (6) 0 0) (nx := 89) dX11_match_86 rfl ml_X11_matchSum lk_X11_261 iv_X11_matchSum rfl rfl ⟨(Nat.le_of_ble_eq_true rfl), (Nat.le_of_ble_eq_true rfl)⟩ (Nat.le_of_ble_eq_true rfl) ⟨rfl, rfl⟩ ⟨(Nat.le_of_ble_eq_true rfl), (Nat.le_of_ble_eq_true rfl)⟩ (ct_matchSum g_79 false q2 G n hn ((k1.book 11 (by decide)).trans hN) hL) ?_
      refine J.gen (fun g_86 hg_86 => ?_)
      have k2 : KF g g_86 := by rw [hg_86]; exact msS_kf n 0 0 k1
      have hL2 : LayOK g_86 q2 G := by rw [hg_86]; exact ms_L n 0 0 hL
      refine J_ladd (nx := 90) dX11_match_89 rfl ?_
      refine J_lstore (nx := 92) dX11_match_90 rfl rfl (Nat.le_of_ble_eq_true rfl) ?_
      refine J_iinc (nx := 95) dX11_match_92 rfl rfl rfl (Nat.le_of_ble_eq_true rfl) ?_
      refine J_goto (nx := 59) dX11_match_95 (by decide) ?_
      show J _ _ _ _ 59 [some (.ref 0), some (.int j), some (.int b), some (.int 0), some (.long (a + (msS q2 G false n 0 0 g_79).1)), none, some (.int (nI (10 * i) + Int32.ofInt 10))] [] _ _ _
      rw [show nI (10 * i) + Int32.ofInt 10 = nI (10 * (i + 1)) from by rw [show Int32.ofInt 10 = nI 10 from rfl, nI_add]; congr 1]
      exact ih (i + 1) _ g_86 r (by omega) (hC.kf k2) ((k2.book 11 (by decide)).trans hN) hL2.1 (hr.trans (by show mtR q q2 T G n k (i + 1) _ _ = _; rw [← hg_79, ← hg_86]))

def mtS (g : GS) (j b : Int32) : GS := sF (sF g 40 8 j) 40 9 b
def mtA (g : GS) (j b : Int32) (st : Bool) (q q2 : Option CD) (T G n : Nat) : Int64 × GS :=
  bif st then msS q2 G true n 0 0 (opAll (mtS g j b) (gF g 20 14) T q) else (fdL (mtR q q2 T G n 9 0 0 (mtS g j b)).1 9, (mtR q q2 T G n 9 0 0 (mtS g j b)).2)
set_option maxRecDepth 100000 in
set_option maxHeartbeats 4000000 in
theorem ct_match (g : GS) (j b : Int32) (st : Bool) (q q2 : Option CD) (T G n : Nat) (hC : Cl g q T G) (hn : n ≤ 6) (hN : gF g 20 11 = nI n) (hJ : fJu g j = true → JAt g j q2) : Ct mX11_match (rm 8 2 12) [.ref 0, .int j, .int b, .int (bI st)] (Wd g) (FX [(fJu g j, x_iob), (fBa j b, x_iae)] (RR (.inl (some (.long (mtA g j b st q q2 T G n).1))) (mtA g j b st q q2 T G n).2) g) := by
  refine Ct.of (by decide +kernel) (Nat.le_of_ble_eq_true rfl) ?_
  show J _ _ _ _ 0 [some (.ref 0), some (.int j), some (.int b), some (.int (bI st)), none, none, none] [] _ 0 0
  refine J_aload_n (nx := 1) dX11_match_0 rfl rfl ?_
  refine J_iload_n (nx := 2) dX11_match_1 rfl rfl ?_
  refine JtKV1 (R' := rm (1) 1 6) (nx := 5) dX11_match_2 rfl ml_X11_requireJudge lk_X11_206 iv_X11_requireJudge rfl rfl ⟨(Nat.le_of_ble_eq_true rfl), (Nat.le_of_ble_eq_true rfl)⟩ (Nat.le_of_ble_eq_true rfl) ⟨rfl, rfl⟩ ⟨(Nat.le_of_ble_eq_true rfl), (Nat.le_of_ble_eq_true rfl)⟩ (ct_requireJudge _ _) (fun t_2 => ?_)
  refine J_iload_n (nx := 6) dX11_match_5 rfl rfl ?_
  refine J_iload_n (nx := 7) dX11_match_6 rfl rfl ?_
  refine JcKS2 (R' := rm (1) 0 0) (nx := 10) dX11_match_7 rfl ml_X11_isBarFor lk_X11_209 st_X11_isBarFor ⟨(Nat.le_of_ble_eq_true rfl), (Nat.le_of_ble_eq_true rfl)⟩ (Nat.le_of_ble_eq_true rfl) ⟨rfl, rfl⟩ ⟨(Nat.le_of_ble_eq_true rfl), (Nat.le_of_ble_eq_true rfl)⟩ (ct_isBarFor _ _ _) ?_
  refine JtKS1 (R' := rm (0) 1 6) (nx := 13) dX11_match_10 rfl ml_X11_requireNumber lk_X11_83 st_X11_requireNumber ⟨(Nat.le_of_ble_eq_true rfl), (Nat.le_of_ble_eq_true rfl)⟩ (Nat.le_of_ble_eq_true rfl) ⟨rfl, rfl⟩ ⟨(Nat.le_of_ble_eq_true rfl), (Nat.le_of_ble_eq_true rfl)⟩ (ct_requireNumber _ (fBa j b)) (fun t_10 => ?_)
  refine J_aload_n (nx := 14) dX11_match_13 rfl rfl ?_
  refine Jg_0_5 (nx := 17) dX11_match_14 rfl fl_X11_40 ?_
  refine J_iload_n (nx := 18) dX11_match_17 rfl rfl ?_
  refine J_iload_n (nx := 19) dX11_match_18 rfl rfl ?_
  refine JcKV2 (R' := rm (0) 0 0) (nx := 22) dX11_match_19 rfl ml_X0_seat lk_X11_222 iv_X0_seat rfl rfl ⟨(Nat.le_of_ble_eq_true rfl), (Nat.le_of_ble_eq_true rfl)⟩ (Nat.le_of_ble_eq_true rfl) ⟨rfl, rfl⟩ ⟨(Nat.le_of_ble_eq_true rfl), (Nat.le_of_ble_eq_true rfl)⟩ (ct_seat _ _ _) ?_
  refine J.gen (fun g_19 hg_19 => ?_)
  have k1 : KF g g_19 := by rw [hg_19]; exact (Fr.rf.sF rfl).sF rfl
  have hJ1 : JudgeAt g_19 q2 := by rw [hg_19]; exact (hJ t_2).seat b
  refine J_iload_n (nx := 23) dX11_match_22 rfl rfl ?_
  refine J_if_eq (nx := 26) (tgt := 53) dX11_match_23 rfl (by decide) (fun c_23 => ?_) (fun c_23 => ?_)
  · refine J_lconst (nx := 54) (i := 0) (v := 0) (by decide) dX11_match_53 rfl ?_
    refine J_lstore (nx := 56) dX11_match_54 rfl rfl (Nat.le_of_ble_eq_true rfl) ?_
    refine J_iconst (nx := 57) (i := 0) (v := 0) (by decide) dX11_match_56 rfl ?_
    refine J_istore (nx := 59) dX11_match_57 rfl rfl (Nat.le_of_ble_eq_true rfl) ?_
    have e0 : st = false := bI_0.mp c_23
    subst e0
    unfold mtA
    show J _ _ (FX [] (RR (.inl (some (.long (fdL (mtR q q2 T G n 9 0 0 (mtS g j b)).1 9)))) (mtR q q2 T G n 9 0 0 (mtS g j b)).2) g) _ _ _ _ _ _ _
    rw [show mtS g j b = g_19 from hg_19.symm]
    exact lp_match q q2 T G n hn j b _ 9 0 0 g_19 _ rfl (hC.kf k1) ((k1.book 11 (by decide)).trans hN) hJ1 rfl
  · refine J_aload_n (nx := 27) dX11_match_26 rfl rfl ?_
    refine Jg_0_5 (nx := 30) dX11_match_27 rfl fl_X11_40 ?_
    refine J_aload_n (nx := 31) dX11_match_30 rfl rfl ?_
    refine Jg_0_2 (nx := 34) dX11_match_31 rfl fl_X11_28 ?_
    refine Jg_20_14 (nx := 37) dX11_match_34 rfl fl_X11_161 ?_
    refine J_aload_n (nx := 38) dX11_match_37 rfl rfl ?_
    refine Jg_0_2 (nx := 41) dX11_match_38 rfl fl_X11_28 ?_
    refine Jg_20_13 (nx := 44) dX11_match_41 rfl fl_X11_173 ?_
    rw [show gF g_19 20 14 = gF g 20 14 from k1.book 14 (by decide), (hC.kf k1).2.1]
    refine JcKV2 (R' := rm (4) 0 0) (nx := 47) dX11_match_44 rfl ml_X0_open lk_X11_188 iv_X0_open rfl rfl ⟨(Nat.le_of_ble_eq_true rfl), (Nat.le_of_ble_eq_true rfl)⟩ (Nat.le_of_ble_eq_true rfl) ⟨rfl, rfl⟩ ⟨(Nat.le_of_ble_eq_true rfl), (Nat.le_of_ble_eq_true rfl)⟩ (ct_open g_19 _ T q (hC.kf k1).1 (by have := hC.2.2.1; omega)) ?_
    refine J.gen (fun g_44 hg_44 => ?_)
    refine J_aload_n (nx := 48) dX11_match_47 rfl rfl ?_
    refine J_iconst (nx := 49) (i := 1) (v := 1) (by decide) dX11_match_48 rfl ?_
    refine JcKV1 (R' := rm (6) 0 0) (nx := 52) dX11_match_49 rfl ml_X11_matchSum lk_X11_261 iv_X11_matchSum rfl rfl ⟨(Nat.le_of_ble_eq_true rfl), (Nat.le_of_ble_eq_true rfl)⟩ (Nat.le_of_ble_eq_true rfl) ⟨rfl, rfl⟩ ⟨(Nat.le_of_ble_eq_true rfl), (Nat.le_of_ble_eq_true rfl)⟩ (ct_matchSum g_44 true q2 G n hn (((show KF g g_44 from by rw [hg_44]; exact kf_open k1 _ _ _).book 11 (by decide)).trans hN) (by rw [hg_44]; exact op_L (hC.kf k1) hJ1 _ _)) ?_
    refine J.gen (fun g_49 hg_49 => ?_)
    exact Jrl dX11_match_52 rfl (Nat.le_of_ble_eq_true rfl) (Nat.le_of_ble_eq_true rfl) ⟨by unfold mtA; rw [bI_n0.mp c_23]; show _ = Sum.inl (some (Value.long (msS q2 G true n 0 0 (opAll (mtS g j b) (gF g 20 14) T q)).1)); rw [hg_44, hg_19]; rfl, by unfold mtA; rw [bI_n0.mp c_23]; show _ = Wd (msS q2 G true n 0 0 (opAll (mtS g j b) (gF g 20 14) T q)).2; rw [hg_49, hg_44, hg_19]; rfl⟩

