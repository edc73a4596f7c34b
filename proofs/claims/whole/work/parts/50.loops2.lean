
def leR (q2 : Option CD) (G n : Nat) : Nat → Nat → GS → Int32 × GS
  | 0, _, g => (-1, luG g)
  | k + 1, i, g => if (itN (lrT q2 G) n (false, g)).1 = true then leR q2 G n k (i + 1) (itN (lrT q2 G) n (false, g)).2 else (nI i, (itN (lrT q2 G) n (false, g)).2)
theorem lr_F {q2 : Option CD} {G : Nat} {c k : Nat} (hc : c < 40) (n : Nat) (p : Bool × GS) : gF (itN (lrT q2 G) n p).2 c k = gF p.2 c k := by
  induction n with
  | zero => rfl
  | succ n ih =>
    refine Eq.trans ?_ ih
    rw [itN_s]
    generalize itN (lrT q2 G) n p = p1
    unfold lrT
    have : ∀ m, gF (itN (lrS q2 G n) m p1).2 c k = gF p1.2 c k := by
      intro m
      induction m with
      | zero => rfl
      | succ m ih2 =>
        refine Eq.trans ?_ ih2
        rw [itN_s]
        generalize itN (lrS q2 G n) m p1 = p2
        unfold lrS
        split
        · rfl
        · show gF (lwG _ _ _ _ _) c k = _
          exact (kf_lw Fr.rf _ _ _ _).book k hc
    exact this 32
set_option maxRecDepth 100000 in
set_option maxHeartbeats 4000000 in
theorem lp_learn (q2 : Option CD) (G n : Nat) (hn : n ≤ 6) (j b : Int32) (n0 : Nat) : ∀ (k : Nat) (i : Nat) (g : GS) (r : Int32 × GS), i + k = 61 → LayOK g q2 G → gF g 20 11 = nI n → r = leR q2 G n k i g → J mX11_learn (rm 8 2 12) (RR (.inl (some (.int r.1))) r.2) n0 52 [some (.ref 0), some (.int j), some (.int b), some (.int (nI i))] [] (Wd g) 2 12 := by
  intro k
  induction k with
  | zero =>
    intro i g r hk hL hN hr
    refine J_iload_n (nx := 53) dX11_learn_52 rfl rfl ?_
    refine J_bipush (nx := 55) (i := 60) (v := 60) (by decide) dX11_learn_53 rfl ?_
    refine J_icmp_gt (nx := 58) (tgt := 76) dX11_learn_55 rfl (by decide) (fun c_55 => ?_) (fun c_55 => ?_)
    · refine J_aload_n (nx := 77) dX11_learn_76 rfl rfl ?_
      refine Jg_0_6 (nx := 80) dX11_learn_77 rfl fl_X11_49 ?_
      refine JcKV0 (R' := rm (1) 0 0) (nx := 83) dX11_learn_80 rfl ml_X4_undo lk_X11_280 iv_X4_undo rfl rfl ⟨(Nat.le_of_ble_eq_true rfl), (Nat.le_of_ble_eq_true rfl)⟩ (Nat.le_of_ble_eq_true rfl) ⟨rfl, rfl⟩ ⟨(Nat.le_of_ble_eq_true rfl), (Nat.le_of_ble_eq_true rfl)⟩ (ct_undo _) ?_
      refine J.gen (fun g_80 hg_80 => ?_)
      refine J_iconst (nx := 84) (i := -1) (v := -1) (by decide) dX11_learn_83 rfl ?_
      exact Jri dX11_learn_84 rfl (Nat.le_of_ble_eq_true rfl) (Nat.le_of_ble_eq_true rfl) ⟨by rw [hr]; rfl, by rw [hr, hg_80]; rfl⟩
    · exact absurd (show nI 60 < nI i from nI_lt (by omega) (by omega)) c_55
  | succ k ih =>
    intro i g r hk hL hN hr
    refine J_iload_n (nx := 53) dX11_learn_52 rfl rfl ?_
    refine J_bipush (nx := 55) (i := 60) (v := 60) (by decide) dX11_learn_53 rfl ?_
    refine J_icmp_gt (nx := 58) (tgt := 76) dX11_learn_55 rfl (by decide) (fun c_55 => ?_) (fun c_55 => ?_)
    · exact absurd c_55 (show ¬ nI 60 < nI i from nI_nlt (by omega) (by omega))
    · refine J_aload_n (nx := 59) dX11_learn_58 rfl rfl ?_
      refine Jg_0_6 (nx := 62) dX11_learn_59 rfl fl_X11_49 ?_
      skip
      refine JcKV0 (R' := rm (6) 0 0) (nx := 65) dX11_learn_62 rfl ml_X4_roundChanges lk_X11_276 iv_X4_roundChanges rfl rfl ⟨(Nat.le_of_ble_eq_true rfl), (Nat.le_of_ble_eq_true rfl)⟩ (Nat.le_of_ble_eq_true rfl) ⟨rfl, rfl⟩ ⟨(Nat.le_of_ble_eq_true rfl), (Nat.le_of_ble_eq_true rfl)⟩ (ct_round g q2 G n hL (by omega) hN) ?_
      refine J.gen (fun g_62 hg_62 => ?_)
      refine J_if_ne (nx := 68) (tgt := 70) dX11_learn_65 rfl (by decide) (fun c_65 => ?_) (fun c_65 => ?_)
      · refine J_iinc (nx := 73) dX11_learn_70 rfl rfl rfl (Nat.le_of_ble_eq_true rfl) ?_
        refine J_goto (nx := 52) dX11_learn_73 (by decide) ?_
        show J _ _ _ _ 52 [some (.ref 0), some (.int j), some (.int b), some (.int (nI i + Int32.ofInt 1))] [] _ _ _
        rw [nI_s]
        exact ih (i + 1) g_62 r (by omega) (by rw [hg_62]; exact LayOK.lrT (p := (false, g)) hL n) (by rw [hg_62, lr_F (by decide)]; exact hN) (hr.trans ((if_pos (bI_n0.mp c_65)).trans (by rw [hg_62])))
      · refine J_iload_n (nx := 69) dX11_learn_68 rfl rfl ?_
        exact Jri dX11_learn_69 rfl (Nat.le_of_ble_eq_true rfl) (Nat.le_of_ble_eq_true rfl) ⟨by rw [hr, show leR q2 G n (k + 1) i g = _ from if_neg (by rw [bI_0.mp c_65]; decide)], by rw [hr, show leR q2 G n (k + 1) i g = _ from if_neg (by rw [bI_0.mp c_65]; decide), hg_62]⟩

def leA (g : GS) (j b : Int32) (q q2 : Option CD) (T G n : Nat) : Int32 × GS := leR q2 G n 61 0 (lbAll (seG g j b q T))
theorem lb_L {g : GS} {q2 : Option CD} {G : Nat} (h : LayOK g q2 G) : LayOK (lbAll g) q2 G :=
  itN_inv (f := lbS) (fun x => LayOK x q2 G) (fun _ _ h => (h.sa _ _).sa _ _) 192 (h.sa _ _)
set_option maxRecDepth 100000 in
set_option maxHeartbeats 4000000 in
theorem ct_learn (g : GS) (j b : Int32) (q q2 : Option CD) (T G n : Nat) (hC : Cl g q T G) (hn : n ≤ 6) (hN : gF g 20 11 = nI n) (hJ : fJu g j = true → JAt g j q2) : Ct mX11_learn (rm 8 2 12) [.ref 0, .int j, .int b] (Wd g) (FX [(fJu g j, x_iob), (fBa j b, x_iae)] (RR (.inl (some (.int (leA g j b q q2 T G n).1))) (leA g j b q q2 T G n).2) g) := by
  refine Ct.of (by decide +kernel) (Nat.le_of_ble_eq_true rfl) ?_
  show J _ _ _ _ 0 [some (.ref 0), some (.int j), some (.int b), none] [] _ 0 0
  refine J_aload_n (nx := 1) dX11_learn_0 rfl rfl ?_
  refine J_iload_n (nx := 2) dX11_learn_1 rfl rfl ?_
  refine JtKV1 (R' := rm (1) 1 6) (nx := 5) dX11_learn_2 rfl ml_X11_requireJudge lk_X11_206 iv_X11_requireJudge rfl rfl ⟨(Nat.le_of_ble_eq_true rfl), (Nat.le_of_ble_eq_true rfl)⟩ (Nat.le_of_ble_eq_true rfl) ⟨rfl, rfl⟩ ⟨(Nat.le_of_ble_eq_true rfl), (Nat.le_of_ble_eq_true rfl)⟩ (ct_requireJudge _ _) (fun t_2 => ?_)
  refine J_iload_n (nx := 6) dX11_learn_5 rfl rfl ?_
  refine J_iload_n (nx := 7) dX11_learn_6 rfl rfl ?_
  refine JcKS2 (R' := rm (1) 0 0) (nx := 10) dX11_learn_7 rfl ml_X11_isBarFor lk_X11_209 st_X11_isBarFor ⟨(Nat.le_of_ble_eq_true rfl), (Nat.le_of_ble_eq_true rfl)⟩ (Nat.le_of_ble_eq_true rfl) ⟨rfl, rfl⟩ ⟨(Nat.le_of_ble_eq_true rfl), (Nat.le_of_ble_eq_true rfl)⟩ (ct_isBarFor _ _ _) ?_
  refine JtKS1 (R' := rm (0) 1 6) (nx := 13) dX11_learn_10 rfl ml_X11_requireNumber lk_X11_83 st_X11_requireNumber ⟨(Nat.le_of_ble_eq_true rfl), (Nat.le_of_ble_eq_true rfl)⟩ (Nat.le_of_ble_eq_true rfl) ⟨rfl, rfl⟩ ⟨(Nat.le_of_ble_eq_true rfl), (Nat.le_of_ble_eq_true rfl)⟩ (ct_requireNumber _ (fBa j b)) (fun t_10 => ?_)
  refine J_aload_n (nx := 14) dX11_learn_13 rfl rfl ?_
  refine Jg_0_5 (nx := 17) dX11_learn_14 rfl fl_X11_40 ?_
  refine J_aload_n (nx := 18) dX11_learn_17 rfl rfl ?_
  refine Jg_0_2 (nx := 21) dX11_learn_18 rfl fl_X11_28 ?_
  refine Jg_20_14 (nx := 24) dX11_learn_21 rfl fl_X11_161 ?_
  refine J_aload_n (nx := 25) dX11_learn_24 rfl rfl ?_
  refine Jg_0_2 (nx := 28) dX11_learn_25 rfl fl_X11_28 ?_
  refine Jg_20_13 (nx := 31) dX11_learn_28 rfl fl_X11_173 ?_
  rw [hC.2.1]
  refine JcKV2 (R' := rm (4) 0 0) (nx := 34) dX11_learn_31 rfl ml_X0_open lk_X11_188 iv_X0_open rfl rfl ⟨(Nat.le_of_ble_eq_true rfl), (Nat.le_of_ble_eq_true rfl)⟩ (Nat.le_of_ble_eq_true rfl) ⟨rfl, rfl⟩ ⟨(Nat.le_of_ble_eq_true rfl), (Nat.le_of_ble_eq_true rfl)⟩ (ct_open g _ T q hC.1 (by have := hC.2.2.1; omega)) ?_
  refine J.gen (fun g_31 hg_31 => ?_)
  refine J_aload_n (nx := 35) dX11_learn_34 rfl rfl ?_
  refine Jg_0_5 (nx := 38) dX11_learn_35 rfl fl_X11_40 ?_
  refine J_iload_n (nx := 39) dX11_learn_38 rfl rfl ?_
  refine J_iload_n (nx := 40) dX11_learn_39 rfl rfl ?_
  refine JcKV2 (R' := rm (0) 0 0) (nx := 43) dX11_learn_40 rfl ml_X0_seat lk_X11_222 iv_X0_seat rfl rfl ⟨(Nat.le_of_ble_eq_true rfl), (Nat.le_of_ble_eq_true rfl)⟩ (Nat.le_of_ble_eq_true rfl) ⟨rfl, rfl⟩ ⟨(Nat.le_of_ble_eq_true rfl), (Nat.le_of_ble_eq_true rfl)⟩ (ct_seat _ _ _) ?_
  refine J.gen (fun g_40 hg_40 => ?_)
  have e1 : g_40 = seG g j b q T := by rw [hg_40, hg_31]; rfl
  have hL1 : LayOK g_40 q2 G := by rw [e1]; exact se_L hC (hJ t_2)
  refine J_aload_n (nx := 44) dX11_learn_43 rfl rfl ?_
  refine Jg_0_6 (nx := 47) dX11_learn_44 rfl fl_X11_49 ?_
  refine JcKV0 (R' := rm (1) 0 0) (nx := 50) dX11_learn_47 rfl ml_X4_begin lk_X11_273 iv_X4_begin rfl rfl ⟨(Nat.le_of_ble_eq_true rfl), (Nat.le_of_ble_eq_true rfl)⟩ (Nat.le_of_ble_eq_true rfl) ⟨rfl, rfl⟩ ⟨(Nat.le_of_ble_eq_true rfl), (Nat.le_of_ble_eq_true rfl)⟩ (ct_begin _) ?_
  refine J.gen (fun g_47 hg_47 => ?_)
  refine J_iconst (nx := 51) (i := 0) (v := 0) (by decide) dX11_learn_50 rfl ?_
  refine J_istore_n (nx := 52) dX11_learn_51 rfl rfl (Nat.le_of_ble_eq_true rfl) ?_
  unfold leA
  rw [← e1, show lbAll g_40 = g_47 from hg_47.symm]
  exact lp_learn q2 G n hn j b _ 61 0 g_47 _ rfl (by rw [hg_47]; exact lb_L hL1) (((show KF g g_47 from by rw [hg_47, e1]; exact kf_lb (kf_se Fr.rf _ _ _ _)).book 11 (by decide)).trans hN) rfl


def wyR (all : Int32) : Nat → Nat → Int64 → Int64
  | 0, _, a => a
  | k + 1, i, a => wyR all k (i + 1) (a * (all - nI i).toInt64 / (nI i + 1).toInt64)
theorem toI64_ne0 {i : Nat} (h : i < 2 ^ 30) : ¬ (nI i + 1).toInt64 = 0 := by
  rw [nI_1, nI_l (by omega)]
  intro z
  have := congrArg Int64.toInt z
  rw [lN_toInt (by omega)] at this
  exact absurd this (by show ¬ ((i + 1 : Nat) : Int) = 0; omega)
set_option maxRecDepth 100000 in
set_option maxHeartbeats 4000000 in
theorem lp_waysOf (g : GS) (all : Int32) (m : Nat) (hm : m ≤ 60) (n0 : Nat) : ∀ (k : Nat) (i : Nat) (a r : Int64), i + k = m → r = wyR all k i a → J mX11_waysOf (rm 0 0 0) (RR (.inl (some (.long r))) g) n0 5 [some (.int all), some (.int (nI m)), some (.long (a)), none, some (.int (nI i))] [] (Wd g) 0 0 := by
  intro k
  induction k with
  | zero =>
    intro i a r hk hr
    refine J_iload (nx := 7) dX11_waysOf_5 rfl rfl ?_
    refine J_iload_n (nx := 8) dX11_waysOf_7 rfl rfl ?_
    refine J_icmp_ge (nx := 11) (tgt := 31) dX11_waysOf_8 rfl (by decide) (fun c_8 => ?_) (fun c_8 => ?_)
    · refine J_lload_n (nx := 32) dX11_waysOf_31 rfl rfl ?_
      exact Jrl dX11_waysOf_32 rfl (Nat.zero_le _) (Nat.zero_le _) ⟨by rw [hr]; rfl, rfl⟩
    · exact absurd (nI_le (show m ≤ i by omega) (by omega)) c_8
  | succ k ih =>
    intro i a r hk hr
    refine J_iload (nx := 7) dX11_waysOf_5 rfl rfl ?_
    refine J_iload_n (nx := 8) dX11_waysOf_7 rfl rfl ?_
    refine J_icmp_ge (nx := 11) (tgt := 31) dX11_waysOf_8 rfl (by decide) (fun c_8 => ?_) (fun c_8 => ?_)
    · exact absurd c_8 (nlt_nI (show i < m by omega) (by omega))
    · refine J_lload_n (nx := 12) dX11_waysOf_11 rfl rfl ?_
      refine J_iload_n (nx := 13) dX11_waysOf_12 rfl rfl ?_
      refine J_iload (nx := 15) dX11_waysOf_13 rfl rfl ?_
      refine J_isub (nx := 16) dX11_waysOf_15 rfl ?_
      refine J_i2l (nx := 17) dX11_waysOf_16 rfl ?_
      refine J_lmul (nx := 18) dX11_waysOf_17 rfl ?_
      refine J_iload (nx := 20) dX11_waysOf_18 rfl rfl ?_
      refine J_iconst (nx := 21) (i := 1) (v := 1) (by decide) dX11_waysOf_20 rfl ?_
      refine J_iadd (nx := 22) dX11_waysOf_21 rfl ?_
      refine J_i2l (nx := 23) dX11_waysOf_22 rfl ?_
      refine J_ldiv (nx := 24) (toI64_ne0 (by omega)) dX11_waysOf_23 rfl ?_
      refine J_lstore_n (nx := 25) dX11_waysOf_24 rfl rfl (Nat.le_of_ble_eq_true rfl) ?_
      refine J_iinc (nx := 28) dX11_waysOf_25 rfl rfl rfl (Nat.le_of_ble_eq_true rfl) ?_
      refine J_goto (nx := 5) dX11_waysOf_28 (by decide) ?_
      show J _ _ _ _ 5 [some (.int all), some (.int (nI m)), some (.long (a * (all - nI i).toInt64 / (nI i + 1).toInt64)), none, some (.int (nI i + Int32.ofInt 1))] [] _ _ _
      rw [nI_s]
      exact ih (i + 1) _ r (by omega) hr

set_option maxRecDepth 100000 in
set_option maxHeartbeats 4000000 in
theorem ct_waysOf (g : GS) (all : Int32) (m : Nat) (hm : m ≤ 60) : Ct mX11_waysOf (rm 0 0 0) [.int all, .int (nI m)] (Wd g) (RR (.inl (some (.long (wyR all m 0 1)))) g) := by
  refine Ct.of (by decide +kernel) (Nat.le_of_ble_eq_true rfl) ?_
  show J _ _ _ _ 0 [some (.int all), some (.int (nI m)), none, none, none] [] _ 0 0
  refine J_lconst (nx := 1) (i := 1) (v := 1) (by decide) dX11_waysOf_0 rfl ?_
  refine J_lstore_n (nx := 2) dX11_waysOf_1 rfl rfl (Nat.le_of_ble_eq_true rfl) ?_
  refine J_iconst (nx := 3) (i := 0) (v := 0) (by decide) dX11_waysOf_2 rfl ?_
  refine J_istore (nx := 5) dX11_waysOf_3 rfl rfl (Nat.le_of_ble_eq_true rfl) ?_
  exact lp_waysOf g all m hm _ m 0 1 _ (by omega) rfl


def lnR (F S st : Nat) : Nat → Nat → Int64 → Int64
  | 0, _, a => a
  | k + 1, i, a => lnR F S st k (i + 1) (a + wyR (nI F) i 0 1 * wyR (nI S) (st - i) 0 1)
def lnV (F a S c : Nat) (all : Bool) : Int64 := bif all then wyR (nI (F + S)) (a + c) 0 1 else lnR F S (a + c) (min F (a + c) + 1 - a) a 0
set_option maxRecDepth 100000 in
set_option maxHeartbeats 4000000 in
theorem lp_leans (g : GS) (F S st a0 c0 : Nat) (hF : F ≤ 30) (hst : st ≤ 60) (n0 : Nat) : ∀ (k : Nat) (i : Nat) (a r : Int64), i + k = min F st + 1 → r = lnR F S st k i a → J mX11_leans (rm 2 2 12) (RR (.inl (some (.long r))) g) n0 77 [some (.ref 0), some (.int (nI F)), some (.int (nI a0)), some (.int (nI S)), some (.int (nI c0)), some (.int 0), some (.int (nI st)), some (.long (a)), none, some (.int (nI i))] [] (Wd g) 2 12 := by
  intro k
  induction k with
  | zero =>
    intro i a r hk hr
    refine J_iload (nx := 79) dX11_leans_77 rfl rfl ?_
    refine J_iload_n (nx := 80) dX11_leans_79 rfl rfl ?_
    refine J_icmp_gt (nx := 83) (tgt := 117) dX11_leans_80 rfl (by decide) (fun c_80 => ?_) (fun c_80 => ?_)
    · refine J_lload (nx := 119) dX11_leans_117 rfl rfl ?_
      exact Jrl dX11_leans_119 rfl (Nat.le_of_ble_eq_true rfl) (Nat.le_of_ble_eq_true rfl) ⟨by rw [hr]; rfl, rfl⟩
    · refine J_iload (nx := 85) dX11_leans_83 rfl rfl ?_
      refine J_iload (nx := 87) dX11_leans_85 rfl rfl ?_
      refine J_icmp_gt (nx := 90) (tgt := 117) dX11_leans_87 rfl (by decide) (fun c_87 => ?_) (fun c_87 => ?_)
      · refine J_lload (nx := 119) dX11_leans_117 rfl rfl ?_
        exact Jrl dX11_leans_119 rfl (Nat.le_of_ble_eq_true rfl) (Nat.le_of_ble_eq_true rfl) ⟨by rw [hr]; rfl, rfl⟩
      · rcases Nat.lt_or_ge F st with h | h
        · exact absurd (show nI F < nI i from nI_lt (by omega) (by omega)) c_80
        · exact absurd (show nI st < nI i from nI_lt (by omega) (by omega)) c_87
  | succ k ih =>
    intro i a r hk hr
    refine J_iload (nx := 79) dX11_leans_77 rfl rfl ?_
    refine J_iload_n (nx := 80) dX11_leans_79 rfl rfl ?_
    refine J_icmp_gt (nx := 83) (tgt := 117) dX11_leans_80 rfl (by decide) (fun c_80 => ?_) (fun c_80 => ?_)
    · exact absurd c_80 (show ¬ nI F < nI i from nI_nlt (by omega) (by omega))
    · refine J_iload (nx := 85) dX11_leans_83 rfl rfl ?_
      refine J_iload (nx := 87) dX11_leans_85 rfl rfl ?_
      refine J_icmp_gt (nx := 90) (tgt := 117) dX11_leans_87 rfl (by decide) (fun c_87 => ?_) (fun c_87 => ?_)
      · exact absurd c_87 (show ¬ nI st < nI i from nI_nlt (by omega) (by omega))
      · refine J_lload (nx := 92) dX11_leans_90 rfl rfl ?_
        refine J_iload_n (nx := 93) dX11_leans_92 rfl rfl ?_
        refine J_iload (nx := 95) dX11_leans_93 rfl rfl ?_
        refine JcKS2 (R' := rm (0) 0 0) (nx := 98) dX11_leans_95 rfl ml_X11_waysOf lk_X11_285 st_X11_waysOf ⟨(Nat.le_of_ble_eq_true rfl), (Nat.le_of_ble_eq_true rfl)⟩ (Nat.le_of_ble_eq_true rfl) ⟨rfl, rfl⟩ ⟨(Nat.le_of_ble_eq_true rfl), (Nat.le_of_ble_eq_true rfl)⟩ (ct_waysOf g (nI F) i (by omega)) ?_
        refine J_iload_n (nx := 99) dX11_leans_98 rfl rfl ?_
        refine J_iload (nx := 101) dX11_leans_99 rfl rfl ?_
        refine J_iload (nx := 103) dX11_leans_101 rfl rfl ?_
        refine J_isub (nx := 104) dX11_leans_103 rfl ?_
        rw [nI_sub (show i ≤ st by omega)]
        refine JcKS2 (R' := rm (0) 0 0) (nx := 107) dX11_leans_104 rfl ml_X11_waysOf lk_X11_285 st_X11_waysOf ⟨(Nat.le_of_ble_eq_true rfl), (Nat.le_of_ble_eq_true rfl)⟩ (Nat.le_of_ble_eq_true rfl) ⟨rfl, rfl⟩ ⟨(Nat.le_of_ble_eq_true rfl), (Nat.le_of_ble_eq_true rfl)⟩ (ct_waysOf g (nI S) (st - i) (by omega)) ?_
        refine J_lmul (nx := 108) dX11_leans_107 rfl ?_
        refine J_ladd (nx := 109) dX11_leans_108 rfl ?_
        refine J_lstore (nx := 111) dX11_leans_109 rfl rfl (Nat.le_of_ble_eq_true rfl) ?_
        refine J_iinc (nx := 114) dX11_leans_111 rfl rfl rfl (Nat.le_of_ble_eq_true rfl) ?_
        refine J_goto (nx := 77) dX11_leans_114 (by decide) ?_
        show J _ _ _ _ 77 [some (.ref 0), some (.int (nI F)), some (.int (nI a0)), some (.int (nI S)), some (.int (nI c0)), some (.int 0), some (.int (nI st)), some (.long (a + wyR (nI F) i 0 1 * wyR (nI S) (st - i) 0 1)), none, some (.int (nI i + Int32.ofInt 1))] [] _ _ _
        rw [nI_s]
        exact ih (i + 1) _ r (by omega) hr

set_option maxRecDepth 100000 in
set_option maxHeartbeats 4000000 in
theorem ct_leans (g : GS) (x1 x2 x3 x4 : Int32) (all : Bool) : Ct mX11_leans (rm 2 2 12) [.ref 0, .int x1, .int x2, .int x3, .int x4, .int (bI all)] (Wd g) (FX [(fWi x1 30 && fWi x2 x1, x_iae), (fWi x3 30 && fWi x4 x3, x_iae)] (RR (.inl (some (.long (lnV x1.toNatClampNeg x2.toNatClampNeg x3.toNatClampNeg x4.toNatClampNeg all)))) g) g) := by
  refine Ct.of (by decide +kernel) (Nat.le_of_ble_eq_true rfl) ?_
  show J _ _ _ _ 0 [some (.ref 0), some (.int x1), some (.int x2), some (.int x3), some (.int x4), some (.int (bI all)), none, none, none, none] [] _ 0 0
  refine J_iload_n (nx := 1) dX11_leans_0 rfl rfl ?_
  refine J_bipush (nx := 3) (i := 30) (v := 30) (by decide) dX11_leans_1 rfl ?_
  refine JcKS2 (R' := rm (0) 0 0) (nx := 6) dX11_leans_3 rfl ml_X11_within lk_X11_75 st_X11_within ⟨(Nat.le_of_ble_eq_true rfl), (Nat.le_of_ble_eq_true rfl)⟩ (Nat.le_of_ble_eq_true rfl) ⟨rfl, rfl⟩ ⟨(Nat.le_of_ble_eq_true rfl), (Nat.le_of_ble_eq_true rfl)⟩ (ct_within _ _ _) ?_
  refine J_if_eq (nx := 9) (tgt := 21) dX11_leans_6 rfl (by decide) (fun c_6 => ?_) (fun c_6 => ?_)
  · refine J_iconst (nx := 22) (i := 0) (v := 0) (by decide) dX11_leans_21 rfl ?_
    refine J.topi (bI (fWi x1 30 && fWi x2 x1)) (by first | (rw [bI_0.mp c_6]; rfl) | (rw [bI_n0.mp c_6, bI_0.mp c_14]; rfl) | (rw [bI_n0.mp c_6, bI_n0.mp c_14]; rfl)) ?_
    refine JtKS1 (R' := rm (0) 1 6) (nx := 25) dX11_leans_22 rfl ml_X11_requireNumber lk_X11_83 st_X11_requireNumber ⟨(Nat.le_of_ble_eq_true rfl), (Nat.le_of_ble_eq_true rfl)⟩ (Nat.le_of_ble_eq_true rfl) ⟨rfl, rfl⟩ ⟨(Nat.le_of_ble_eq_true rfl), (Nat.le_of_ble_eq_true rfl)⟩ (ct_requireNumber _ (fWi x1 30 && fWi x2 x1)) (fun t_22 => ?_)
    refine J_iload_n (nx := 26) dX11_leans_25 rfl rfl ?_
    refine J_bipush (nx := 28) (i := 30) (v := 30) (by decide) dX11_leans_26 rfl ?_
    refine JcKS2 (R' := rm (0) 0 0) (nx := 31) dX11_leans_28 rfl ml_X11_within lk_X11_75 st_X11_within ⟨(Nat.le_of_ble_eq_true rfl), (Nat.le_of_ble_eq_true rfl)⟩ (Nat.le_of_ble_eq_true rfl) ⟨rfl, rfl⟩ ⟨(Nat.le_of_ble_eq_true rfl), (Nat.le_of_ble_eq_true rfl)⟩ (ct_within _ _ _) ?_
    refine J_if_eq (nx := 34) (tgt := 47) dX11_leans_31 rfl (by decide) (fun c_31 => ?_) (fun c_31 => ?_)
    · refine J_iconst (nx := 48) (i := 0) (v := 0) (by decide) dX11_leans_47 rfl ?_
      refine J.topi (bI (fWi x3 30 && fWi x4 x3)) (by first | (rw [bI_0.mp c_31]; rfl) | (rw [bI_n0.mp c_31, bI_0.mp c_40]; rfl) | (rw [bI_n0.mp c_31, bI_n0.mp c_40]; rfl)) ?_
      refine JtKS1 (R' := rm (0) 1 6) (nx := 51) dX11_leans_48 rfl ml_X11_requireNumber lk_X11_83 st_X11_requireNumber ⟨(Nat.le_of_ble_eq_true rfl), (Nat.le_of_ble_eq_true rfl)⟩ (Nat.le_of_ble_eq_true rfl) ⟨rfl, rfl⟩ ⟨(Nat.le_of_ble_eq_true rfl), (Nat.le_of_ble_eq_true rfl)⟩ (ct_requireNumber _ (fWi x3 30 && fWi x4 x3)) (fun t_48 => ?_)
      obtain ⟨F, hF, rfl⟩ := fWi_nI (m := 30) (by decide) (Bool.and_eq_true_iff.mp t_22).1
      obtain ⟨a, ha, rfl⟩ := fWi_nI (m := F) (by omega) (Bool.and_eq_true_iff.mp t_22).2
      obtain ⟨S, hS, rfl⟩ := fWi_nI (m := 30) (by decide) (Bool.and_eq_true_iff.mp t_48).1
      obtain ⟨c, hc, rfl⟩ := fWi_nI (m := S) (by omega) (Bool.and_eq_true_iff.mp t_48).2
      rw [nI_clamp (by omega), nI_clamp (by omega), nI_clamp (by omega), nI_clamp (by omega)]
      refine J_iload_n (nx := 52) dX11_leans_51 rfl rfl ?_
      refine J_iload (nx := 54) dX11_leans_52 rfl rfl ?_
      refine J_iadd (nx := 55) dX11_leans_54 rfl ?_
      rw [nI_add]
      refine J_istore (nx := 57) dX11_leans_55 rfl rfl (Nat.le_of_ble_eq_true rfl) ?_
      refine J_iload (nx := 59) dX11_leans_57 rfl rfl ?_
      refine J_if_eq (nx := 62) (tgt := 71) dX11_leans_59 rfl (by decide) (fun c_59 => ?_) (fun c_59 => ?_)
      · refine J_lconst (nx := 72) (i := 0) (v := 0) (by decide) dX11_leans_71 rfl ?_
        refine J_lstore (nx := 74) dX11_leans_72 rfl rfl (Nat.le_of_ble_eq_true rfl) ?_
        refine J_iload_n (nx := 75) dX11_leans_74 rfl rfl ?_
        refine J_istore (nx := 77) dX11_leans_75 rfl rfl (Nat.le_of_ble_eq_true rfl) ?_
        rw [show all = false from bI_0.mp c_59]
        exact lp_leans g F S (a + c) a c hF (by omega) _ (min F (a + c) + 1 - a) a 0 (lnV F a S c false) (by omega) rfl
      · refine J_iload_n (nx := 63) dX11_leans_62 rfl rfl ?_
        refine J_iload_n (nx := 64) dX11_leans_63 rfl rfl ?_
        refine J_iadd (nx := 65) dX11_leans_64 rfl ?_
        refine J_iload (nx := 67) dX11_leans_65 rfl rfl ?_
        rw [nI_add]
        refine JcKS2 (R' := rm (0) 0 0) (nx := 70) dX11_leans_67 rfl ml_X11_waysOf lk_X11_285 st_X11_waysOf ⟨(Nat.le_of_ble_eq_true rfl), (Nat.le_of_ble_eq_true rfl)⟩ (Nat.le_of_ble_eq_true rfl) ⟨rfl, rfl⟩ ⟨(Nat.le_of_ble_eq_true rfl), (Nat.le_of_ble_eq_true rfl)⟩ (ct_waysOf g (nI (F + S)) (a + c) (by omega)) ?_
        exact Jrl dX11_leans_70 rfl (Nat.le_of_ble_eq_true rfl) (Nat.le_of_ble_eq_true rfl) ⟨by unfold lnV; rw [bI_n0.mp c_59]; rfl, rfl⟩
    · refine J_iload (nx := 36) dX11_leans_34 rfl rfl ?_
      refine J_iload_n (nx := 37) dX11_leans_36 rfl rfl ?_
      refine JcKS2 (R' := rm (0) 0 0) (nx := 40) dX11_leans_37 rfl ml_X11_within lk_X11_75 st_X11_within ⟨(Nat.le_of_ble_eq_true rfl), (Nat.le_of_ble_eq_true rfl)⟩ (Nat.le_of_ble_eq_true rfl) ⟨rfl, rfl⟩ ⟨(Nat.le_of_ble_eq_true rfl), (Nat.le_of_ble_eq_true rfl)⟩ (ct_within _ _ _) ?_
      refine J_if_eq (nx := 43) (tgt := 47) dX11_leans_40 rfl (by decide) (fun c_40 => ?_) (fun c_40 => ?_)
      · refine J_iconst (nx := 48) (i := 0) (v := 0) (by decide) dX11_leans_47 rfl ?_
        refine J.topi (bI (fWi x3 30 && fWi x4 x3)) (by first | (rw [bI_0.mp c_31]; rfl) | (rw [bI_n0.mp c_31, bI_0.mp c_40]; rfl) | (rw [bI_n0.mp c_31, bI_n0.mp c_40]; rfl)) ?_
        refine JtKS1 (R' := rm (0) 1 6) (nx := 51) dX11_leans_48 rfl ml_X11_requireNumber lk_X11_83 st_X11_requireNumber ⟨(Nat.le_of_ble_eq_true rfl), (Nat.le_of_ble_eq_true rfl)⟩ (Nat.le_of_ble_eq_true rfl) ⟨rfl, rfl⟩ ⟨(Nat.le_of_ble_eq_true rfl), (Nat.le_of_ble_eq_true rfl)⟩ (ct_requireNumber _ (fWi x3 30 && fWi x4 x3)) (fun t_48 => ?_)
        obtain ⟨F, hF, rfl⟩ := fWi_nI (m := 30) (by decide) (Bool.and_eq_true_iff.mp t_22).1
        obtain ⟨a, ha, rfl⟩ := fWi_nI (m := F) (by omega) (Bool.and_eq_true_iff.mp t_22).2
        obtain ⟨S, hS, rfl⟩ := fWi_nI (m := 30) (by decide) (Bool.and_eq_true_iff.mp t_48).1
        obtain ⟨c, hc, rfl⟩ := fWi_nI (m := S) (by omega) (Bool.and_eq_true_iff.mp t_48).2
        rw [nI_clamp (by omega), nI_clamp (by omega), nI_clamp (by omega), nI_clamp (by omega)]
        refine J_iload_n (nx := 52) dX11_leans_51 rfl rfl ?_
        refine J_iload (nx := 54) dX11_leans_52 rfl rfl ?_
        refine J_iadd (nx := 55) dX11_leans_54 rfl ?_
        rw [nI_add]
        refine J_istore (nx := 57) dX11_leans_55 rfl rfl (Nat.le_of_ble_eq_true rfl) ?_
        refine J_iload (nx := 59) dX11_leans_57 rfl rfl ?_
        refine J_if_eq (nx := 62) (tgt := 71) dX11_leans_59 rfl (by decide) (fun c_59 => ?_) (fun c_59 => ?_)
        · refine J_lconst (nx := 72) (i := 0) (v := 0) (by decide) dX11_leans_71 rfl ?_
          refine J_lstore (nx := 74) dX11_leans_72 rfl rfl (Nat.le_of_ble_eq_true rfl) ?_
          refine J_iload_n (nx := 75) dX11_leans_74 rfl rfl ?_
          refine J_istore (nx := 77) dX11_leans_75 rfl rfl (Nat.le_of_ble_eq_true rfl) ?_
          rw [show all = false from bI_0.mp c_59]
          exact lp_leans g F S (a + c) a c hF (by omega) _ (min F (a + c) + 1 - a) a 0 (lnV F a S c false) (by omega) rfl
        · refine J_iload_n (nx := 63) dX11_leans_62 rfl rfl ?_
          refine J_iload_n (nx := 64) dX11_leans_63 rfl rfl ?_
          refine J_iadd (nx := 65) dX11_leans_64 rfl ?_
          refine J_iload (nx := 67) dX11_leans_65 rfl rfl ?_
          rw [nI_add]
          refine JcKS2 (R' := rm (0) 0 0) (nx := 70) dX11_leans_67 rfl ml_X11_waysOf lk_X11_285 st_X11_waysOf ⟨(Nat.le_of_ble_eq_true rfl), (Nat.le_of_ble_eq_true rfl)⟩ (Nat.le_of_ble_eq_true rfl) ⟨rfl, rfl⟩ ⟨(Nat.le_of_ble_eq_true rfl), (Nat.le_of_ble_eq_true rfl)⟩ (ct_waysOf g (nI (F + S)) (a + c) (by omega)) ?_
          exact Jrl dX11_leans_70 rfl (Nat.le_of_ble_eq_true rfl) (Nat.le_of_ble_eq_true rfl) ⟨by unfold lnV; rw [bI_n0.mp c_59]; rfl, rfl⟩
      · refine J_iconst (nx := 44) (i := 1) (v := 1) (by decide) dX11_leans_43 rfl ?_
        refine J_goto (nx := 48) dX11_leans_44 (by decide) ?_
        refine J.topi (bI (fWi x3 30 && fWi x4 x3)) (by first | (rw [bI_0.mp c_31]; rfl) | (rw [bI_n0.mp c_31, bI_0.mp c_40]; rfl) | (rw [bI_n0.mp c_31, bI_n0.mp c_40]; rfl)) ?_
        refine JtKS1 (R' := rm (0) 1 6) (nx := 51) dX11_leans_48 rfl ml_X11_requireNumber lk_X11_83 st_X11_requireNumber ⟨(Nat.le_of_ble_eq_true rfl), (Nat.le_of_ble_eq_true rfl)⟩ (Nat.le_of_ble_eq_true rfl) ⟨rfl, rfl⟩ ⟨(Nat.le_of_ble_eq_true rfl), (Nat.le_of_ble_eq_true rfl)⟩ (ct_requireNumber _ (fWi x3 30 && fWi x4 x3)) (fun t_48 => ?_)
        obtain ⟨F, hF, rfl⟩ := fWi_nI (m := 30) (by decide) (Bool.and_eq_true_iff.mp t_22).1
        obtain ⟨a, ha, rfl⟩ := fWi_nI (m := F) (by omega) (Bool.and_eq_true_iff.mp t_22).2
        obtain ⟨S, hS, rfl⟩ := fWi_nI (m := 30) (by decide) (Bool.and_eq_true_iff.mp t_48).1
        obtain ⟨c, hc, rfl⟩ := fWi_nI (m := S) (by omega) (Bool.and_eq_true_iff.mp t_48).2
        rw [nI_clamp (by omega), nI_clamp (by omega), nI_clamp (by omega), nI_clamp (by omega)]
        refine J_iload_n (nx := 52) dX11_leans_51 rfl rfl ?_
        refine J_iload (nx := 54) dX11_leans_52 rfl rfl ?_
        refine J_iadd (nx := 55) dX11_leans_54 rfl ?_
        rw [nI_add]
        refine J_istore (nx := 57) dX11_leans_55 rfl rfl (Nat.le_of_ble_eq_true rfl) ?_
        refine J_iload (nx := 59) dX11_leans_57 rfl rfl ?_
        refine J_if_eq (nx := 62) (tgt := 71) dX11_leans_59 rfl (by decide) (fun c_59 => ?_) (fun c_59 => ?_)
        · refine J_lconst (nx := 72) (i := 0) (v := 0) (by decide) dX11_leans_71 rfl ?_
          refine J_lstore (nx := 74) dX11_leans_72 rfl rfl (Nat.le_of_ble_eq_true rfl) ?_
          refine J_iload_n (nx := 75) dX11_leans_74 rfl rfl ?_
          refine J_istore (nx := 77) dX11_leans_75 rfl rfl (Nat.le_of_ble_eq_true rfl) ?_
          rw [show all = false from bI_0.mp c_59]
          exact lp_leans g F S (a + c) a c hF (by omega) _ (min F (a + c) + 1 - a) a 0 (lnV F a S c false) (by omega) rfl
        · refine J_iload_n (nx := 63) dX11_leans_62 rfl rfl ?_
          refine J_iload_n (nx := 64) dX11_leans_63 rfl rfl ?_
          refine J_iadd (nx := 65) dX11_leans_64 rfl ?_
          refine J_iload (nx := 67) dX11_leans_65 rfl rfl ?_
          rw [nI_add]
          refine JcKS2 (R' := rm (0) 0 0) (nx := 70) dX11_leans_67 rfl ml_X11_waysOf lk_X11_285 st_X11_waysOf ⟨(Nat.le_of_ble_eq_true rfl), (Nat.le_of_ble_eq_true rfl)⟩ (Nat.le_of_ble_eq_true rfl) ⟨rfl, rfl⟩ ⟨(Nat.le_of_ble_eq_true rfl), (Nat.le_of_ble_eq_true rfl)⟩ (ct_waysOf g (nI (F + S)) (a + c) (by omega)) ?_
          exact Jrl dX11_leans_70 rfl (Nat.le_of_ble_eq_true rfl) (Nat.le_of_ble_eq_true rfl) ⟨by unfold lnV; rw [bI_n0.mp c_59]; rfl, rfl⟩
  · refine J_iload_n (nx := 10) dX11_leans_9 rfl rfl ?_
    refine J_iload_n (nx := 11) dX11_leans_10 rfl rfl ?_
    refine JcKS2 (R' := rm (0) 0 0) (nx := 14) dX11_leans_11 rfl ml_X11_within lk_X11_75 st_X11_within ⟨(Nat.le_of_ble_eq_true rfl), (Nat.le_of_ble_eq_true rfl)⟩ (Nat.le_of_ble_eq_true rfl) ⟨rfl, rfl⟩ ⟨(Nat.le_of_ble_eq_true rfl), (Nat.le_of_ble_eq_true rfl)⟩ (ct_within _ _ _) ?_
    refine J_if_eq (nx := 17) (tgt := 21) dX11_leans_14 rfl (by decide) (fun c_14 => ?_) (fun c_14 => ?_)
    · refine J_iconst (nx := 22) (i := 0) (v := 0) (by decide) dX11_leans_21 rfl ?_
      refine J.topi (bI (fWi x1 30 && fWi x2 x1)) (by first | (rw [bI_0.mp c_6]; rfl) | (rw [bI_n0.mp c_6, bI_0.mp c_14]; rfl) | (rw [bI_n0.mp c_6, bI_n0.mp c_14]; rfl)) ?_
      refine JtKS1 (R' := rm (0) 1 6) (nx := 25) dX11_leans_22 rfl ml_X11_requireNumber lk_X11_83 st_X11_requireNumber ⟨(Nat.le_of_ble_eq_true rfl), (Nat.le_of_ble_eq_true rfl)⟩ (Nat.le_of_ble_eq_true rfl) ⟨rfl, rfl⟩ ⟨(Nat.le_of_ble_eq_true rfl), (Nat.le_of_ble_eq_true rfl)⟩ (ct_requireNumber _ (fWi x1 30 && fWi x2 x1)) (fun t_22 => ?_)
      refine J_iload_n (nx := 26) dX11_leans_25 rfl rfl ?_
      refine J_bipush (nx := 28) (i := 30) (v := 30) (by decide) dX11_leans_26 rfl ?_
      refine JcKS2 (R' := rm (0) 0 0) (nx := 31) dX11_leans_28 rfl ml_X11_within lk_X11_75 st_X11_within ⟨(Nat.le_of_ble_eq_true rfl), (Nat.le_of_ble_eq_true rfl)⟩ (Nat.le_of_ble_eq_true rfl) ⟨rfl, rfl⟩ ⟨(Nat.le_of_ble_eq_true rfl), (Nat.le_of_ble_eq_true rfl)⟩ (ct_within _ _ _) ?_
      refine J_if_eq (nx := 34) (tgt := 47) dX11_leans_31 rfl (by decide) (fun c_31 => ?_) (fun c_31 => ?_)
      · refine J_iconst (nx := 48) (i := 0) (v := 0) (by decide) dX11_leans_47 rfl ?_
        refine J.topi (bI (fWi x3 30 && fWi x4 x3)) (by first | (rw [bI_0.mp c_31]; rfl) | (rw [bI_n0.mp c_31, bI_0.mp c_40]; rfl) | (rw [bI_n0.mp c_31, bI_n0.mp c_40]; rfl)) ?_
        refine JtKS1 (R' := rm (0) 1 6) (nx := 51) dX11_leans_48 rfl ml_X11_requireNumber lk_X11_83 st_X11_requireNumber ⟨(Nat.le_of_ble_eq_true rfl), (Nat.le_of_ble_eq_true rfl)⟩ (Nat.le_of_ble_eq_true rfl) ⟨rfl, rfl⟩ ⟨(Nat.le_of_ble_eq_true rfl), (Nat.le_of_ble_eq_true rfl)⟩ (ct_requireNumber _ (fWi x3 30 && fWi x4 x3)) (fun t_48 => ?_)
        obtain ⟨F, hF, rfl⟩ := fWi_nI (m := 30) (by decide) (Bool.and_eq_true_iff.mp t_22).1
        obtain ⟨a, ha, rfl⟩ := fWi_nI (m := F) (by omega) (Bool.and_eq_true_iff.mp t_22).2
        obtain ⟨S, hS, rfl⟩ := fWi_nI (m := 30) (by decide) (Bool.and_eq_true_iff.mp t_48).1
        obtain ⟨c, hc, rfl⟩ := fWi_nI (m := S) (by omega) (Bool.and_eq_true_iff.mp t_48).2
        rw [nI_clamp (by omega), nI_clamp (by omega), nI_clamp (by omega), nI_clamp (by omega)]
        refine J_iload_n (nx := 52) dX11_leans_51 rfl rfl ?_
        refine J_iload (nx := 54) dX11_leans_52 rfl rfl ?_
        refine J_iadd (nx := 55) dX11_leans_54 rfl ?_
        rw [nI_add]
        refine J_istore (nx := 57) dX11_leans_55 rfl rfl (Nat.le_of_ble_eq_true rfl) ?_
        refine J_iload (nx := 59) dX11_leans_57 rfl rfl ?_
        refine J_if_eq (nx := 62) (tgt := 71) dX11_leans_59 rfl (by decide) (fun c_59 => ?_) (fun c_59 => ?_)
        · refine J_lconst (nx := 72) (i := 0) (v := 0) (by decide) dX11_leans_71 rfl ?_
          refine J_lstore (nx := 74) dX11_leans_72 rfl rfl (Nat.le_of_ble_eq_true rfl) ?_
          refine J_iload_n (nx := 75) dX11_leans_74 rfl rfl ?_
          refine J_istore (nx := 77) dX11_leans_75 rfl rfl (Nat.le_of_ble_eq_true rfl) ?_
          rw [show all = false from bI_0.mp c_59]
          exact lp_leans g F S (a + c) a c hF (by omega) _ (min F (a + c) + 1 - a) a 0 (lnV F a S c false) (by omega) rfl
        · refine J_iload_n (nx := 63) dX11_leans_62 rfl rfl ?_
          refine J_iload_n (nx := 64) dX11_leans_63 rfl rfl ?_
          refine J_iadd (nx := 65) dX11_leans_64 rfl ?_
          refine J_iload (nx := 67) dX11_leans_65 rfl rfl ?_
          rw [nI_add]
          refine JcKS2 (R' := rm (0) 0 0) (nx := 70) dX11_leans_67 rfl ml_X11_waysOf lk_X11_285 st_X11_waysOf ⟨(Nat.le_of_ble_eq_true rfl), (Nat.le_of_ble_eq_true rfl)⟩ (Nat.le_of_ble_eq_true rfl) ⟨rfl, rfl⟩ ⟨(Nat.le_of_ble_eq_true rfl), (Nat.le_of_ble_eq_true rfl)⟩ (ct_waysOf g (nI (F + S)) (a + c) (by omega)) ?_
          exact Jrl dX11_leans_70 rfl (Nat.le_of_ble_eq_true rfl) (Nat.le_of_ble_eq_true rfl) ⟨by unfold lnV; rw [bI_n0.mp c_59]; rfl, rfl⟩
      · refine J_iload (nx := 36) dX11_leans_34 rfl rfl ?_
        refine J_iload_n (nx := 37) dX11_leans_36 rfl rfl ?_
        refine JcKS2 (R' := rm (0) 0 0) (nx := 40) dX11_leans_37 rfl ml_X11_within lk_X11_75 st_X11_within ⟨(Nat.le_of_ble_eq_true rfl), (Nat.le_of_ble_eq_true rfl)⟩ (Nat.le_of_ble_eq_true rfl) ⟨rfl, rfl⟩ ⟨(Nat.le_of_ble_eq_true rfl), (Nat.le_of_ble_eq_true rfl)⟩ (ct_within _ _ _) ?_
        refine J_if_eq (nx := 43) (tgt := 47) dX11_leans_40 rfl (by decide) (fun c_40 => ?_) (fun c_40 => ?_)
        · refine J_iconst (nx := 48) (i := 0) (v := 0) (by decide) dX11_leans_47 rfl ?_
          refine J.topi (bI (fWi x3 30 && fWi x4 x3)) (by first | (rw [bI_0.mp c_31]; rfl) | (rw [bI_n0.mp c_31, bI_0.mp c_40]; rfl) | (rw [bI_n0.mp c_31, bI_n0.mp c_40]; rfl)) ?_
          refine JtKS1 (R' := rm (0) 1 6) (nx := 51) dX11_leans_48 rfl ml_X11_requireNumber lk_X11_83 st_X11_requireNumber ⟨(Nat.le_of_ble_eq_true rfl), (Nat.le_of_ble_eq_true rfl)⟩ (Nat.le_of_ble_eq_true rfl) ⟨rfl, rfl⟩ ⟨(Nat.le_of_ble_eq_true rfl), (Nat.le_of_ble_eq_true rfl)⟩ (ct_requireNumber _ (fWi x3 30 && fWi x4 x3)) (fun t_48 => ?_)
          obtain ⟨F, hF, rfl⟩ := fWi_nI (m := 30) (by decide) (Bool.and_eq_true_iff.mp t_22).1
          obtain ⟨a, ha, rfl⟩ := fWi_nI (m := F) (by omega) (Bool.and_eq_true_iff.mp t_22).2
          obtain ⟨S, hS, rfl⟩ := fWi_nI (m := 30) (by decide) (Bool.and_eq_true_iff.mp t_48).1
          obtain ⟨c, hc, rfl⟩ := fWi_nI (m := S) (by omega) (Bool.and_eq_true_iff.mp t_48).2
          rw [nI_clamp (by omega), nI_clamp (by omega), nI_clamp (by omega), nI_clamp (by omega)]
          refine J_iload_n (nx := 52) dX11_leans_51 rfl rfl ?_
          refine J_iload (nx := 54) dX11_leans_52 rfl rfl ?_
          refine J_iadd (nx := 55) dX11_leans_54 rfl ?_
          rw [nI_add]
          refine J_istore (nx := 57) dX11_leans_55 rfl rfl (Nat.le_of_ble_eq_true rfl) ?_
          refine J_iload (nx := 59) dX11_leans_57 rfl rfl ?_
          refine J_if_eq (nx := 62) (tgt := 71) dX11_leans_59 rfl (by decide) (fun c_59 => ?_) (fun c_59 => ?_)
          · refine J_lconst (nx := 72) (i := 0) (v := 0) (by decide) dX11_leans_71 rfl ?_
            refine J_lstore (nx := 74) dX11_leans_72 rfl rfl (Nat.le_of_ble_eq_true rfl) ?_
            refine J_iload_n (nx := 75) dX11_leans_74 rfl rfl ?_
            refine J_istore (nx := 77) dX11_leans_75 rfl rfl (Nat.le_of_ble_eq_true rfl) ?_
            rw [show all = false from bI_0.mp c_59]
            exact lp_leans g F S (a + c) a c hF (by omega) _ (min F (a + c) + 1 - a) a 0 (lnV F a S c false) (by omega) rfl
          · refine J_iload_n (nx := 63) dX11_leans_62 rfl rfl ?_
            refine J_iload_n (nx := 64) dX11_leans_63 rfl rfl ?_
            refine J_iadd (nx := 65) dX11_leans_64 rfl ?_
            refine J_iload (nx := 67) dX11_leans_65 rfl rfl ?_
            rw [nI_add]
            refine JcKS2 (R' := rm (0) 0 0) (nx := 70) dX11_leans_67 rfl ml_X11_waysOf lk_X11_285 st_X11_waysOf ⟨(Nat.le_of_ble_eq_true rfl), (Nat.le_of_ble_eq_true rfl)⟩ (Nat.le_of_ble_eq_true rfl) ⟨rfl, rfl⟩ ⟨(Nat.le_of_ble_eq_true rfl), (Nat.le_of_ble_eq_true rfl)⟩ (ct_waysOf g (nI (F + S)) (a + c) (by omega)) ?_
            exact Jrl dX11_leans_70 rfl (Nat.le_of_ble_eq_true rfl) (Nat.le_of_ble_eq_true rfl) ⟨by unfold lnV; rw [bI_n0.mp c_59]; rfl, rfl⟩
        · refine J_iconst (nx := 44) (i := 1) (v := 1) (by decide) dX11_leans_43 rfl ?_
          refine J_goto (nx := 48) dX11_leans_44 (by decide) ?_
          refine J.topi (bI (fWi x3 30 && fWi x4 x3)) (by first | (rw [bI_0.mp c_31]; rfl) | (rw [bI_n0.mp c_31, bI_0.mp c_40]; rfl) | (rw [bI_n0.mp c_31, bI_n0.mp c_40]; rfl)) ?_
          refine JtKS1 (R' := rm (0) 1 6) (nx := 51) dX11_leans_48 rfl ml_X11_requireNumber lk_X11_83 st_X11_requireNumber ⟨(Nat.le_of_ble_eq_true rfl), (Nat.le_of_ble_eq_true rfl)⟩ (Nat.le_of_ble_eq_true rfl) ⟨rfl, rfl⟩ ⟨(Nat.le_of_ble_eq_true rfl), (Nat.le_of_ble_eq_true rfl)⟩ (ct_requireNumber _ (fWi x3 30 && fWi x4 x3)) (fun t_48 => ?_)
          obtain ⟨F, hF, rfl⟩ := fWi_nI (m := 30) (by decide) (Bool.and_eq_true_iff.mp t_22).1
          obtain ⟨a, ha, rfl⟩ := fWi_nI (m := F) (by omega) (Bool.and_eq_true_iff.mp t_22).2
          obtain ⟨S, hS, rfl⟩ := fWi_nI (m := 30) (by decide) (Bool.and_eq_true_iff.mp t_48).1
          obtain ⟨c, hc, rfl⟩ := fWi_nI (m := S) (by omega) (Bool.and_eq_true_iff.mp t_48).2
          rw [nI_clamp (by omega), nI_clamp (by omega), nI_clamp (by omega), nI_clamp (by omega)]
          refine J_iload_n (nx := 52) dX11_leans_51 rfl rfl ?_
          refine J_iload (nx := 54) dX11_leans_52 rfl rfl ?_
          refine J_iadd (nx := 55) dX11_leans_54 rfl ?_
          rw [nI_add]
          refine J_istore (nx := 57) dX11_leans_55 rfl rfl (Nat.le_of_ble_eq_true rfl) ?_
          refine J_iload (nx := 59) dX11_leans_57 rfl rfl ?_
          refine J_if_eq (nx := 62) (tgt := 71) dX11_leans_59 rfl (by decide) (fun c_59 => ?_) (fun c_59 => ?_)
          · refine J_lconst (nx := 72) (i := 0) (v := 0) (by decide) dX11_leans_71 rfl ?_
            refine J_lstore (nx := 74) dX11_leans_72 rfl rfl (Nat.le_of_ble_eq_true rfl) ?_
            refine J_iload_n (nx := 75) dX11_leans_74 rfl rfl ?_
            refine J_istore (nx := 77) dX11_leans_75 rfl rfl (Nat.le_of_ble_eq_true rfl) ?_
            rw [show all = false from bI_0.mp c_59]
            exact lp_leans g F S (a + c) a c hF (by omega) _ (min F (a + c) + 1 - a) a 0 (lnV F a S c false) (by omega) rfl
          · refine J_iload_n (nx := 63) dX11_leans_62 rfl rfl ?_
            refine J_iload_n (nx := 64) dX11_leans_63 rfl rfl ?_
            refine J_iadd (nx := 65) dX11_leans_64 rfl ?_
            refine J_iload (nx := 67) dX11_leans_65 rfl rfl ?_
            rw [nI_add]
            refine JcKS2 (R' := rm (0) 0 0) (nx := 70) dX11_leans_67 rfl ml_X11_waysOf lk_X11_285 st_X11_waysOf ⟨(Nat.le_of_ble_eq_true rfl), (Nat.le_of_ble_eq_true rfl)⟩ (Nat.le_of_ble_eq_true rfl) ⟨rfl, rfl⟩ ⟨(Nat.le_of_ble_eq_true rfl), (Nat.le_of_ble_eq_true rfl)⟩ (ct_waysOf g (nI (F + S)) (a + c) (by omega)) ?_
            exact Jrl dX11_leans_70 rfl (Nat.le_of_ble_eq_true rfl) (Nat.le_of_ble_eq_true rfl) ⟨by unfold lnV; rw [bI_n0.mp c_59]; rfl, rfl⟩
    · refine J_iconst (nx := 18) (i := 1) (v := 1) (by decide) dX11_leans_17 rfl ?_
      refine J_goto (nx := 22) dX11_leans_18 (by decide) ?_
      refine J.topi (bI (fWi x1 30 && fWi x2 x1)) (by first | (rw [bI_0.mp c_6]; rfl) | (rw [bI_n0.mp c_6, bI_0.mp c_14]; rfl) | (rw [bI_n0.mp c_6, bI_n0.mp c_14]; rfl)) ?_
      refine JtKS1 (R' := rm (0) 1 6) (nx := 25) dX11_leans_22 rfl ml_X11_requireNumber lk_X11_83 st_X11_requireNumber ⟨(Nat.le_of_ble_eq_true rfl), (Nat.le_of_ble_eq_true rfl)⟩ (Nat.le_of_ble_eq_true rfl) ⟨rfl, rfl⟩ ⟨(Nat.le_of_ble_eq_true rfl), (Nat.le_of_ble_eq_true rfl)⟩ (ct_requireNumber _ (fWi x1 30 && fWi x2 x1)) (fun t_22 => ?_)
      refine J_iload_n (nx := 26) dX11_leans_25 rfl rfl ?_
      refine J_bipush (nx := 28) (i := 30) (v := 30) (by decide) dX11_leans_26 rfl ?_
      refine JcKS2 (R' := rm (0) 0 0) (nx := 31) dX11_leans_28 rfl ml_X11_within lk_X11_75 st_X11_within ⟨(Nat.le_of_ble_eq_true rfl), (Nat.le_of_ble_eq_true rfl)⟩ (Nat.le_of_ble_eq_true rfl) ⟨rfl, rfl⟩ ⟨(Nat.le_of_ble_eq_true rfl), (Nat.le_of_ble_eq_true rfl)⟩ (ct_within _ _ _) ?_
      refine J_if_eq (nx := 34) (tgt := 47) dX11_leans_31 rfl (by decide) (fun c_31 => ?_) (fun c_31 => ?_)
      · refine J_iconst (nx := 48) (i := 0) (v := 0) (by decide) dX11_leans_47 rfl ?_
        refine J.topi (bI (fWi x3 30 && fWi x4 x3)) (by first | (rw [bI_0.mp c_31]; rfl) | (rw [bI_n0.mp c_31, bI_0.mp c_40]; rfl) | (rw [bI_n0.mp c_31, bI_n0.mp c_40]; rfl)) ?_
        refine JtKS1 (R' := rm (0) 1 6) (nx := 51) dX11_leans_48 rfl ml_X11_requireNumber lk_X11_83 st_X11_requireNumber ⟨(Nat.le_of_ble_eq_true rfl), (Nat.le_of_ble_eq_true rfl)⟩ (Nat.le_of_ble_eq_true rfl) ⟨rfl, rfl⟩ ⟨(Nat.le_of_ble_eq_true rfl), (Nat.le_of_ble_eq_true rfl)⟩ (ct_requireNumber _ (fWi x3 30 && fWi x4 x3)) (fun t_48 => ?_)
        obtain ⟨F, hF, rfl⟩ := fWi_nI (m := 30) (by decide) (Bool.and_eq_true_iff.mp t_22).1
        obtain ⟨a, ha, rfl⟩ := fWi_nI (m := F) (by omega) (Bool.and_eq_true_iff.mp t_22).2
        obtain ⟨S, hS, rfl⟩ := fWi_nI (m := 30) (by decide) (Bool.and_eq_true_iff.mp t_48).1
        obtain ⟨c, hc, rfl⟩ := fWi_nI (m := S) (by omega) (Bool.and_eq_true_iff.mp t_48).2
        rw [nI_clamp (by omega), nI_clamp (by omega), nI_clamp (by omega), nI_clamp (by omega)]
        refine J_iload_n (nx := 52) dX11_leans_51 rfl rfl ?_
        refine J_iload (nx := 54) dX11_leans_52 rfl rfl ?_
        refine J_iadd (nx := 55) dX11_leans_54 rfl ?_
        rw [nI_add]
        refine J_istore (nx := 57) dX11_leans_55 rfl rfl (Nat.le_of_ble_eq_true rfl) ?_
        refine J_iload (nx := 59) dX11_leans_57 rfl rfl ?_
        refine J_if_eq (nx := 62) (tgt := 71) dX11_leans_59 rfl (by decide) (fun c_59 => ?_) (fun c_59 => ?_)
        · refine J_lconst (nx := 72) (i := 0) (v := 0) (by decide) dX11_leans_71 rfl ?_
          refine J_lstore (nx := 74) dX11_leans_72 rfl rfl (Nat.le_of_ble_eq_true rfl) ?_
          refine J_iload_n (nx := 75) dX11_leans_74 rfl rfl ?_
          refine J_istore (nx := 77) dX11_leans_75 rfl rfl (Nat.le_of_ble_eq_true rfl) ?_
          rw [show all = false from bI_0.mp c_59]
          exact lp_leans g F S (a + c) a c hF (by omega) _ (min F (a + c) + 1 - a) a 0 (lnV F a S c false) (by omega) rfl
        · refine J_iload_n (nx := 63) dX11_leans_62 rfl rfl ?_
          refine J_iload_n (nx := 64) dX11_leans_63 rfl rfl ?_
          refine J_iadd (nx := 65) dX11_leans_64 rfl ?_
          refine J_iload (nx := 67) dX11_leans_65 rfl rfl ?_
          rw [nI_add]
          refine JcKS2 (R' := rm (0) 0 0) (nx := 70) dX11_leans_67 rfl ml_X11_waysOf lk_X11_285 st_X11_waysOf ⟨(Nat.le_of_ble_eq_true rfl), (Nat.le_of_ble_eq_true rfl)⟩ (Nat.le_of_ble_eq_true rfl) ⟨rfl, rfl⟩ ⟨(Nat.le_of_ble_eq_true rfl), (Nat.le_of_ble_eq_true rfl)⟩ (ct_waysOf g (nI (F + S)) (a + c) (by omega)) ?_
          exact Jrl dX11_leans_70 rfl (Nat.le_of_ble_eq_true rfl) (Nat.le_of_ble_eq_true rfl) ⟨by unfold lnV; rw [bI_n0.mp c_59]; rfl, rfl⟩
      · refine J_iload (nx := 36) dX11_leans_34 rfl rfl ?_
        refine J_iload_n (nx := 37) dX11_leans_36 rfl rfl ?_
        refine JcKS2 (R' := rm (0) 0 0) (nx := 40) dX11_leans_37 rfl ml_X11_within lk_X11_75 st_X11_within ⟨(Nat.le_of_ble_eq_true rfl), (Nat.le_of_ble_eq_true rfl)⟩ (Nat.le_of_ble_eq_true rfl) ⟨rfl, rfl⟩ ⟨(Nat.le_of_ble_eq_true rfl), (Nat.le_of_ble_eq_true rfl)⟩ (ct_within _ _ _) ?_
        refine J_if_eq (nx := 43) (tgt := 47) dX11_leans_40 rfl (by decide) (fun c_40 => ?_) (fun c_40 => ?_)
        · refine J_iconst (nx := 48) (i := 0) (v := 0) (by decide) dX11_leans_47 rfl ?_
          refine J.topi (bI (fWi x3 30 && fWi x4 x3)) (by first | (rw [bI_0.mp c_31]; rfl) | (rw [bI_n0.mp c_31, bI_0.mp c_40]; rfl) | (rw [bI_n0.mp c_31, bI_n0.mp c_40]; rfl)) ?_
          refine JtKS1 (R' := rm (0) 1 6) (nx := 51) dX11_leans_48 rfl ml_X11_requireNumber lk_X11_83 st_X11_requireNumber ⟨(Nat.le_of_ble_eq_true rfl), (Nat.le_of_ble_eq_true rfl)⟩ (Nat.le_of_ble_eq_true rfl) ⟨rfl, rfl⟩ ⟨(Nat.le_of_ble_eq_true rfl), (Nat.le_of_ble_eq_true rfl)⟩ (ct_requireNumber _ (fWi x3 30 && fWi x4 x3)) (fun t_48 => ?_)
          obtain ⟨F, hF, rfl⟩ := fWi_nI (m := 30) (by decide) (Bool.and_eq_true_iff.mp t_22).1
          obtain ⟨a, ha, rfl⟩ := fWi_nI (m := F) (by omega) (Bool.and_eq_true_iff.mp t_22).2
          obtain ⟨S, hS, rfl⟩ := fWi_nI (m := 30) (by decide) (Bool.and_eq_true_iff.mp t_48).1
          obtain ⟨c, hc, rfl⟩ := fWi_nI (m := S) (by omega) (Bool.and_eq_true_iff.mp t_48).2
          rw [nI_clamp (by omega), nI_clamp (by omega), nI_clamp (by omega), nI_clamp (by omega)]
          refine J_iload_n (nx := 52) dX11_leans_51 rfl rfl ?_
          refine J_iload (nx := 54) dX11_leans_52 rfl rfl ?_
          refine J_iadd (nx := 55) dX11_leans_54 rfl ?_
          rw [nI_add]
          refine J_istore (nx := 57) dX11_leans_55 rfl rfl (Nat.le_of_ble_eq_true rfl) ?_
          refine J_iload (nx := 59) dX11_leans_57 rfl rfl ?_
          refine J_if_eq (nx := 62) (tgt := 71) dX11_leans_59 rfl (by decide) (fun c_59 => ?_) (fun c_59 => ?_)
          · refine J_lconst (nx := 72) (i := 0) (v := 0) (by decide) dX11_leans_71 rfl ?_
            refine J_lstore (nx := 74) dX11_leans_72 rfl rfl (Nat.le_of_ble_eq_true rfl) ?_
            refine J_iload_n (nx := 75) dX11_leans_74 rfl rfl ?_
            refine J_istore (nx := 77) dX11_leans_75 rfl rfl (Nat.le_of_ble_eq_true rfl) ?_
            rw [show all = false from bI_0.mp c_59]
            exact lp_leans g F S (a + c) a c hF (by omega) _ (min F (a + c) + 1 - a) a 0 (lnV F a S c false) (by omega) rfl
          · refine J_iload_n (nx := 63) dX11_leans_62 rfl rfl ?_
            refine J_iload_n (nx := 64) dX11_leans_63 rfl rfl ?_
            refine J_iadd (nx := 65) dX11_leans_64 rfl ?_
            refine J_iload (nx := 67) dX11_leans_65 rfl rfl ?_
            rw [nI_add]
            refine JcKS2 (R' := rm (0) 0 0) (nx := 70) dX11_leans_67 rfl ml_X11_waysOf lk_X11_285 st_X11_waysOf ⟨(Nat.le_of_ble_eq_true rfl), (Nat.le_of_ble_eq_true rfl)⟩ (Nat.le_of_ble_eq_true rfl) ⟨rfl, rfl⟩ ⟨(Nat.le_of_ble_eq_true rfl), (Nat.le_of_ble_eq_true rfl)⟩ (ct_waysOf g (nI (F + S)) (a + c) (by omega)) ?_
            exact Jrl dX11_leans_70 rfl (Nat.le_of_ble_eq_true rfl) (Nat.le_of_ble_eq_true rfl) ⟨by unfold lnV; rw [bI_n0.mp c_59]; rfl, rfl⟩
        · refine J_iconst (nx := 44) (i := 1) (v := 1) (by decide) dX11_leans_43 rfl ?_
          refine J_goto (nx := 48) dX11_leans_44 (by decide) ?_
          refine J.topi (bI (fWi x3 30 && fWi x4 x3)) (by first | (rw [bI_0.mp c_31]; rfl) | (rw [bI_n0.mp c_31, bI_0.mp c_40]; rfl) | (rw [bI_n0.mp c_31, bI_n0.mp c_40]; rfl)) ?_
          refine JtKS1 (R' := rm (0) 1 6) (nx := 51) dX11_leans_48 rfl ml_X11_requireNumber lk_X11_83 st_X11_requireNumber ⟨(Nat.le_of_ble_eq_true rfl), (Nat.le_of_ble_eq_true rfl)⟩ (Nat.le_of_ble_eq_true rfl) ⟨rfl, rfl⟩ ⟨(Nat.le_of_ble_eq_true rfl), (Nat.le_of_ble_eq_true rfl)⟩ (ct_requireNumber _ (fWi x3 30 && fWi x4 x3)) (fun t_48 => ?_)
          obtain ⟨F, hF, rfl⟩ := fWi_nI (m := 30) (by decide) (Bool.and_eq_true_iff.mp t_22).1
          obtain ⟨a, ha, rfl⟩ := fWi_nI (m := F) (by omega) (Bool.and_eq_true_iff.mp t_22).2
          obtain ⟨S, hS, rfl⟩ := fWi_nI (m := 30) (by decide) (Bool.and_eq_true_iff.mp t_48).1
          obtain ⟨c, hc, rfl⟩ := fWi_nI (m := S) (by omega) (Bool.and_eq_true_iff.mp t_48).2
          rw [nI_clamp (by omega), nI_clamp (by omega), nI_clamp (by omega), nI_clamp (by omega)]
          refine J_iload_n (nx := 52) dX11_leans_51 rfl rfl ?_
          refine J_iload (nx := 54) dX11_leans_52 rfl rfl ?_
          refine J_iadd (nx := 55) dX11_leans_54 rfl ?_
          rw [nI_add]
          refine J_istore (nx := 57) dX11_leans_55 rfl rfl (Nat.le_of_ble_eq_true rfl) ?_
          refine J_iload (nx := 59) dX11_leans_57 rfl rfl ?_
          refine J_if_eq (nx := 62) (tgt := 71) dX11_leans_59 rfl (by decide) (fun c_59 => ?_) (fun c_59 => ?_)
          · refine J_lconst (nx := 72) (i := 0) (v := 0) (by decide) dX11_leans_71 rfl ?_
            refine J_lstore (nx := 74) dX11_leans_72 rfl rfl (Nat.le_of_ble_eq_true rfl) ?_
            refine J_iload_n (nx := 75) dX11_leans_74 rfl rfl ?_
            refine J_istore (nx := 77) dX11_leans_75 rfl rfl (Nat.le_of_ble_eq_true rfl) ?_
            rw [show all = false from bI_0.mp c_59]
            exact lp_leans g F S (a + c) a c hF (by omega) _ (min F (a + c) + 1 - a) a 0 (lnV F a S c false) (by omega) rfl
          · refine J_iload_n (nx := 63) dX11_leans_62 rfl rfl ?_
            refine J_iload_n (nx := 64) dX11_leans_63 rfl rfl ?_
            refine J_iadd (nx := 65) dX11_leans_64 rfl ?_
            refine J_iload (nx := 67) dX11_leans_65 rfl rfl ?_
            rw [nI_add]
            refine JcKS2 (R' := rm (0) 0 0) (nx := 70) dX11_leans_67 rfl ml_X11_waysOf lk_X11_285 st_X11_waysOf ⟨(Nat.le_of_ble_eq_true rfl), (Nat.le_of_ble_eq_true rfl)⟩ (Nat.le_of_ble_eq_true rfl) ⟨rfl, rfl⟩ ⟨(Nat.le_of_ble_eq_true rfl), (Nat.le_of_ble_eq_true rfl)⟩ (ct_waysOf g (nI (F + S)) (a + c) (by omega)) ?_
            exact Jrl dX11_leans_70 rfl (Nat.le_of_ble_eq_true rfl) (Nat.le_of_ble_eq_true rfl) ⟨by unfold lnV; rw [bI_n0.mp c_59]; rfl, rfl⟩


def moG (g : GS) (so z : Nat) (q2 : Option CD) (G T : Nat) : GS := shD (min G T) (lyAll g (nI so) (nI z) (bk_cn g 20 (nI so)) q2 G)
def moF (g : GS) (so z i : Nat) : Int64 := (bk_rt g 20 (nI so) (nI (4 * z + i))).toInt64 * (sfI g (nI (4 * z + i))).toInt64
def moV (g : GS) (so z : Nat) (q2 : Option CD) (G T : Nat) : Int64 × GS := if arR g (nI so) z 4 0 = true then (sL (moF (moG g so z q2 G T) so z) 4, moG g so z q2 G T) else (0, g)
set_option maxRecDepth 100000 in
set_option maxHeartbeats 4000000 in
theorem lp_meanOf (g : GS) (so z : Nat) (hz : z < 8) (n0 : Nat) : ∀ (k : Nat) (i : Nat) (r : Int64), i + k = 4 → r = sL (moF g so z) 4 → J mX11_meanOf (rm 6 0 0) (RR (.inl (some (.long r))) g) n0 45 [some (.ref 0), some (.int (nI so)), some (.int (nI z)), some (.long (sL (moF g so z) i)), none, some (.int (nI (4 * z + i)))] [] (Wd g) 0 0 := by
  intro k
  induction k with
  | zero =>
    intro i r hk hr
    refine J_iload (nx := 47) dX11_meanOf_45 rfl rfl ?_
    refine J_iconst (nx := 48) (i := 4) (v := 4) (by decide) dX11_meanOf_47 rfl ?_
    refine J_iload_n (nx := 49) dX11_meanOf_48 rfl rfl ?_
    refine J_iconst (nx := 50) (i := 1) (v := 1) (by decide) dX11_meanOf_49 rfl ?_
    refine J_iadd (nx := 51) dX11_meanOf_50 rfl ?_
    refine J_imul (nx := 52) dX11_meanOf_51 rfl ?_
    refine J_icmp_ge (nx := 55) (tgt := 86) dX11_meanOf_52 rfl (by decide) (fun c_52 => ?_) (fun c_52 => ?_)
    · refine J_lload_n (nx := 87) dX11_meanOf_86 rfl rfl ?_
      exact Jrl dX11_meanOf_87 rfl (Nat.zero_le _) (Nat.zero_le _) ⟨by rw [hr, show i = 4 by omega], rfl⟩
    · exact absurd (show nI (4 * (z + 1)) ≤ nI (4 * z + i) from nI_le (by omega) (by omega)) (by rw [show (4 : Int32) * (nI z + 1) = nI (4 * (z + 1)) from by rw [nI_1, show (4 : Int32) = nI 4 from rfl, nI_mul]] at c_52; exact c_52)
  | succ k ih =>
    intro i r hk hr
    refine J_iload (nx := 47) dX11_meanOf_45 rfl rfl ?_
    refine J_iconst (nx := 48) (i := 4) (v := 4) (by decide) dX11_meanOf_47 rfl ?_
    refine J_iload_n (nx := 49) dX11_meanOf_48 rfl rfl ?_
    refine J_iconst (nx := 50) (i := 1) (v := 1) (by decide) dX11_meanOf_49 rfl ?_
    refine J_iadd (nx := 51) dX11_meanOf_50 rfl ?_
    refine J_imul (nx := 52) dX11_meanOf_51 rfl ?_
    refine J_icmp_ge (nx := 55) (tgt := 86) dX11_meanOf_52 rfl (by decide) (fun c_52 => ?_) (fun c_52 => ?_)
    · exact absurd c_52 (by rw [show (4 : Int32) * (nI z + 1) = nI (4 * (z + 1)) from by rw [nI_1, show (4 : Int32) = nI 4 from rfl, nI_mul]]; exact nlt_nI (by omega) (by omega))
    · refine J_lload_n (nx := 56) dX11_meanOf_55 rfl rfl ?_
      refine J_aload_n (nx := 57) dX11_meanOf_56 rfl rfl ?_
      refine Jg_0_2 (nx := 60) dX11_meanOf_57 rfl fl_X11_28 ?_
      refine J_iload_n (nx := 61) dX11_meanOf_60 rfl rfl ?_
      refine J_iload (nx := 63) dX11_meanOf_61 rfl rfl ?_
      refine JcV2 (R' := rm (1) 0 0) (nx := 66) dX11_meanOf_63 rfl ml_X1_rateOf lk_X11_255 iv_X1_rateOf rfl rfl ⟨(Nat.le_of_ble_eq_true rfl), (Nat.le_of_ble_eq_true rfl)⟩ (Nat.le_of_ble_eq_true rfl) ⟨rfl, rfl⟩ (ct_X1_rateOf _ _ _) ?_
      refine J_i2l (nx := 67) dX11_meanOf_66 rfl ?_
      refine J_aload_n (nx := 68) dX11_meanOf_67 rfl rfl ?_
      refine Jg_0_7 (nx := 71) dX11_meanOf_68 rfl fl_X11_56 ?_
      refine J_iload (nx := 73) dX11_meanOf_71 rfl rfl ?_
      refine JcV1 (R' := rm (1) 0 0) (nx := 76) dX11_meanOf_73 rfl ml_X3_shareFrom lk_X11_307 iv_X3_shareFrom rfl rfl ⟨(Nat.le_of_ble_eq_true rfl), (Nat.le_of_ble_eq_true rfl)⟩ (Nat.le_of_ble_eq_true rfl) ⟨rfl, rfl⟩ (ct_shareFrom _ _) ?_
      refine J_i2l (nx := 77) dX11_meanOf_76 rfl ?_
      refine J_lmul (nx := 78) dX11_meanOf_77 rfl ?_
      refine J_ladd (nx := 79) dX11_meanOf_78 rfl ?_
      refine J_lstore_n (nx := 80) dX11_meanOf_79 rfl rfl (Nat.le_of_ble_eq_true rfl) ?_
      refine J_iinc (nx := 83) dX11_meanOf_80 rfl rfl rfl (Nat.le_of_ble_eq_true rfl) ?_
      refine J_goto (nx := 45) dX11_meanOf_83 (by decide) ?_
      show J _ _ _ _ 45 [some (.ref 0), some (.int (nI so)), some (.int (nI z)), some (.long (sL (moF g so z) i + moF g so z i)), none, some (.int (nI (4 * z + i) + Int32.ofInt 1))] [] _ _ _
      rw [nI_s]
      exact ih (i + 1) r (by omega) hr

set_option maxRecDepth 100000 in
set_option maxHeartbeats 4000000 in
theorem ct_meanOf (g : GS) (so z : Nat) (hz : z < 8) (q2 : Option CD) (G T : Nat) (hL : LayOK g q2 G) (hT : gF g 20 13 = nI T) (hT2 : T ≤ 60) : Ct mX11_meanOf (rm 6 0 0) [.ref 0, .int (nI so), .int (nI z)] (Wd g) (RR (.inl (some (.long (moV g so z q2 G T).1))) (moV g so z q2 G T).2) := by
  refine Ct.of (by decide +kernel) (Nat.le_of_ble_eq_true rfl) ?_
  show J _ _ _ _ 0 [some (.ref 0), some (.int (nI so)), some (.int (nI z)), none, none, none] [] _ 0 0
  refine J_aload_n (nx := 1) dX11_meanOf_0 rfl rfl ?_
  refine Jg_0_2 (nx := 4) dX11_meanOf_1 rfl fl_X11_28 ?_
  refine J_iload_n (nx := 5) dX11_meanOf_4 rfl rfl ?_
  refine J_iload_n (nx := 6) dX11_meanOf_5 rfl rfl ?_
  refine JcV2 (R' := rm (2) 0 0) (nx := 9) dX11_meanOf_6 rfl ml_X1_anyRate lk_X11_370 iv_X1_anyRate rfl rfl ⟨(Nat.le_of_ble_eq_true rfl), (Nat.le_of_ble_eq_true rfl)⟩ (Nat.le_of_ble_eq_true rfl) ⟨rfl, rfl⟩ (ct_anyRate g _ z hz) ?_
  refine J_if_ne (nx := 12) (tgt := 14) dX11_meanOf_9 rfl (by decide) (fun c_9 => ?_) (fun c_9 => ?_)
  · refine J_aload_n (nx := 15) dX11_meanOf_14 rfl rfl ?_
    refine Jg_0_5 (nx := 18) dX11_meanOf_15 rfl fl_X11_40 ?_
    refine J_iload_n (nx := 19) dX11_meanOf_18 rfl rfl ?_
    refine J_iload_n (nx := 20) dX11_meanOf_19 rfl rfl ?_
    refine J_aload_n (nx := 21) dX11_meanOf_20 rfl rfl ?_
    refine Jg_0_2 (nx := 24) dX11_meanOf_21 rfl fl_X11_28 ?_
    refine J_iload_n (nx := 25) dX11_meanOf_24 rfl rfl ?_
    refine JcV1 (R' := rm (3) 0 0) (nx := 28) dX11_meanOf_25 rfl ml_X1_cardNow lk_X11_197 iv_X1_cardNow rfl rfl ⟨(Nat.le_of_ble_eq_true rfl), (Nat.le_of_ble_eq_true rfl)⟩ (Nat.le_of_ble_eq_true rfl) ⟨rfl, rfl⟩ (ct_X1_cardNow _ _) ?_
    refine JcV3 (R' := rm (4) 0 0) (nx := 31) dX11_meanOf_28 rfl ml_X0_lay lk_X11_241 iv_X0_lay rfl rfl ⟨(Nat.le_of_ble_eq_true rfl), (Nat.le_of_ble_eq_true rfl)⟩ (Nat.le_of_ble_eq_true rfl) ⟨rfl, rfl⟩ (ct_lay1 g _ _ _ q2 G hL) ?_
    refine J.gen (fun g_28 hg_28 => ?_)
    have k1 : KF g g_28 := by rw [hg_28]; exact kf_ly Fr.rf _ _ _ _ _
    have hL2 : LayOK g_28 q2 G := by rw [hg_28]; exact hL.ly _ _ _
    refine J_aload_n (nx := 32) dX11_meanOf_31 rfl rfl ?_
    refine Jg_0_7 (nx := 35) dX11_meanOf_32 rfl fl_X11_56 ?_
    refine JcV0 (R' := rm (3) 0 0) (nx := 38) dX11_meanOf_35 rfl ml_X3_share lk_X11_304 iv_X3_share rfl rfl ⟨(Nat.le_of_ble_eq_true rfl), (Nat.le_of_ble_eq_true rfl)⟩ (Nat.le_of_ble_eq_true rfl) ⟨rfl, rfl⟩ (ct_share g_28 G T hL2.2.1 ((k1.book 13 (by decide)).trans hT) (by have := hL2.2.2; omega) (by omega)) ?_
    refine J.gen (fun g_35 hg_35 => ?_)
    refine J_lconst (nx := 39) (i := 0) (v := 0) (by decide) dX11_meanOf_38 rfl ?_
    refine J_lstore_n (nx := 40) dX11_meanOf_39 rfl rfl (Nat.le_of_ble_eq_true rfl) ?_
    refine J_iconst (nx := 41) (i := 4) (v := 4) (by decide) dX11_meanOf_40 rfl ?_
    refine J_iload_n (nx := 42) dX11_meanOf_41 rfl rfl ?_
    refine J_imul (nx := 43) dX11_meanOf_42 rfl ?_
    refine J_istore (nx := 45) dX11_meanOf_43 rfl rfl (Nat.le_of_ble_eq_true rfl) ?_
    rw [show moV g so z q2 G T = (sL (moF g_35 so z) 4, g_35) from (if_pos (bI_n0.mp c_9)).trans (by rw [hg_35, hg_28]; rfl)]
    show J _ _ _ _ 45 [some (.ref 0), some (.int (nI so)), some (.int (nI z)), some (.long 0), none, some (.int (4 * nI z))] [] _ _ _
    rw [show (4 : Int32) * nI z = nI (4 * z + 0) from by rw [show (4 : Int32) = nI 4 from rfl, nI_mul]; rfl]
    exact lp_meanOf g_35 so z hz _ 4 0 _ rfl rfl
  · refine J_lconst (nx := 13) (i := 0) (v := 0) (by decide) dX11_meanOf_12 rfl ?_
    exact Jrl dX11_meanOf_13 rfl (Nat.zero_le _) (Nat.zero_le _) ⟨by rw [show moV g so z q2 G T = (0, g) from if_neg (by rw [bI_0.mp c_9]; decide)], by rw [show moV g so z q2 G T = (0, g) from if_neg (by rw [bI_0.mp c_9]; decide)]⟩


def mnZ (q2 : Option CD) (G T so : Nat) : Nat → Nat → Int64 → GS → Int64 × GS
  | 0, _, a, g => (a, g)
  | k + 1, z, a, g => mnZ q2 G T so k (z + 1) (a + (moV g so z q2 G T).1) (moV g so z q2 G T).2
def mnS (q2 : Option CD) (G T : Nat) : Nat → Nat → Int64 → GS → Int64 × GS
  | 0, _, a, g => (a, g)
  | k + 1, so, a, g => mnS q2 G T k (so + 1) (mnZ q2 G T so 8 0 a g).1 (mnZ q2 G T so 8 0 a g).2
/-- shares are told without a word on the bench -/
theorem sh_F {c k : Nat} : ∀ (G : Nat) (g : GS), gF (shD G g) c k = gF g c k
  | 0, g => itN_F (S := shS 0) (c := c) (k := k) (fun _ _ => rfl) 32 g
  | j + 1, g => (sh_F j _).trans (itN_F (S := shS (j + 1)) (c := c) (k := k) (fun _ _ => rfl) 32 g)
theorem sh_P : ∀ (G : Nat) (g : GS), gP (shD G g) = gP g
  | 0, g => itN_inv (f := shS 0) (fun x => gP x = gP g) (fun _ _ h => h) 32 rfl
  | j + 1, g => (sh_P j _).trans (itN_inv (f := shS (j + 1)) (fun x => gP x = gP g) (fun _ _ h => h) 32 rfl)
theorem mo_L {g : GS} {so z : Nat} {q2 : Option CD} {G T : Nat} (h : LayOK g q2 G) : LayOK (moV g so z q2 G T).2 q2 G := by
  unfold moV
  split
  · have h1 := h.ly (nI so) (nI z) (bk_cn g 20 (nI so))
    exact ⟨h1.1.congr (sh_F _ _) (sh_P _ _) (kf_sh (g0 := lyAll g (nI so) (nI z) (bk_cn g 20 (nI so)) q2 G) _ Fr.rf).tail, (sh_F _ _).trans h1.2.1, h1.2.2⟩
  · exact h
theorem mo_kf {g0 g : GS} {so z : Nat} {q2 : Option CD} {G T : Nat} (h : KF g0 g) : KF g0 (moV g so z q2 G T).2 := by
  unfold moV
  split
  · exact kf_sh _ (kf_ly h _ _ _ _ _)
  · exact h
theorem mnZ_L {q2 : Option CD} {G T so : Nat} : ∀ (k z : Nat) (a : Int64) {g : GS}, LayOK g q2 G → LayOK (mnZ q2 G T so k z a g).2 q2 G
  | 0, _, _, _, h => h
  | k + 1, z, a, g, h => mnZ_L k _ _ (mo_L h)
theorem mnZ_kf {q2 : Option CD} {G T so : Nat} {g0 : GS} : ∀ (k z : Nat) (a : Int64) {g : GS}, KF g0 g → KF g0 (mnZ q2 G T so k z a g).2
  | 0, _, _, _, h => h
  | k + 1, z, a, g, h => mnZ_kf k _ _ (mo_kf h)
theorem mnS_kf {q2 : Option CD} {G T : Nat} {g0 : GS} : ∀ (k so : Nat) (a : Int64) {g : GS}, KF g0 g → KF g0 (mnS q2 G T k so a g).2
  | 0, _, _, _, h => h
  | k + 1, so, a, g, h => mnS_kf k _ _ (mnZ_kf 8 0 a h)
set_option maxRecDepth 100000 in
set_option maxHeartbeats 4000000 in
theorem lp_mnZ (Q : Res → List ME → Prop) (q2 : Option CD) (G T so : Nat) (hT2 : T ≤ 60) (j b what : Int32) (n0 : Nat) : ∀ (k : Nat) (z : Nat) (a : Int64) (g : GS) (r : Int64 × GS), z + k = 8 → LayOK g q2 G → gF g 20 13 = nI T → r = mnZ q2 G T so k z a g → J mX11_mean (rm 8 3 18) Q n0 103 [some (.ref 0), some (.int j), some (.int b), some (.int what), some (.long (r.1)), none, some (.int (nI so)), some (.int (nI 8))] [] (Wd r.2) 3 18 → J mX11_mean (rm 8 3 18) (Q) n0 77 [some (.ref 0), some (.int j), some (.int b), some (.int what), some (.long (a)), none, some (.int (nI so)), some (.int (nI z))] [] (Wd g) 3 18 := by
  intro k
  induction k with
  | zero =>
    intro z a g r hk hL hT hr hK
    refine J_iload (nx := 79) dX11_mean_77 rfl rfl ?_
    refine J_bipush (nx := 81) (i := 8) (v := 8) (by decide) dX11_mean_79 rfl ?_
    refine J_icmp_ge (nx := 84) (tgt := 103) dX11_mean_81 rfl (by decide) (fun c_81 => ?_) (fun c_81 => ?_)
    · rw [show a = r.1 from by rw [hr]; rfl, show g = r.2 from by rw [hr]; rfl, show z = 8 by omega]
      exact hK
    · exact absurd (show nI 8 ≤ nI z from by rw [show z = 8 by omega]; exact le_self_nI) c_81
  | succ k ih =>
    intro z a g r hk hL hT hr hK
    refine J_iload (nx := 79) dX11_mean_77 rfl rfl ?_
    refine J_bipush (nx := 81) (i := 8) (v := 8) (by decide) dX11_mean_79 rfl ?_
    refine J_icmp_ge (nx := 84) (tgt := 103) dX11_mean_81 rfl (by decide) (fun c_81 => ?_) (fun c_81 => ?_)
    · exact absurd c_81 (nlt_nI (n := 8) (by omega) (by omega))
    · refine J_lload (nx := 86) dX11_mean_84 rfl rfl ?_
      refine J_aload_n (nx := 87) dX11_mean_86 rfl rfl ?_
      refine J_iload (nx := 89) dX11_mean_87 rfl rfl ?_
      refine J_iload (nx := 91) dX11_mean_89 rfl rfl ?_
      refine JcKV2 (R' := rm (6) 0 0) (nx := 94) dX11_mean_91 rfl ml_X11_meanOf lk_X11_310 iv_X11_meanOf rfl rfl ⟨(Nat.le_of_ble_eq_true rfl), (Nat.le_of_ble_eq_true rfl)⟩ (Nat.le_of_ble_eq_true rfl) ⟨rfl, rfl⟩ ⟨(Nat.le_of_ble_eq_true rfl), (Nat.le_of_ble_eq_true rfl)⟩ (ct_meanOf g so z (by omega) q2 G T hL hT hT2) ?_
      refine J.gen (fun g_91 hg_91 => ?_)
      refine J_ladd (nx := 95) dX11_mean_94 rfl ?_
      refine J_lstore (nx := 97) dX11_mean_95 rfl rfl (Nat.le_of_ble_eq_true rfl) ?_
      refine J_iinc (nx := 100) dX11_mean_97 rfl rfl rfl (Nat.le_of_ble_eq_true rfl) ?_
      refine J_goto (nx := 77) dX11_mean_100 (by decide) ?_
      show J _ _ _ _ 77 [some (.ref 0), some (.int j), some (.int b), some (.int what), some (.long (a + (moV g so z q2 G T).1)), none, some (.int (nI so)), some (.int (nI z + Int32.ofInt 1))] [] _ _ _
      rw [nI_s]
      exact ih (z + 1) _ g_91 r (by omega) (by rw [hg_91]; exact mo_L hL) (((show KF g g_91 from by rw [hg_91]; exact mo_kf Fr.rf).book 13 (by decide)).trans hT) (hr.trans (by rw [hg_91]; rfl)) hK

set_option maxRecDepth 100000 in
set_option maxHeartbeats 4000000 in
theorem lp_mnS (q2 : Option CD) (G T n : Nat) (hn : n ≤ 6) (hT2 : T ≤ 60) (j b what : Int32) (n0 : Nat) : ∀ (k : Nat) (so : Nat) (a : Int64) (g : GS) (r : Int64 × GS), so + k = n → gF g 20 11 = nI n → LayOK g q2 G → gF g 20 13 = nI T → r = mnS q2 G T k so a g → J mX11_mean (rm 8 3 18) (RR (.inl (some (.long r.1))) r.2) n0 62 [some (.ref 0), some (.int j), some (.int b), some (.int what), some (.long (a)), none, some (.int (nI so)), none] [] (Wd g) 3 18 := by
  intro k
  induction k with
  | zero =>
    intro so a g r hk hN hL hT hr
    refine J_iload (nx := 64) dX11_mean_62 rfl rfl ?_
    refine J_aload_n (nx := 65) dX11_mean_64 rfl rfl ?_
    refine Jg_0_2 (nx := 68) dX11_mean_65 rfl fl_X11_28 ?_
    refine Jg_20_11 (nx := 71) dX11_mean_68 rfl fl_X11_179 ?_
    rw [hN]
    refine J_icmp_ge (nx := 74) (tgt := 109) dX11_mean_71 rfl (by decide) (fun c_71 => ?_) (fun c_71 => ?_)
    · refine J_lload (nx := 111) dX11_mean_109 rfl rfl ?_
      exact Jrl dX11_mean_111 rfl (Nat.le_of_ble_eq_true rfl) (Nat.le_of_ble_eq_true rfl) ⟨by rw [hr]; rfl, by rw [hr]; rfl⟩
    · exact absurd (nI_le (show n ≤ so by omega) (by omega)) c_71
  | succ k ih =>
    intro so a g r hk hN hL hT hr
    refine J_iload (nx := 64) dX11_mean_62 rfl rfl ?_
    refine J_aload_n (nx := 65) dX11_mean_64 rfl rfl ?_
    refine Jg_0_2 (nx := 68) dX11_mean_65 rfl fl_X11_28 ?_
    refine Jg_20_11 (nx := 71) dX11_mean_68 rfl fl_X11_179 ?_
    rw [hN]
    refine J_icmp_ge (nx := 74) (tgt := 109) dX11_mean_71 rfl (by decide) (fun c_71 => ?_) (fun c_71 => ?_)
    · exact absurd c_71 (nlt_nI (show so < n by omega) (by omega))
    · refine J_iconst (nx := 75) (i := 0) (v := 0) (by decide) dX11_mean_74 rfl ?_
      refine J_istore (nx := 77) dX11_mean_75 rfl rfl (Nat.le_of_ble_eq_true rfl) ?_
      have hz := lp_mnZ (RR (.inl (some (.long r.1))) r.2) q2 G T so hT2 j b what n0 8 0 a g _ rfl hL hT rfl ?_
      · exact hz
      · show J _ _ _ _ 103 _ [] _ _ _
        refine J_iinc (nx := 106) dX11_mean_103 rfl rfl rfl (Nat.le_of_ble_eq_true rfl) ?_
        refine J_goto (nx := 62) dX11_mean_106 (by decide) ?_
        refine J_kill (nx := 0) 7 ?_
        show J _ _ _ _ 62 [some (.ref 0), some (.int j), some (.int b), some (.int what), some (.long ((mnZ q2 G T so 8 0 a g).1)), none, some (.int (nI so + Int32.ofInt 1)), none] [] _ _ _
        rw [nI_s]
        exact ih (so + 1) _ _ r (by omega) (((mnZ_kf 8 0 a Fr.rf).book 11 (by decide)).trans hN) (mnZ_L 8 0 a hL) (((mnZ_kf 8 0 a Fr.rf).book 13 (by decide)).trans hT) hr

def meA (g : GS) (j b what : Int32) (q q2 : Option CD) (T G n : Nat) : Int64 × GS := mnS q2 G T n 0 0 (akAll (seG g j b q T) what T)
theorem ak_L {g : GS} {q2 : Option CD} {G : Nat} (h : LayOK g q2 G) (w : Int32) (T : Nat) : LayOK (akAll g w T) q2 G := by
  have hp : gP (akAll g w T) = gP g := itN_inv (f := akT) (fun x => gP x = gP g) (fun i x h => itN_inv (f := akS (i + 1)) (fun x => gP x = gP g) (fun _ _ h => h) 32 h) T rfl
  have h8 : gF (akAll g w T) 40 8 = gF g 40 8 := itN_F (S := akT) (c := 40) (k := 8) (fun i g => itN_F (S := akS (i + 1)) (c := 40) (k := 8) (fun _ _ => rfl) 32 g) T (ak3 (ak2 (ak1 g w) w) w)
  exact ⟨h.1.congr h8 hp (kf_ak Fr.rf _ _).tail, (ak_grace _ _ _).trans h.2.1, h.2.2⟩
set_option maxRecDepth 100000 in
set_option maxHeartbeats 4000000 in
theorem ct_mean (g : GS) (j b what : Int32) (q q2 : Option CD) (T G n : Nat) (hC : Cl g q T G) (hn : n ≤ 6) (hN : gF g 20 11 = nI n) (hJ : fJu g j = true → JAt g j q2) : Ct mX11_mean (rm 8 3 18) [.ref 0, .int j, .int b, .int what] (Wd g) (FX [(fJu g j, x_iob), (fBa j b, x_iae), (fWi what 2, x_nse)] (RR (.inl (some (.long (meA g j b what q q2 T G n).1))) (meA g j b what q q2 T G n).2) g) := by
  refine Ct.of (by decide +kernel) (Nat.le_of_ble_eq_true rfl) ?_
  show J _ _ _ _ 0 [some (.ref 0), some (.int j), some (.int b), some (.int what), none, none, none, none] [] _ 0 0
  refine J_aload_n (nx := 1) dX11_mean_0 rfl rfl ?_
  refine J_iload_n (nx := 2) dX11_mean_1 rfl rfl ?_
  refine JtKV1 (R' := rm (1) 1 6) (nx := 5) dX11_mean_2 rfl ml_X11_requireJudge lk_X11_206 iv_X11_requireJudge rfl rfl ⟨(Nat.le_of_ble_eq_true rfl), (Nat.le_of_ble_eq_true rfl)⟩ (Nat.le_of_ble_eq_true rfl) ⟨rfl, rfl⟩ ⟨(Nat.le_of_ble_eq_true rfl), (Nat.le_of_ble_eq_true rfl)⟩ (ct_requireJudge _ _) (fun t_2 => ?_)
  refine J_iload_n (nx := 6) dX11_mean_5 rfl rfl ?_
  refine J_iload_n (nx := 7) dX11_mean_6 rfl rfl ?_
  refine JcKS2 (R' := rm (1) 0 0) (nx := 10) dX11_mean_7 rfl ml_X11_isBarFor lk_X11_209 st_X11_isBarFor ⟨(Nat.le_of_ble_eq_true rfl), (Nat.le_of_ble_eq_true rfl)⟩ (Nat.le_of_ble_eq_true rfl) ⟨rfl, rfl⟩ ⟨(Nat.le_of_ble_eq_true rfl), (Nat.le_of_ble_eq_true rfl)⟩ (ct_isBarFor _ _ _) ?_
  refine JtKS1 (R' := rm (0) 1 6) (nx := 13) dX11_mean_10 rfl ml_X11_requireNumber lk_X11_83 st_X11_requireNumber ⟨(Nat.le_of_ble_eq_true rfl), (Nat.le_of_ble_eq_true rfl)⟩ (Nat.le_of_ble_eq_true rfl) ⟨rfl, rfl⟩ ⟨(Nat.le_of_ble_eq_true rfl), (Nat.le_of_ble_eq_true rfl)⟩ (ct_requireNumber _ (fBa j b)) (fun t_10 => ?_)
  refine J_iload_n (nx := 14) dX11_mean_13 rfl rfl ?_
  refine J_iconst (nx := 15) (i := 2) (v := 2) (by decide) dX11_mean_14 rfl ?_
  refine JtKS2 (R' := rm (1) 1 6) (nx := 18) dX11_mean_15 rfl ml_X11_requireWhat lk_X11_136 st_X11_requireWhat ⟨(Nat.le_of_ble_eq_true rfl), (Nat.le_of_ble_eq_true rfl)⟩ (Nat.le_of_ble_eq_true rfl) ⟨rfl, rfl⟩ ⟨(Nat.le_of_ble_eq_true rfl), (Nat.le_of_ble_eq_true rfl)⟩ (ct_requireWhat _ _ _) (fun t_15 => ?_)
  refine J_aload_n (nx := 19) dX11_mean_18 rfl rfl ?_
  refine Jg_0_5 (nx := 22) dX11_mean_19 rfl fl_X11_40 ?_
  refine J_aload_n (nx := 23) dX11_mean_22 rfl rfl ?_
  refine Jg_0_2 (nx := 26) dX11_mean_23 rfl fl_X11_28 ?_
  refine Jg_20_14 (nx := 29) dX11_mean_26 rfl fl_X11_161 ?_
  refine J_aload_n (nx := 30) dX11_mean_29 rfl rfl ?_
  refine Jg_0_2 (nx := 33) dX11_mean_30 rfl fl_X11_28 ?_
  refine Jg_20_13 (nx := 36) dX11_mean_33 rfl fl_X11_173 ?_
  rw [hC.2.1]
  refine JcKV2 (R' := rm (4) 0 0) (nx := 39) dX11_mean_36 rfl ml_X0_open lk_X11_188 iv_X0_open rfl rfl ⟨(Nat.le_of_ble_eq_true rfl), (Nat.le_of_ble_eq_true rfl)⟩ (Nat.le_of_ble_eq_true rfl) ⟨rfl, rfl⟩ ⟨(Nat.le_of_ble_eq_true rfl), (Nat.le_of_ble_eq_true rfl)⟩ (ct_open g _ T q hC.1 (by have := hC.2.2.1; omega)) ?_
  refine J.gen (fun g_36 hg_36 => ?_)
  refine J_aload_n (nx := 40) dX11_mean_39 rfl rfl ?_
  refine Jg_0_5 (nx := 43) dX11_mean_40 rfl fl_X11_40 ?_
  refine J_iload_n (nx := 44) dX11_mean_43 rfl rfl ?_
  refine J_iload_n (nx := 45) dX11_mean_44 rfl rfl ?_
  refine JcKV2 (R' := rm (0) 0 0) (nx := 48) dX11_mean_45 rfl ml_X0_seat lk_X11_222 iv_X0_seat rfl rfl ⟨(Nat.le_of_ble_eq_true rfl), (Nat.le_of_ble_eq_true rfl)⟩ (Nat.le_of_ble_eq_true rfl) ⟨rfl, rfl⟩ ⟨(Nat.le_of_ble_eq_true rfl), (Nat.le_of_ble_eq_true rfl)⟩ (ct_seat _ _ _) ?_
  refine J.gen (fun g_45 hg_45 => ?_)
  have e1 : g_45 = seG g j b q T := by rw [hg_45, hg_36]; rfl
  have hL1 : LayOK g_45 q2 G := by rw [e1]; exact se_L hC (hJ t_2)
  have k1 : KF g g_45 := by rw [e1]; exact kf_se Fr.rf _ _ _ _
  refine J_aload_n (nx := 49) dX11_mean_48 rfl rfl ?_
  refine Jg_0_7 (nx := 52) dX11_mean_49 rfl fl_X11_56 ?_
  refine J_iload_n (nx := 53) dX11_mean_52 rfl rfl ?_
  refine JcKV1 (R' := rm (2) 0 0) (nx := 56) dX11_mean_53 rfl ml_X3_ask lk_X11_301 iv_X3_ask rfl rfl ⟨(Nat.le_of_ble_eq_true rfl), (Nat.le_of_ble_eq_true rfl)⟩ (Nat.le_of_ble_eq_true rfl) ⟨rfl, rfl⟩ ⟨(Nat.le_of_ble_eq_true rfl), (Nat.le_of_ble_eq_true rfl)⟩ (ct_ask g_45 _ T ((k1.book 13 (by decide)).trans hC.2.1) (by have := hC.2.2.1; omega)) ?_
  refine J.gen (fun g_53 hg_53 => ?_)
  refine J_lconst (nx := 57) (i := 0) (v := 0) (by decide) dX11_mean_56 rfl ?_
  refine J_lstore (nx := 59) dX11_mean_57 rfl rfl (Nat.le_of_ble_eq_true rfl) ?_
  refine J_iconst (nx := 60) (i := 0) (v := 0) (by decide) dX11_mean_59 rfl ?_
  refine J_istore (nx := 62) dX11_mean_60 rfl rfl (Nat.le_of_ble_eq_true rfl) ?_
  have k2 : KF g g_53 := by rw [hg_53]; exact kf_ak k1 _ _
  unfold meA
  rw [← e1, show akAll g_45 what T = g_53 from hg_53.symm]
  exact lp_mnS q2 G T n hn hC.2.2.1 j b what _ n 0 0 g_53 _ (by omega) ((k2.book 11 (by decide)).trans hN) (by rw [hg_53]; exact ak_L hL1 _ _) ((k2.book 13 (by decide)).trans hC.2.1) rfl


def plT (so zo : Int32) (G z f : Nat) (g : GS) : GS := lyAll (sF (sF (sF g 40 8 (-1)) 40 10 (nI z)) 40 11 (nI f)) so zo (bk_cn (sF (sF (sF g 40 8 (-1)) 40 10 (nI z)) 40 11 (nI f)) 20 so) none G
abbrev P3 : Type := Int32 × Int32 × GS
def plS (so zo : Int32) (G z f : Nat) (p : P3) : P3 :=
  if p.1 = -1 then (10 * nI z + nI f, wtI (plT so zo G z f p.2.2) 0 32, plT so zo G z f p.2.2) else if wtI (plT so zo G z f p.2.2) 0 32 ≤ p.2.1 then (p.1, p.2.1, plT so zo G z f p.2.2) else (10 * nI z + nI f, wtI (plT so zo G z f p.2.2) 0 32, plT so zo G z f p.2.2)
def plF (so zo : Int32) (G z : Nat) : Nat → Nat → P3 → P3
  | 0, _, p => p
  | k + 1, f, p => plF so zo G z k (f + 1) (plS so zo G z f p)
def plZ (so zo : Int32) (G : Nat) : Nat → Nat → P3 → P3
  | 0, _, p => p
  | k + 1, z, p => plZ so zo G k (z + 1) (plF so zo G z 5 0 p)
theorem plT_G {so zo : Int32} {G z f : Nat} {g : GS} (hG : gF g 40 12 = nI G) (hG2 : G ≤ 10) : gF (plT so zo G z f g) 40 12 = nI G := (LayOK.ly (q := none) (g := sF (sF (sF g 40 8 (-1)) 40 10 (nI z)) 40 11 (nI f)) ⟨(show (-1 : Int32) < 5 by decide), hG, hG2⟩ so zo _).2.1
theorem plS_g (so zo : Int32) (G z f : Nat) (p : P3) : (plS so zo G z f p).2.2 = plT so zo G z f p.2.2 := by
  unfold plS
  split
  · rfl
  · split <;> rfl
theorem plF_G {so zo : Int32} {G z : Nat} (hG2 : G ≤ 10) : ∀ (k f : Nat) {p : P3}, gF p.2.2 40 12 = nI G → gF (plF so zo G z k f p).2.2 40 12 = nI G
  | 0, _, _, h => h
  | k + 1, f, p, h => plF_G hG2 k (f + 1) (by rw [plS_g]; exact plT_G h hG2)
theorem plT_kf {g0 g : GS} (h : KF g0 g) (so zo : Int32) (G z f : Nat) : KF g0 (plT so zo G z f g) := kf_ly (((h.sF rfl).sF rfl).sF rfl) _ _ _ _ _
theorem plF_kf {g0 : GS} {so zo : Int32} {G z : Nat} : ∀ (k f : Nat) {p : P3}, KF g0 p.2.2 → KF g0 (plF so zo G z k f p).2.2
  | 0, _, _, h => h
  | k + 1, f, p, h => plF_kf k (f + 1) (by rw [plS_g]; exact plT_kf h _ _ _ _ _)
theorem plZ_kf {g0 : GS} {so zo : Int32} {G : Nat} : ∀ (k z : Nat) {p : P3}, KF g0 p.2.2 → KF g0 (plZ so zo G k z p).2.2
  | 0, _, _, h => h
  | k + 1, z, p, h => plZ_kf k (z + 1) (plF_kf 5 0 h)
set_option maxRecDepth 100000 in
set_option maxHeartbeats 4000000 in
theorem lp_plF (Q : Res → List ME → Prop) (so zo : Int32) (G z : Nat) (hG2 : G ≤ 10) (n0 : Nat) : ∀ (k : Nat) (f : Nat) (best most : Int32) (g : GS) (r : P3), f + k = 5 → gF g 40 12 = nI G → r = plF so zo G z k f (best, most, g) → J mX11_plain (rm 8 1 6) Q n0 122 [some (.ref 0), some (.int so), some (.int zo), some (.int (r.1)), some (.int (r.2.1)), some (.int (nI z)), some (.int (nI 5)), none] [] (Wd r.2.2) 1 6 → J mX11_plain (rm 8 1 6) (Q) n0 45 [some (.ref 0), some (.int so), some (.int zo), some (.int (best)), some (.int (most)), some (.int (nI z)), some (.int (nI f)), none] [] (Wd g) 1 6 := by
  intro k
  induction k with
  | zero =>
    intro f best most g r hk hG hr hK
    refine J_iload (nx := 47) dX11_plain_45 rfl rfl ?_
    refine J_iconst (nx := 48) (i := 4) (v := 4) (by decide) dX11_plain_47 rfl ?_
    refine J_icmp_gt (nx := 51) (tgt := 122) dX11_plain_48 rfl (by decide) (fun c_48 => ?_) (fun c_48 => ?_)
    · rw [show best = r.1 from by rw [hr]; rfl, show most = r.2.1 from by rw [hr]; rfl, show g = r.2.2 from by rw [hr]; rfl, show f = 5 by omega]
      exact hK
    · exact absurd (show nI 4 < nI f from nI_lt (by omega) (by omega)) c_48
  | succ k ih =>
    intro f best most g r hk hG hr hK
    refine J_iload (nx := 47) dX11_plain_45 rfl rfl ?_
    refine J_iconst (nx := 48) (i := 4) (v := 4) (by decide) dX11_plain_47 rfl ?_
    refine J_icmp_gt (nx := 51) (tgt := 122) dX11_plain_48 rfl (by decide) (fun c_48 => ?_) (fun c_48 => ?_)
    · exact absurd c_48 (show ¬ nI 4 < nI f from nI_nlt (by omega) (by omega))
    · refine J_aload_n (nx := 52) dX11_plain_51 rfl rfl ?_
      refine Jg_0_5 (nx := 55) dX11_plain_52 rfl fl_X11_40 ?_
      refine J_iload (nx := 57) dX11_plain_55 rfl rfl ?_
      refine J_iload (nx := 59) dX11_plain_57 rfl rfl ?_
      refine JcKV2 (R' := rm (0) 0 0) (nx := 62) dX11_plain_59 rfl ml_X0_seatPlain lk_X11_313 iv_X0_seatPlain rfl rfl ⟨(Nat.le_of_ble_eq_true rfl), (Nat.le_of_ble_eq_true rfl)⟩ (Nat.le_of_ble_eq_true rfl) ⟨rfl, rfl⟩ ⟨(Nat.le_of_ble_eq_true rfl), (Nat.le_of_ble_eq_true rfl)⟩ (ct_seatPlain _ _ _) ?_
      refine J.gen (fun g_59 hg_59 => ?_)
      refine J_aload_n (nx := 63) dX11_plain_62 rfl rfl ?_
      refine Jg_0_5 (nx := 66) dX11_plain_63 rfl fl_X11_40 ?_
      refine J_iload_n (nx := 67) dX11_plain_66 rfl rfl ?_
      refine J_iload_n (nx := 68) dX11_plain_67 rfl rfl ?_
      refine J_aload_n (nx := 69) dX11_plain_68 rfl rfl ?_
      refine Jg_0_2 (nx := 72) dX11_plain_69 rfl fl_X11_28 ?_
      refine J_iload_n (nx := 73) dX11_plain_72 rfl rfl ?_
      refine JcKV1 (R' := rm (3) 0 0) (nx := 76) dX11_plain_73 rfl ml_X1_cardNow lk_X11_197 iv_X1_cardNow rfl rfl ⟨(Nat.le_of_ble_eq_true rfl), (Nat.le_of_ble_eq_true rfl)⟩ (Nat.le_of_ble_eq_true rfl) ⟨rfl, rfl⟩ ⟨(Nat.le_of_ble_eq_true rfl), (Nat.le_of_ble_eq_true rfl)⟩ (ct_X1_cardNow _ _) ?_
      refine JcKV3 (R' := rm (4) 0 0) (nx := 79) dX11_plain_76 rfl ml_X0_lay lk_X11_241 iv_X0_lay rfl rfl ⟨(Nat.le_of_ble_eq_true rfl), (Nat.le_of_ble_eq_true rfl)⟩ (Nat.le_of_ble_eq_true rfl) ⟨rfl, rfl⟩ ⟨(Nat.le_of_ble_eq_true rfl), (Nat.le_of_ble_eq_true rfl)⟩ (ct_lay1 g_59 _ _ _ none G (by rw [hg_59]; exact ⟨(show (-1 : Int32) < 5 by decide), hG, hG2⟩)) ?_
      refine J.gen (fun g_76 hg_76 => ?_)
      have e1 : g_76 = plT so zo G z f g := by rw [hg_76, hg_59]; rfl
      refine J_aload_n (nx := 80) dX11_plain_79 rfl rfl ?_
      refine Jg_0_5 (nx := 83) dX11_plain_80 rfl fl_X11_40 ?_
      refine J_iconst (nx := 84) (i := 0) (v := 0) (by decide) dX11_plain_83 rfl ?_
      refine J_bipush (nx := 86) (i := 31) (v := 31) (by decide) dX11_plain_84 rfl ?_
      refine JcKV2 (R' := rm (2) 0 0) (nx := 89) dX11_plain_86 rfl ml_X0_worthTogether lk_X11_228 iv_X0_worthTogether rfl rfl ⟨(Nat.le_of_ble_eq_true rfl), (Nat.le_of_ble_eq_true rfl)⟩ (Nat.le_of_ble_eq_true rfl) ⟨rfl, rfl⟩ ⟨(Nat.le_of_ble_eq_true rfl), (Nat.le_of_ble_eq_true rfl)⟩ (ct_worthTogether g_76 0 31 32 (by omega) (by omega)) ?_
      refine J_istore (nx := 91) dX11_plain_89 rfl rfl (Nat.le_of_ble_eq_true rfl) ?_
      refine J_iload_n (nx := 92) dX11_plain_91 rfl rfl ?_
      refine J_iconst (nx := 93) (i := -1) (v := -1) (by decide) dX11_plain_92 rfl ?_
      refine J_icmp_eq (nx := 96) (tgt := 103) dX11_plain_93 rfl (by decide) (fun c_93 => ?_) (fun c_93 => ?_)
      · refine J_iload (nx := 105) dX11_plain_103 rfl rfl ?_
        refine J_istore (nx := 107) dX11_plain_105 rfl rfl (Nat.le_of_ble_eq_true rfl) ?_
        refine J_bipush (nx := 109) (i := 10) (v := 10) (by decide) dX11_plain_107 rfl ?_
        refine J_iload (nx := 111) dX11_plain_109 rfl rfl ?_
        refine J_imul (nx := 112) dX11_plain_111 rfl ?_
        refine J_iload (nx := 114) dX11_plain_112 rfl rfl ?_
        refine J_iadd (nx := 115) dX11_plain_114 rfl ?_
        refine J_istore_n (nx := 116) dX11_plain_115 rfl rfl (Nat.le_of_ble_eq_true rfl) ?_
        refine J_iinc (nx := 119) dX11_plain_116 rfl rfl rfl (Nat.le_of_ble_eq_true rfl) ?_
        refine J_goto (nx := 45) dX11_plain_119 (by decide) ?_
        refine J_kill (nx := 0) 7 ?_
        show J _ _ _ _ 45 [some (.ref 0), some (.int so), some (.int zo), some (.int (10 * nI z + nI f)), some (.int (wtI g_76 0 32)), some (.int (nI z)), some (.int (nI f + Int32.ofInt 1)), none] [] _ _ _
        rw [nI_s]
        have e9 : plS so zo G z f (best, most, g) = (10 * nI z + nI f, wtI g_76 0 32, g_76) := by
          rw [e1]
          first
            | exact if_pos c_93
            | exact (if_neg c_93).trans (if_pos (by rw [← e1]; exact c_100))
            | exact (if_neg c_93).trans (if_neg (by rw [← e1]; exact c_100))
        exact ih (f + 1) (10 * nI z + nI f) (wtI g_76 0 32) g_76 r (by omega) (by rw [e1]; exact plT_G hG hG2) (hr.trans (by rw [← e9]; rfl)) hK
      · refine J_iload (nx := 98) dX11_plain_96 rfl rfl ?_
        refine J_iload (nx := 100) dX11_plain_98 rfl rfl ?_
        refine J_icmp_le (nx := 103) (tgt := 116) dX11_plain_100 rfl (by decide) (fun c_100 => ?_) (fun c_100 => ?_)
        · refine J_iinc (nx := 119) dX11_plain_116 rfl rfl rfl (Nat.le_of_ble_eq_true rfl) ?_
          refine J_goto (nx := 45) dX11_plain_119 (by decide) ?_
          refine J_kill (nx := 0) 7 ?_
          show J _ _ _ _ 45 [some (.ref 0), some (.int so), some (.int zo), some (.int (best)), some (.int (most)), some (.int (nI z)), some (.int (nI f + Int32.ofInt 1)), none] [] _ _ _
          rw [nI_s]
          have e9 : plS so zo G z f (best, most, g) = (best, most, g_76) := by
            rw [e1]
            first
              | exact if_pos c_93
              | exact (if_neg c_93).trans (if_pos (by rw [← e1]; exact c_100))
              | exact (if_neg c_93).trans (if_neg (by rw [← e1]; exact c_100))
          exact ih (f + 1) (best) (most) g_76 r (by omega) (by rw [e1]; exact plT_G hG hG2) (hr.trans (by rw [← e9]; rfl)) hK
        · refine J_iload (nx := 105) dX11_plain_103 rfl rfl ?_
          refine J_istore (nx := 107) dX11_plain_105 rfl rfl (Nat.le_of_ble_eq_true rfl) ?_
          refine J_bipush (nx := 109) (i := 10) (v := 10) (by decide) dX11_plain_107 rfl ?_
          refine J_iload (nx := 111) dX11_plain_109 rfl rfl ?_
          refine J_imul (nx := 112) dX11_plain_111 rfl ?_
          refine J_iload (nx := 114) dX11_plain_112 rfl rfl ?_
          refine J_iadd (nx := 115) dX11_plain_114 rfl ?_
          refine J_istore_n (nx := 116) dX11_plain_115 rfl rfl (Nat.le_of_ble_eq_true rfl) ?_
          refine J_iinc (nx := 119) dX11_plain_116 rfl rfl rfl (Nat.le_of_ble_eq_true rfl) ?_
          refine J_goto (nx := 45) dX11_plain_119 (by decide) ?_
          refine J_kill (nx := 0) 7 ?_
          show J _ _ _ _ 45 [some (.ref 0), some (.int so), some (.int zo), some (.int (10 * nI z + nI f)), some (.int (wtI g_76 0 32)), some (.int (nI z)), some (.int (nI f + Int32.ofInt 1)), none] [] _ _ _
          rw [nI_s]
          have e9 : plS so zo G z f (best, most, g) = (10 * nI z + nI f, wtI g_76 0 32, g_76) := by
            rw [e1]
            first
              | exact if_pos c_93
              | exact (if_neg c_93).trans (if_pos (by rw [← e1]; exact c_100))
              | exact (if_neg c_93).trans (if_neg (by rw [← e1]; exact c_100))
          exact ih (f + 1) (10 * nI z + nI f) (wtI g_76 0 32) g_76 r (by omega) (by rw [e1]; exact plT_G hG hG2) (hr.trans (by rw [← e9]; rfl)) hK

set_option maxRecDepth 100000 in
set_option maxHeartbeats 4000000 in
theorem lp_plZ (so zo : Int32) (G : Nat) (hG2 : G ≤ 10) (n0 : Nat) : ∀ (k : Nat) (z : Nat) (best most : Int32) (g : GS) (r : Int32 × GS), z + k = 9 → gF g 40 12 = nI G → r = ((plZ so zo G k z (best, most, g)).1, (plZ so zo G k z (best, most, g)).2.2) → J mX11_plain (rm 8 1 6) (RR (.inl (some (.int r.1))) r.2) n0 35 [some (.ref 0), some (.int so), some (.int zo), some (.int (best)), some (.int (most)), some (.int (nI z)), none, none] [] (Wd g) 1 6 := by
  intro k
  induction k with
  | zero =>
    intro z best most g r hk hG hr
    refine J_iload (nx := 37) dX11_plain_35 rfl rfl ?_
    refine J_bipush (nx := 39) (i := 8) (v := 8) (by decide) dX11_plain_37 rfl ?_
    refine J_icmp_gt (nx := 42) (tgt := 128) dX11_plain_39 rfl (by decide) (fun c_39 => ?_) (fun c_39 => ?_)
    · refine J_iload_n (nx := 129) dX11_plain_128 rfl rfl ?_
      exact Jri dX11_plain_129 rfl (Nat.le_of_ble_eq_true rfl) (Nat.le_of_ble_eq_true rfl) ⟨by rw [hr]; rfl, by rw [hr]; rfl⟩
    · exact absurd (show nI 8 < nI z from nI_lt (by omega) (by omega)) c_39
  | succ k ih =>
    intro z best most g r hk hG hr
    refine J_iload (nx := 37) dX11_plain_35 rfl rfl ?_
    refine J_bipush (nx := 39) (i := 8) (v := 8) (by decide) dX11_plain_37 rfl ?_
    refine J_icmp_gt (nx := 42) (tgt := 128) dX11_plain_39 rfl (by decide) (fun c_39 => ?_) (fun c_39 => ?_)
    · exact absurd c_39 (show ¬ nI 8 < nI z from nI_nlt (by omega) (by omega))
    · refine J_iconst (nx := 43) (i := 0) (v := 0) (by decide) dX11_plain_42 rfl ?_
      refine J_istore (nx := 45) dX11_plain_43 rfl rfl (Nat.le_of_ble_eq_true rfl) ?_
      obtain ⟨p, hp⟩ : ∃ p, p = plF so zo G z 5 0 (best, most, g) := ⟨_, rfl⟩
      have hpG : gF p.2.2 40 12 = nI G := by rw [hp]; exact plF_G hG2 5 0 hG
      have hr2 : r = ((plZ so zo G k (z + 1) p).1, (plZ so zo G k (z + 1) p).2.2) := by rw [hr, hp]; rfl
      have hz := lp_plF (RR (.inl (some (.int r.1))) r.2) so zo G z hG2 n0 5 0 best most g p rfl hG hp ?_
      · exact hz
      · show J _ _ _ _ 122 _ [] _ _ _
        refine J_iinc (nx := 125) dX11_plain_122 rfl rfl rfl (Nat.le_of_ble_eq_true rfl) ?_
        refine J_goto (nx := 35) dX11_plain_125 (by decide) ?_
        refine J_kill (nx := 0) 6 ?_
        show J _ _ _ _ 35 [some (.ref 0), some (.int so), some (.int zo), some (.int (p.1)), some (.int (p.2.1)), some (.int (nI z + Int32.ofInt 1)), none, none] [] _ _ _
        rw [nI_s]
        exact ih (z + 1) p.1 p.2.1 p.2.2 r (by omega) hpG hr2

def pnA (g : GS) (so zo : Int32) (q : Option CD) (T G : Nat) : P3 := plZ so zo G 9 0 (-1, 0, opAll g (gF g 20 14) T q)
set_option maxRecDepth 100000 in
set_option maxHeartbeats 4000000 in
theorem ct_plain (g : GS) (so zo : Int32) (q : Option CD) (T G : Nat) (hC : Cl g q T G) : Ct mX11_plain (rm 8 1 6) [.ref 0, .int so, .int zo] (Wd g) (FX [(fFo g so zo, x_iob)] (RR (.inl (some (.int (pnA g so zo q T G).1))) (pnA g so zo q T G).2.2) g) := by
  refine Ct.of (by decide +kernel) (Nat.le_of_ble_eq_true rfl) ?_
  show J _ _ _ _ 0 [some (.ref 0), some (.int so), some (.int zo), none, none, none, none, none] [] _ 0 0
  refine J_aload_n (nx := 1) dX11_plain_0 rfl rfl ?_
  refine J_iload_n (nx := 2) dX11_plain_1 rfl rfl ?_
  refine J_iload_n (nx := 3) dX11_plain_2 rfl rfl ?_
  refine JtKV2 (R' := rm (1) 1 6) (nx := 6) dX11_plain_3 rfl ml_X11_requireFoul lk_X11_194 iv_X11_requireFoul rfl rfl ⟨(Nat.le_of_ble_eq_true rfl), (Nat.le_of_ble_eq_true rfl)⟩ (Nat.le_of_ble_eq_true rfl) ⟨rfl, rfl⟩ ⟨(Nat.le_of_ble_eq_true rfl), (Nat.le_of_ble_eq_true rfl)⟩ (ct_requireFoul _ _ _) (fun t_3 => ?_)
  refine J_aload_n (nx := 7) dX11_plain_6 rfl rfl ?_
  refine Jg_0_5 (nx := 10) dX11_plain_7 rfl fl_X11_40 ?_
  refine J_aload_n (nx := 11) dX11_plain_10 rfl rfl ?_
  refine Jg_0_2 (nx := 14) dX11_plain_11 rfl fl_X11_28 ?_
  refine Jg_20_14 (nx := 17) dX11_plain_14 rfl fl_X11_161 ?_
  refine J_aload_n (nx := 18) dX11_plain_17 rfl rfl ?_
  refine Jg_0_2 (nx := 21) dX11_plain_18 rfl fl_X11_28 ?_
  refine Jg_20_13 (nx := 24) dX11_plain_21 rfl fl_X11_173 ?_
  rw [hC.2.1]
  refine JcKV2 (R' := rm (4) 0 0) (nx := 27) dX11_plain_24 rfl ml_X0_open lk_X11_188 iv_X0_open rfl rfl ⟨(Nat.le_of_ble_eq_true rfl), (Nat.le_of_ble_eq_true rfl)⟩ (Nat.le_of_ble_eq_true rfl) ⟨rfl, rfl⟩ ⟨(Nat.le_of_ble_eq_true rfl), (Nat.le_of_ble_eq_true rfl)⟩ (ct_open g _ T q hC.1 (by have := hC.2.2.1; omega)) ?_
  refine J.gen (fun g_24 hg_24 => ?_)
  refine J_iconst (nx := 28) (i := -1) (v := -1) (by decide) dX11_plain_27 rfl ?_
  refine J_istore_n (nx := 29) dX11_plain_28 rfl rfl (Nat.le_of_ble_eq_true rfl) ?_
  refine J_iconst (nx := 30) (i := 0) (v := 0) (by decide) dX11_plain_29 rfl ?_
  refine J_istore (nx := 32) dX11_plain_30 rfl rfl (Nat.le_of_ble_eq_true rfl) ?_
  refine J_iconst (nx := 33) (i := 0) (v := 0) (by decide) dX11_plain_32 rfl ?_
  refine J_istore (nx := 35) dX11_plain_33 rfl rfl (Nat.le_of_ble_eq_true rfl) ?_
  unfold pnA
  rw [show opAll g (gF g 20 14) T q = g_24 from hg_24.symm]
  obtain ⟨p, hp⟩ : ∃ p, p = plZ so zo G 9 0 (-1, 0, g_24) := ⟨_, rfl⟩
  rw [← hp]
  exact lp_plZ so zo G hC.2.2.2.2 _ 9 0 (-1) 0 g_24 (p.1, p.2.2) rfl (by rw [hg_24]; exact hC.opened _ _) (by rw [hp])

