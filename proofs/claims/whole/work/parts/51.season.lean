
/-! seasons -/
theorem pl_F {c x : Nat} (hc : Nat.beq c 58 = false) : ∀ (k n : Nat) (st wt : Int32) (g : GS), gF (plR k n st wt g) c x = gF g c x
  | 0, _, _, _, _ => rfl
  | k + 1, n, st, wt, g => by
    have h : ∀ (G : GS) (y : Nat) (v : Int32), gF (sF G 58 y v) c x = gF G c x := fun G y v => by
      show (bif Nat.beq c 58 && Nat.beq x y then v else gF G c x) = gF G c x
      rw [hc]; rfl
    have h1 : gF (cdrG (sF g 58 9 (nI n))) c x = gF g c x := (h _ _ _).trans (h _ _ _)
    unfold plR
    split
    · split
      · split
        · exact (pl_F hc k _ _ _ _).trans h1
        · exact (h _ _ _).trans ((h _ _ _).trans h1)
      · exact h _ _ _
    · exact (h _ _ _).trans (h _ _ _)
theorem pl_P : ∀ (k n : Nat) (st wt : Int32) (g : GS), gP (plR k n st wt g) = gP g
  | 0, _, _, _, _ => rfl
  | k + 1, n, st, wt, g => by
    unfold plR
    split
    · split
      · split
        · exact pl_P k _ _ _ _
        · rfl
      · rfl
    · rfl
theorem pl_L {g : GS} {q2 : Option CD} {G : Nat} (h : LayOK g q2 G) (k n : Nat) (st wt : Int32) : LayOK (plR k n st wt g) q2 G :=
  ⟨h.1.congr (pl_F rfl _ _ _ _ _) (pl_P _ _ _ _ _) (kf_pl (g0 := g) k n st wt Fr.rf).tail, (pl_F rfl _ _ _ _ _).trans h.2.1, h.2.2⟩
def snP (g : GS) (all : Int32) : Int32 := rhR (cdrG g) (cdrV g all) 192 0 0
def snG (q2 : Option CD) (G T : Nat) (all : Int32) (g : GS) : GS :=
  plR (T + 1) 0 (snP g all - snP g all / 32 * 32) 1 (sF (lyAll (cdrG g) (snP g all / 32) ((snP g all - snP g all / 32 * 32) / 4) (bk_cn (cdrG g) 20 (snP g all / 32)) q2 G) 58 8 3)
def snT (g : GS) (what told : Int32) : Int32 := if ¬ what = 4 then (if ¬ what = gF g 58 8 then told else told + Int32.ofInt 1) else told + gF g 58 9
def snR (q2 : Option CD) (G T : Nat) (all what : Int32) : Nat → Int32 → GS → Int32 × GS
  | 0, told, g => (told, g)
  | k + 1, told, g => snR q2 G T all what k (snT (snG q2 G T all g) what told) (snG q2 G T all g)
theorem sn_kf {g0 g : GS} (h : KF g0 g) (q2 : Option CD) (G T : Nat) (all : Int32) : KF g0 (snG q2 G T all g) := kf_pl _ _ _ _ ((kf_ly (h.sF rfl) _ _ _ _ _).sF rfl)
theorem LayOK.f58 {g : GS} {q2 : Option CD} {G : Nat} (h : LayOK g q2 G) (y : Nat) (v : Int32) : LayOK (sF g 58 y v) q2 G := ⟨h.1.congr rfl rfl rfl, h.2.1, h.2.2⟩
theorem sn_L {g : GS} {q2 : Option CD} {G : Nat} (h : LayOK g q2 G) (T : Nat) (all : Int32) : LayOK (snG q2 G T all g) q2 G := by
  unfold snG
  refine pl_L ?_ _ _ _ _
  refine LayOK.f58 ?_ _ _
  refine LayOK.ly ?_ _ _ _
  exact h.f58 _ _
theorem snR_kf {g0 : GS} {q2 : Option CD} {G T : Nat} {all what : Int32} : ∀ (k : Nat) (told : Int32) {g : GS}, KF g0 g → KF g0 (snR q2 G T all what k told g).2
  | 0, _, _, h => h
  | k + 1, told, g, h => snR_kf k _ (sn_kf h _ _ _ _)
def fSe (j b m all : Int32) : Bool := fBa j b && (if m < 1 then false else if 200 < m then false else if all ≤ 0 then false else true)
set_option maxRecDepth 100000 in
set_option maxHeartbeats 4000000 in
theorem lp_season (q2 : Option CD) (G T m : Nat) (hm : m ≤ 200) (hT3 : T ≤ 60) (j b seed what all : Int32) (n0 : Nat) : ∀ (k : Nat) (i : Nat) (told : Int32) (g : GS) (r : Int32 × GS), i + k = m → LayOK g q2 G → gF g 20 13 = nI T → r = snR q2 G T all what k told g → J mX11_season (rm 10 3 18) (RR (.inl (some (.int r.1))) r.2) n0 98 [some (.ref 0), some (.int j), some (.int b), some (.int (nI m)), some (.int seed), some (.int what), some (.int all), some (.int (told)), some (.int (nI i)), none, none, none] [] (Wd g) 3 18 := by
  intro k
  induction k with
  | zero =>
    intro i told g r hk hL hT hr
    refine J_iload (nx := 100) dX11_season_98 rfl rfl ?_
    refine J_iload_n (nx := 101) dX11_season_100 rfl rfl ?_
    refine J_icmp_ge (nx := 104) (tgt := 209) dX11_season_101 rfl (by decide) (fun c_101 => ?_) (fun c_101 => ?_)
    · refine J_iload (nx := 211) dX11_season_209 rfl rfl ?_
      exact Jri dX11_season_211 rfl (Nat.le_of_ble_eq_true rfl) (Nat.le_of_ble_eq_true rfl) ⟨by rw [hr]; rfl, by rw [hr]; rfl⟩
    · exact absurd (nI_le (show m ≤ i by omega) (by omega)) c_101
  | succ k ih =>
    intro i told g r hk hL hT hr
    refine J_iload (nx := 100) dX11_season_98 rfl rfl ?_
    refine J_iload_n (nx := 101) dX11_season_100 rfl rfl ?_
    refine J_icmp_ge (nx := 104) (tgt := 209) dX11_season_101 rfl (by decide) (fun c_101 => ?_) (fun c_101 => ?_)
    · exact absurd c_101 (nlt_nI (show i < m by omega) (by omega))
    · refine J_aload_n (nx := 105) dX11_season_104 rfl rfl ?_
      refine Jg_0_2 (nx := 108) dX11_season_105 rfl fl_X11_28 ?_
      refine J_aload_n (nx := 109) dX11_season_108 rfl rfl ?_
      refine Jg_0_7 (nx := 112) dX11_season_109 rfl fl_X11_56 ?_
      refine J_iload (nx := 114) dX11_season_112 rfl rfl ?_
      refine JcKV1 (R' := rm (0) 0 0) (nx := 117) dX11_season_114 rfl ml_X3_draw lk_X11_340 iv_X3_draw rfl rfl ⟨(Nat.le_of_ble_eq_true rfl), (Nat.le_of_ble_eq_true rfl)⟩ (Nat.le_of_ble_eq_true rfl) ⟨rfl, rfl⟩ ⟨(Nat.le_of_ble_eq_true rfl), (Nat.le_of_ble_eq_true rfl)⟩ (ct_draw _ _) ?_
      refine J.gen (fun g_114 hg_114 => ?_)
      have h1 : LayOK g_114 q2 G := by rw [hg_114]; exact hL.f58 _ _
      have hp : rhR g_114 (cdrV g all) 192 0 0 = snP g all := by rw [hg_114]; rfl
      refine JcKV1 (R' := rm (1) 0 0) (nx := 120) dX11_season_117 rfl ml_X1_rateHolding lk_X11_343 iv_X1_rateHolding rfl rfl ⟨(Nat.le_of_ble_eq_true rfl), (Nat.le_of_ble_eq_true rfl)⟩ (Nat.le_of_ble_eq_true rfl) ⟨rfl, rfl⟩ ⟨(Nat.le_of_ble_eq_true rfl), (Nat.le_of_ble_eq_true rfl)⟩ (ct_rateHolding _ _) ?_
      rw [hp]
      refine J_istore (nx := 122) dX11_season_120 rfl rfl (Nat.le_of_ble_eq_true rfl) ?_
      refine J_iload (nx := 124) dX11_season_122 rfl rfl ?_
      refine J_bipush (nx := 126) (i := 32) (v := 32) (by decide) dX11_season_124 rfl ?_
      refine J_idiv (nx := 127) (by decide) dX11_season_126 rfl ?_
      refine J_istore (nx := 129) dX11_season_127 rfl rfl (Nat.le_of_ble_eq_true rfl) ?_
      refine J_iload (nx := 131) dX11_season_129 rfl rfl ?_
      refine J_bipush (nx := 133) (i := 32) (v := 32) (by decide) dX11_season_131 rfl ?_
      refine J_irem (nx := 134) (by decide) dX11_season_133 rfl ?_
      refine J_istore (nx := 136) dX11_season_134 rfl rfl (Nat.le_of_ble_eq_true rfl) ?_
      refine J_aload_n (nx := 137) dX11_season_136 rfl rfl ?_
      refine Jg_0_5 (nx := 140) dX11_season_137 rfl fl_X11_40 ?_
      refine J_iload (nx := 142) dX11_season_140 rfl rfl ?_
      refine J_iload (nx := 144) dX11_season_142 rfl rfl ?_
      refine J_iconst (nx := 145) (i := 4) (v := 4) (by decide) dX11_season_144 rfl ?_
      refine J_idiv (nx := 146) (by decide) dX11_season_145 rfl ?_
      refine J_aload_n (nx := 147) dX11_season_146 rfl rfl ?_
      refine Jg_0_2 (nx := 150) dX11_season_147 rfl fl_X11_28 ?_
      refine J_iload (nx := 152) dX11_season_150 rfl rfl ?_
      refine JcKV1 (R' := rm (3) 0 0) (nx := 155) dX11_season_152 rfl ml_X1_cardNow lk_X11_197 iv_X1_cardNow rfl rfl ⟨(Nat.le_of_ble_eq_true rfl), (Nat.le_of_ble_eq_true rfl)⟩ (Nat.le_of_ble_eq_true rfl) ⟨rfl, rfl⟩ ⟨(Nat.le_of_ble_eq_true rfl), (Nat.le_of_ble_eq_true rfl)⟩ (ct_X1_cardNow _ _) ?_
      refine JcKV3 (R' := rm (4) 0 0) (nx := 158) dX11_season_155 rfl ml_X0_lay lk_X11_241 iv_X0_lay rfl rfl ⟨(Nat.le_of_ble_eq_true rfl), (Nat.le_of_ble_eq_true rfl)⟩ (Nat.le_of_ble_eq_true rfl) ⟨rfl, rfl⟩ ⟨(Nat.le_of_ble_eq_true rfl), (Nat.le_of_ble_eq_true rfl)⟩ (ct_lay1 g_114 _ _ _ q2 G h1) ?_
      refine J.gen (fun g_155 hg_155 => ?_)
      have hT2 : gF g_155 20 13 = nI T := by rw [hg_155]; exact ((kf_ly (Fr.rf (g := g_114)) _ _ _ _ _).book 13 (by decide)).trans (by rw [hg_114]; exact hT)
      refine J_aload_n (nx := 159) dX11_season_158 rfl rfl ?_
      refine Jg_0_7 (nx := 162) dX11_season_159 rfl fl_X11_56 ?_
      refine J_iload (nx := 164) dX11_season_162 rfl rfl ?_
      refine JcKV1 (R' := rm (2) 0 0) (nx := 167) dX11_season_164 rfl ml_X3_playFrom lk_X11_292 iv_X3_playFrom rfl rfl ⟨(Nat.le_of_ble_eq_true rfl), (Nat.le_of_ble_eq_true rfl)⟩ (Nat.le_of_ble_eq_true rfl) ⟨rfl, rfl⟩ ⟨(Nat.le_of_ble_eq_true rfl), (Nat.le_of_ble_eq_true rfl)⟩ (ct_playFrom g_155 _ T hT2 (by omega)) ?_
      refine J.gen (fun g_164 hg_164 => ?_)
      have e1 : g_164 = snG q2 G T all g := by rw [hg_164, hg_155, hg_114]; rfl
      refine J_iload (nx := 169) dX11_season_167 rfl rfl ?_
      refine J_iconst (nx := 170) (i := 4) (v := 4) (by decide) dX11_season_169 rfl ?_
      refine J_icmp_ne (nx := 173) (tgt := 188) dX11_season_170 rfl (by decide) (fun c_170 => ?_) (fun c_170 => ?_)
      · refine J_iload (nx := 190) dX11_season_188 rfl rfl ?_
        refine J_aload_n (nx := 191) dX11_season_190 rfl rfl ?_
        refine Jg_0_7 (nx := 194) dX11_season_191 rfl fl_X11_56 ?_
        refine Jg_58_8 (nx := 197) dX11_season_194 rfl fl_X11_295 ?_
        refine J_icmp_ne (nx := 200) (tgt := 203) dX11_season_197 rfl (by decide) (fun c_197 => ?_) (fun c_197 => ?_)
        · refine J_iinc (nx := 206) dX11_season_203 rfl rfl rfl (Nat.le_of_ble_eq_true rfl) ?_
          refine J_goto (nx := 98) dX11_season_206 (by decide) ?_
          refine J_kill (nx := 0) 9 ?_
          refine J_kill (nx := 0) 10 ?_
          refine J_kill (nx := 0) 11 ?_
          show J _ _ _ _ 98 [some (.ref 0), some (.int j), some (.int b), some (.int (nI m)), some (.int seed), some (.int what), some (.int all), some (.int (told)), some (.int (nI i + Int32.ofInt 1)), none, none, none] [] _ _ _
          rw [nI_s]
          have e9 : snT g_164 what told = told := by unfold snT; rw [if_pos c_170, if_pos c_197]
          exact ih (i + 1) _ g_164 r (by omega) (by rw [e1]; exact sn_L hL T all) (by rw [e1]; exact ((sn_kf (Fr.rf (g := g)) _ _ _ _).book 13 (by decide)).trans hT) (hr.trans (by show snR q2 G T all what k (snT (snG q2 G T all g) what told) (snG q2 G T all g) = _; rw [← e1, e9]))
        · refine J_iinc (nx := 203) dX11_season_200 rfl rfl rfl (Nat.le_of_ble_eq_true rfl) ?_
          refine J_iinc (nx := 206) dX11_season_203 rfl rfl rfl (Nat.le_of_ble_eq_true rfl) ?_
          refine J_goto (nx := 98) dX11_season_206 (by decide) ?_
          refine J_kill (nx := 0) 9 ?_
          refine J_kill (nx := 0) 10 ?_
          refine J_kill (nx := 0) 11 ?_
          show J _ _ _ _ 98 [some (.ref 0), some (.int j), some (.int b), some (.int (nI m)), some (.int seed), some (.int what), some (.int all), some (.int (told + Int32.ofInt 1)), some (.int (nI i + Int32.ofInt 1)), none, none, none] [] _ _ _
          rw [nI_s]
          have e9 : snT g_164 what told = told + Int32.ofInt 1 := by unfold snT; rw [if_pos c_170, if_neg (fun z => z c_197)]
          exact ih (i + 1) _ g_164 r (by omega) (by rw [e1]; exact sn_L hL T all) (by rw [e1]; exact ((sn_kf (Fr.rf (g := g)) _ _ _ _).book 13 (by decide)).trans hT) (hr.trans (by show snR q2 G T all what k (snT (snG q2 G T all g) what told) (snG q2 G T all g) = _; rw [← e1, e9]))
      · refine J_iload (nx := 175) dX11_season_173 rfl rfl ?_
        refine J_aload_n (nx := 176) dX11_season_175 rfl rfl ?_
        refine Jg_0_7 (nx := 179) dX11_season_176 rfl fl_X11_56 ?_
        refine Jg_58_9 (nx := 182) dX11_season_179 rfl fl_X11_298 ?_
        refine J_iadd (nx := 183) dX11_season_182 rfl ?_
        refine J_istore (nx := 185) dX11_season_183 rfl rfl (Nat.le_of_ble_eq_true rfl) ?_
        refine J_goto (nx := 203) dX11_season_185 (by decide) ?_
        refine J_iinc (nx := 206) dX11_season_203 rfl rfl rfl (Nat.le_of_ble_eq_true rfl) ?_
        refine J_goto (nx := 98) dX11_season_206 (by decide) ?_
        refine J_kill (nx := 0) 9 ?_
        refine J_kill (nx := 0) 10 ?_
        refine J_kill (nx := 0) 11 ?_
        show J _ _ _ _ 98 [some (.ref 0), some (.int j), some (.int b), some (.int (nI m)), some (.int seed), some (.int what), some (.int all), some (.int (told + gF g_164 58 9)), some (.int (nI i + Int32.ofInt 1)), none, none, none] [] _ _ _
        rw [nI_s]
        have e9 : snT g_164 what told = told + gF g_164 58 9 := by unfold snT; rw [if_neg (fun z => z c_170)]
        exact ih (i + 1) _ g_164 r (by omega) (by rw [e1]; exact sn_L hL T all) (by rw [e1]; exact ((sn_kf (Fr.rf (g := g)) _ _ _ _).book 13 (by decide)).trans hT) (hr.trans (by show snR q2 G T all what k (snT (snG q2 G T all g) what told) (snG q2 G T all g) = _; rw [← e1, e9]))

def snA (g : GS) (j b m seed what : Int32) (q q2 : Option CD) (T G n : Nat) : Int32 × GS := snR q2 G T (bk_rr g 20 n) what m.toNatClampNeg 0 (sF (seG g j b q T) 58 7 seed)
theorem fSe_nI {j b m all : Int32} (h : fSe j b m all = true) : ∃ k, k ≤ 200 ∧ m = nI k := by
  unfold fSe at h
  have h2 := (Bool.and_eq_true_iff.mp h).2
  by_cases h1 : m < 1
  · rw [if_pos h1] at h2; cases h2
  · rw [if_neg h1] at h2
    by_cases h3 : 200 < m
    · rw [if_pos h3] at h2; cases h2
    · have h0 : ¬ m < 0 := fun z => h1 (Int32.lt_iff_toInt_lt.mpr (by have := Int32.lt_iff_toInt_lt.mp z; rw [Int32.toInt_zero] at this; show m.toInt < 1; omega))
      obtain ⟨k, hk, rfl⟩ := nI_of h0
      refine ⟨k, ?_, rfl⟩
      rcases Nat.lt_or_ge 200 k with h4 | h4
      · exact absurd (show nI 200 < nI k from nI_lt h4 (by omega)) h3
      · exact h4
set_option maxRecDepth 100000 in
set_option maxHeartbeats 4000000 in
theorem ct_season (g : GS) (j b m seed what : Int32) (q q2 : Option CD) (T G n : Nat) (hC : Cl g q T G) (hn : n ≤ 6) (hN : gF g 20 11 = nI n) (hJ : fJu g j = true → JAt g j q2) : Ct mX11_season (rm 10 3 18) [.ref 0, .int j, .int b, .int m, .int seed, .int what] (Wd g) (FX [(fJu g j, x_iob), (fSe j b m (bk_rr g 20 n), x_iae), (fWi what 4, x_nse)] (RR (.inl (some (.int (snA g j b m seed what q q2 T G n).1))) (snA g j b m seed what q q2 T G n).2) g) := by
  refine Ct.of (by decide +kernel) (Nat.le_of_ble_eq_true rfl) ?_
  show J _ _ _ _ 0 [some (.ref 0), some (.int j), some (.int b), some (.int m), some (.int seed), some (.int what), none, none, none, none, none, none] [] _ 0 0
  refine J_aload_n (nx := 1) dX11_season_0 rfl rfl ?_
  refine J_iload_n (nx := 2) dX11_season_1 rfl rfl ?_
  refine JtKV1 (R' := rm (1) 1 6) (nx := 5) dX11_season_2 rfl ml_X11_requireJudge lk_X11_206 iv_X11_requireJudge rfl rfl ⟨(Nat.le_of_ble_eq_true rfl), (Nat.le_of_ble_eq_true rfl)⟩ (Nat.le_of_ble_eq_true rfl) ⟨rfl, rfl⟩ ⟨(Nat.le_of_ble_eq_true rfl), (Nat.le_of_ble_eq_true rfl)⟩ (ct_requireJudge _ _) (fun t_2 => ?_)
  refine J_aload_n (nx := 6) dX11_season_5 rfl rfl ?_
  refine Jg_0_2 (nx := 9) dX11_season_6 rfl fl_X11_28 ?_
  refine JcKV0 (R' := rm (3) 0 0) (nx := 12) dX11_season_9 rfl ml_X1_ratesTogether lk_X11_337 iv_X1_ratesTogether rfl rfl ⟨(Nat.le_of_ble_eq_true rfl), (Nat.le_of_ble_eq_true rfl)⟩ (Nat.le_of_ble_eq_true rfl) ⟨rfl, rfl⟩ ⟨(Nat.le_of_ble_eq_true rfl), (Nat.le_of_ble_eq_true rfl)⟩ (ct_X1_ratesTogether g n hN hn) ?_
  refine J_istore (nx := 14) dX11_season_12 rfl rfl (Nat.le_of_ble_eq_true rfl) ?_
  refine J_iload_n (nx := 15) dX11_season_14 rfl rfl ?_
  refine J_iload_n (nx := 16) dX11_season_15 rfl rfl ?_
  refine JcKS2 (R' := rm (1) 0 0) (nx := 19) dX11_season_16 rfl ml_X11_isBarFor lk_X11_209 st_X11_isBarFor ⟨(Nat.le_of_ble_eq_true rfl), (Nat.le_of_ble_eq_true rfl)⟩ (Nat.le_of_ble_eq_true rfl) ⟨rfl, rfl⟩ ⟨(Nat.le_of_ble_eq_true rfl), (Nat.le_of_ble_eq_true rfl)⟩ (ct_isBarFor _ _ _) ?_
  refine J_if_eq (nx := 22) (tgt := 43) dX11_season_19 rfl (by decide) (fun c_19 => ?_) (fun c_19 => ?_)
  · refine J_iconst (nx := 44) (i := 0) (v := 0) (by decide) dX11_season_43 rfl ?_
    refine J.topi (bI (fSe j b m (bk_rr g 20 n))) (by unfold fSe; first | (rw [bI_0.mp c_19]; rfl) | (rw [bI_n0.mp c_19, if_pos c_24]; rfl) | (rw [bI_n0.mp c_19, if_neg c_24, if_pos c_31]; rfl) | (rw [bI_n0.mp c_19, if_neg c_24, if_neg c_31, if_pos c_36]; rfl) | (rw [bI_n0.mp c_19, if_neg c_24, if_neg c_31, if_neg c_36]; rfl)) ?_
    refine JtKS1 (R' := rm (0) 1 6) (nx := 47) dX11_season_44 rfl ml_X11_requireNumber lk_X11_83 st_X11_requireNumber ⟨(Nat.le_of_ble_eq_true rfl), (Nat.le_of_ble_eq_true rfl)⟩ (Nat.le_of_ble_eq_true rfl) ⟨rfl, rfl⟩ ⟨(Nat.le_of_ble_eq_true rfl), (Nat.le_of_ble_eq_true rfl)⟩ (ct_requireNumber _ (fSe j b m (bk_rr g 20 n))) (fun t_44 => ?_)
    refine J_iload (nx := 49) dX11_season_47 rfl rfl ?_
    refine J_iconst (nx := 50) (i := 4) (v := 4) (by decide) dX11_season_49 rfl ?_
    refine JtKS2 (R' := rm (1) 1 6) (nx := 53) dX11_season_50 rfl ml_X11_requireWhat lk_X11_136 st_X11_requireWhat ⟨(Nat.le_of_ble_eq_true rfl), (Nat.le_of_ble_eq_true rfl)⟩ (Nat.le_of_ble_eq_true rfl) ⟨rfl, rfl⟩ ⟨(Nat.le_of_ble_eq_true rfl), (Nat.le_of_ble_eq_true rfl)⟩ (ct_requireWhat _ _ _) (fun t_50 => ?_)
    skip
    refine J_aload_n (nx := 54) dX11_season_53 rfl rfl ?_
    refine Jg_0_5 (nx := 57) dX11_season_54 rfl fl_X11_40 ?_
    refine J_aload_n (nx := 58) dX11_season_57 rfl rfl ?_
    refine Jg_0_2 (nx := 61) dX11_season_58 rfl fl_X11_28 ?_
    refine Jg_20_14 (nx := 64) dX11_season_61 rfl fl_X11_161 ?_
    refine J_aload_n (nx := 65) dX11_season_64 rfl rfl ?_
    refine Jg_0_2 (nx := 68) dX11_season_65 rfl fl_X11_28 ?_
    refine Jg_20_13 (nx := 71) dX11_season_68 rfl fl_X11_173 ?_
    rw [hC.2.1]
    refine JcKV2 (R' := rm (4) 0 0) (nx := 74) dX11_season_71 rfl ml_X0_open lk_X11_188 iv_X0_open rfl rfl ⟨(Nat.le_of_ble_eq_true rfl), (Nat.le_of_ble_eq_true rfl)⟩ (Nat.le_of_ble_eq_true rfl) ⟨rfl, rfl⟩ ⟨(Nat.le_of_ble_eq_true rfl), (Nat.le_of_ble_eq_true rfl)⟩ (ct_open g _ T q hC.1 (by have := hC.2.2.1; omega)) ?_
    refine J.gen (fun g_71 hg_71 => ?_)
    refine J_aload_n (nx := 75) dX11_season_74 rfl rfl ?_
    refine Jg_0_5 (nx := 78) dX11_season_75 rfl fl_X11_40 ?_
    refine J_iload_n (nx := 79) dX11_season_78 rfl rfl ?_
    refine J_iload_n (nx := 80) dX11_season_79 rfl rfl ?_
    refine JcKV2 (R' := rm (0) 0 0) (nx := 83) dX11_season_80 rfl ml_X0_seat lk_X11_222 iv_X0_seat rfl rfl ⟨(Nat.le_of_ble_eq_true rfl), (Nat.le_of_ble_eq_true rfl)⟩ (Nat.le_of_ble_eq_true rfl) ⟨rfl, rfl⟩ ⟨(Nat.le_of_ble_eq_true rfl), (Nat.le_of_ble_eq_true rfl)⟩ (ct_seat _ _ _) ?_
    refine J.gen (fun g_80 hg_80 => ?_)
    have e1 : g_80 = seG g j b q T := by rw [hg_80, hg_71]; rfl
    have hL1 : LayOK g_80 q2 G := by rw [e1]; exact se_L hC (hJ t_2)
    have k1 : KF g g_80 := by rw [e1]; exact kf_se Fr.rf _ _ _ _
    refine J_aload_n (nx := 84) dX11_season_83 rfl rfl ?_
    refine Jg_0_7 (nx := 87) dX11_season_84 rfl fl_X11_56 ?_
    refine J_iload (nx := 89) dX11_season_87 rfl rfl ?_
    refine Jp_58_7 (nx := 92) dX11_season_89 rfl fl_X11_289 ?_
    refine J.gen (fun g_89 hg_89 => ?_)
    refine J_iconst (nx := 93) (i := 0) (v := 0) (by decide) dX11_season_92 rfl ?_
    refine J_istore (nx := 95) dX11_season_93 rfl rfl (Nat.le_of_ble_eq_true rfl) ?_
    refine J_iconst (nx := 96) (i := 0) (v := 0) (by decide) dX11_season_95 rfl ?_
    refine J_istore (nx := 98) dX11_season_96 rfl rfl (Nat.le_of_ble_eq_true rfl) ?_
    obtain ⟨m0, hm0, e2⟩ := fSe_nI t_44
    unfold snA
    rw [← e1, show sF g_80 58 7 seed = g_89 from hg_89.symm, show m.toNatClampNeg = m0 from by rw [e2, nI_clamp (by omega)]]
    obtain ⟨p, hp⟩ : ∃ p, p = snR q2 G T (bk_rr g 20 n) what m0 0 g_89 := ⟨_, rfl⟩
    rw [← hp, e2]
    exact lp_season q2 G T m0 hm0 hC.2.2.1 j b seed what _ _ m0 0 0 g_89 p (by omega) (by rw [hg_89]; exact hL1.f58 _ _) (by rw [hg_89]; exact (k1.book 13 (by decide)).trans hC.2.1) hp
  · refine J_iload_n (nx := 23) dX11_season_22 rfl rfl ?_
    refine J_iconst (nx := 24) (i := 1) (v := 1) (by decide) dX11_season_23 rfl ?_
    refine J_icmp_lt (nx := 27) (tgt := 43) dX11_season_24 rfl (by decide) (fun c_24 => ?_) (fun c_24 => ?_)
    · refine J_iconst (nx := 44) (i := 0) (v := 0) (by decide) dX11_season_43 rfl ?_
      refine J.topi (bI (fSe j b m (bk_rr g 20 n))) (by unfold fSe; first | (rw [bI_0.mp c_19]; rfl) | (rw [bI_n0.mp c_19, if_pos c_24]; rfl) | (rw [bI_n0.mp c_19, if_neg c_24, if_pos c_31]; rfl) | (rw [bI_n0.mp c_19, if_neg c_24, if_neg c_31, if_pos c_36]; rfl) | (rw [bI_n0.mp c_19, if_neg c_24, if_neg c_31, if_neg c_36]; rfl)) ?_
      refine JtKS1 (R' := rm (0) 1 6) (nx := 47) dX11_season_44 rfl ml_X11_requireNumber lk_X11_83 st_X11_requireNumber ⟨(Nat.le_of_ble_eq_true rfl), (Nat.le_of_ble_eq_true rfl)⟩ (Nat.le_of_ble_eq_true rfl) ⟨rfl, rfl⟩ ⟨(Nat.le_of_ble_eq_true rfl), (Nat.le_of_ble_eq_true rfl)⟩ (ct_requireNumber _ (fSe j b m (bk_rr g 20 n))) (fun t_44 => ?_)
      refine J_iload (nx := 49) dX11_season_47 rfl rfl ?_
      refine J_iconst (nx := 50) (i := 4) (v := 4) (by decide) dX11_season_49 rfl ?_
      refine JtKS2 (R' := rm (1) 1 6) (nx := 53) dX11_season_50 rfl ml_X11_requireWhat lk_X11_136 st_X11_requireWhat ⟨(Nat.le_of_ble_eq_true rfl), (Nat.le_of_ble_eq_true rfl)⟩ (Nat.le_of_ble_eq_true rfl) ⟨rfl, rfl⟩ ⟨(Nat.le_of_ble_eq_true rfl), (Nat.le_of_ble_eq_true rfl)⟩ (ct_requireWhat _ _ _) (fun t_50 => ?_)
      skip
      refine J_aload_n (nx := 54) dX11_season_53 rfl rfl ?_
      refine Jg_0_5 (nx := 57) dX11_season_54 rfl fl_X11_40 ?_
      refine J_aload_n (nx := 58) dX11_season_57 rfl rfl ?_
      refine Jg_0_2 (nx := 61) dX11_season_58 rfl fl_X11_28 ?_
      refine Jg_20_14 (nx := 64) dX11_season_61 rfl fl_X11_161 ?_
      refine J_aload_n (nx := 65) dX11_season_64 rfl rfl ?_
      refine Jg_0_2 (nx := 68) dX11_season_65 rfl fl_X11_28 ?_
      refine Jg_20_13 (nx := 71) dX11_season_68 rfl fl_X11_173 ?_
      rw [hC.2.1]
      refine JcKV2 (R' := rm (4) 0 0) (nx := 74) dX11_season_71 rfl ml_X0_open lk_X11_188 iv_X0_open rfl rfl ⟨(Nat.le_of_ble_eq_true rfl), (Nat.le_of_ble_eq_true rfl)⟩ (Nat.le_of_ble_eq_true rfl) ⟨rfl, rfl⟩ ⟨(Nat.le_of_ble_eq_true rfl), (Nat.le_of_ble_eq_true rfl)⟩ (ct_open g _ T q hC.1 (by have := hC.2.2.1; omega)) ?_
      refine J.gen (fun g_71 hg_71 => ?_)
      refine J_aload_n (nx := 75) dX11_season_74 rfl rfl ?_
      refine Jg_0_5 (nx := 78) dX11_season_75 rfl fl_X11_40 ?_
      refine J_iload_n (nx := 79) dX11_season_78 rfl rfl ?_
      refine J_iload_n (nx := 80) dX11_season_79 rfl rfl ?_
      refine JcKV2 (R' := rm (0) 0 0) (nx := 83) dX11_season_80 rfl ml_X0_seat lk_X11_222 iv_X0_seat rfl rfl ⟨(Nat.le_of_ble_eq_true rfl), (Nat.le_of_ble_eq_true rfl)⟩ (Nat.le_of_ble_eq_true rfl) ⟨rfl, rfl⟩ ⟨(Nat.le_of_ble_eq_true rfl), (Nat.le_of_ble_eq_true rfl)⟩ (ct_seat _ _ _) ?_
      refine J.gen (fun g_80 hg_80 => ?_)
      have e1 : g_80 = seG g j b q T := by rw [hg_80, hg_71]; rfl
      have hL1 : LayOK g_80 q2 G := by rw [e1]; exact se_L hC (hJ t_2)
      have k1 : KF g g_80 := by rw [e1]; exact kf_se Fr.rf _ _ _ _
      refine J_aload_n (nx := 84) dX11_season_83 rfl rfl ?_
      refine Jg_0_7 (nx := 87) dX11_season_84 rfl fl_X11_56 ?_
      refine J_iload (nx := 89) dX11_season_87 rfl rfl ?_
      refine Jp_58_7 (nx := 92) dX11_season_89 rfl fl_X11_289 ?_
      refine J.gen (fun g_89 hg_89 => ?_)
      refine J_iconst (nx := 93) (i := 0) (v := 0) (by decide) dX11_season_92 rfl ?_
      refine J_istore (nx := 95) dX11_season_93 rfl rfl (Nat.le_of_ble_eq_true rfl) ?_
      refine J_iconst (nx := 96) (i := 0) (v := 0) (by decide) dX11_season_95 rfl ?_
      refine J_istore (nx := 98) dX11_season_96 rfl rfl (Nat.le_of_ble_eq_true rfl) ?_
      obtain ⟨m0, hm0, e2⟩ := fSe_nI t_44
      unfold snA
      rw [← e1, show sF g_80 58 7 seed = g_89 from hg_89.symm, show m.toNatClampNeg = m0 from by rw [e2, nI_clamp (by omega)]]
      obtain ⟨p, hp⟩ : ∃ p, p = snR q2 G T (bk_rr g 20 n) what m0 0 g_89 := ⟨_, rfl⟩
      rw [← hp, e2]
      exact lp_season q2 G T m0 hm0 hC.2.2.1 j b seed what _ _ m0 0 0 g_89 p (by omega) (by rw [hg_89]; exact hL1.f58 _ _) (by rw [hg_89]; exact (k1.book 13 (by decide)).trans hC.2.1) hp
    · refine J_iload_n (nx := 28) dX11_season_27 rfl rfl ?_
      refine J_sipush (nx := 31) (i := 200) (v := 200) (by decide) dX11_season_28 rfl ?_
      refine J_icmp_gt (nx := 34) (tgt := 43) dX11_season_31 rfl (by decide) (fun c_31 => ?_) (fun c_31 => ?_)
      · refine J_iconst (nx := 44) (i := 0) (v := 0) (by decide) dX11_season_43 rfl ?_
        refine J.topi (bI (fSe j b m (bk_rr g 20 n))) (by unfold fSe; first | (rw [bI_0.mp c_19]; rfl) | (rw [bI_n0.mp c_19, if_pos c_24]; rfl) | (rw [bI_n0.mp c_19, if_neg c_24, if_pos c_31]; rfl) | (rw [bI_n0.mp c_19, if_neg c_24, if_neg c_31, if_pos c_36]; rfl) | (rw [bI_n0.mp c_19, if_neg c_24, if_neg c_31, if_neg c_36]; rfl)) ?_
        refine JtKS1 (R' := rm (0) 1 6) (nx := 47) dX11_season_44 rfl ml_X11_requireNumber lk_X11_83 st_X11_requireNumber ⟨(Nat.le_of_ble_eq_true rfl), (Nat.le_of_ble_eq_true rfl)⟩ (Nat.le_of_ble_eq_true rfl) ⟨rfl, rfl⟩ ⟨(Nat.le_of_ble_eq_true rfl), (Nat.le_of_ble_eq_true rfl)⟩ (ct_requireNumber _ (fSe j b m (bk_rr g 20 n))) (fun t_44 => ?_)
        refine J_iload (nx := 49) dX11_season_47 rfl rfl ?_
        refine J_iconst (nx := 50) (i := 4) (v := 4) (by decide) dX11_season_49 rfl ?_
        refine JtKS2 (R' := rm (1) 1 6) (nx := 53) dX11_season_50 rfl ml_X11_requireWhat lk_X11_136 st_X11_requireWhat ⟨(Nat.le_of_ble_eq_true rfl), (Nat.le_of_ble_eq_true rfl)⟩ (Nat.le_of_ble_eq_true rfl) ⟨rfl, rfl⟩ ⟨(Nat.le_of_ble_eq_true rfl), (Nat.le_of_ble_eq_true rfl)⟩ (ct_requireWhat _ _ _) (fun t_50 => ?_)
        skip
        refine J_aload_n (nx := 54) dX11_season_53 rfl rfl ?_
        refine Jg_0_5 (nx := 57) dX11_season_54 rfl fl_X11_40 ?_
        refine J_aload_n (nx := 58) dX11_season_57 rfl rfl ?_
        refine Jg_0_2 (nx := 61) dX11_season_58 rfl fl_X11_28 ?_
        refine Jg_20_14 (nx := 64) dX11_season_61 rfl fl_X11_161 ?_
        refine J_aload_n (nx := 65) dX11_season_64 rfl rfl ?_
        refine Jg_0_2 (nx := 68) dX11_season_65 rfl fl_X11_28 ?_
        refine Jg_20_13 (nx := 71) dX11_season_68 rfl fl_X11_173 ?_
        rw [hC.2.1]
        refine JcKV2 (R' := rm (4) 0 0) (nx := 74) dX11_season_71 rfl ml_X0_open lk_X11_188 iv_X0_open rfl rfl ⟨(Nat.le_of_ble_eq_true rfl), (Nat.le_of_ble_eq_true rfl)⟩ (Nat.le_of_ble_eq_true rfl) ⟨rfl, rfl⟩ ⟨(Nat.le_of_ble_eq_true rfl), (Nat.le_of_ble_eq_true rfl)⟩ (ct_open g _ T q hC.1 (by have := hC.2.2.1; omega)) ?_
        refine J.gen (fun g_71 hg_71 => ?_)
        refine J_aload_n (nx := 75) dX11_season_74 rfl rfl ?_
        refine Jg_0_5 (nx := 78) dX11_season_75 rfl fl_X11_40 ?_
        refine J_iload_n (nx := 79) dX11_season_78 rfl rfl ?_
        refine J_iload_n (nx := 80) dX11_season_79 rfl rfl ?_
        refine JcKV2 (R' := rm (0) 0 0) (nx := 83) dX11_season_80 rfl ml_X0_seat lk_X11_222 iv_X0_seat rfl rfl ⟨(Nat.le_of_ble_eq_true rfl), (Nat.le_of_ble_eq_true rfl)⟩ (Nat.le_of_ble_eq_true rfl) ⟨rfl, rfl⟩ ⟨(Nat.le_of_ble_eq_true rfl), (Nat.le_of_ble_eq_true rfl)⟩ (ct_seat _ _ _) ?_
        refine J.gen (fun g_80 hg_80 => ?_)
        have e1 : g_80 = seG g j b q T := by rw [hg_80, hg_71]; rfl
        have hL1 : LayOK g_80 q2 G := by rw [e1]; exact se_L hC (hJ t_2)
        have k1 : KF g g_80 := by rw [e1]; exact kf_se Fr.rf _ _ _ _
        refine J_aload_n (nx := 84) dX11_season_83 rfl rfl ?_
        refine Jg_0_7 (nx := 87) dX11_season_84 rfl fl_X11_56 ?_
        refine J_iload (nx := 89) dX11_season_87 rfl rfl ?_
        refine Jp_58_7 (nx := 92) dX11_season_89 rfl fl_X11_289 ?_
        refine J.gen (fun g_89 hg_89 => ?_)
        refine J_iconst (nx := 93) (i := 0) (v := 0) (by decide) dX11_season_92 rfl ?_
        refine J_istore (nx := 95) dX11_season_93 rfl rfl (Nat.le_of_ble_eq_true rfl) ?_
        refine J_iconst (nx := 96) (i := 0) (v := 0) (by decide) dX11_season_95 rfl ?_
        refine J_istore (nx := 98) dX11_season_96 rfl rfl (Nat.le_of_ble_eq_true rfl) ?_
        obtain ⟨m0, hm0, e2⟩ := fSe_nI t_44
        unfold snA
        rw [← e1, show sF g_80 58 7 seed = g_89 from hg_89.symm, show m.toNatClampNeg = m0 from by rw [e2, nI_clamp (by omega)]]
        obtain ⟨p, hp⟩ : ∃ p, p = snR q2 G T (bk_rr g 20 n) what m0 0 g_89 := ⟨_, rfl⟩
        rw [← hp, e2]
        exact lp_season q2 G T m0 hm0 hC.2.2.1 j b seed what _ _ m0 0 0 g_89 p (by omega) (by rw [hg_89]; exact hL1.f58 _ _) (by rw [hg_89]; exact (k1.book 13 (by decide)).trans hC.2.1) hp
      · refine J_iload (nx := 36) dX11_season_34 rfl rfl ?_
        refine J_if_le (nx := 39) (tgt := 43) dX11_season_36 rfl (by decide) (fun c_36 => ?_) (fun c_36 => ?_)
        · refine J_iconst (nx := 44) (i := 0) (v := 0) (by decide) dX11_season_43 rfl ?_
          refine J.topi (bI (fSe j b m (bk_rr g 20 n))) (by unfold fSe; first | (rw [bI_0.mp c_19]; rfl) | (rw [bI_n0.mp c_19, if_pos c_24]; rfl) | (rw [bI_n0.mp c_19, if_neg c_24, if_pos c_31]; rfl) | (rw [bI_n0.mp c_19, if_neg c_24, if_neg c_31, if_pos c_36]; rfl) | (rw [bI_n0.mp c_19, if_neg c_24, if_neg c_31, if_neg c_36]; rfl)) ?_
          refine JtKS1 (R' := rm (0) 1 6) (nx := 47) dX11_season_44 rfl ml_X11_requireNumber lk_X11_83 st_X11_requireNumber ⟨(Nat.le_of_ble_eq_true rfl), (Nat.le_of_ble_eq_true rfl)⟩ (Nat.le_of_ble_eq_true rfl) ⟨rfl, rfl⟩ ⟨(Nat.le_of_ble_eq_true rfl), (Nat.le_of_ble_eq_true rfl)⟩ (ct_requireNumber _ (fSe j b m (bk_rr g 20 n))) (fun t_44 => ?_)
          refine J_iload (nx := 49) dX11_season_47 rfl rfl ?_
          refine J_iconst (nx := 50) (i := 4) (v := 4) (by decide) dX11_season_49 rfl ?_
          refine JtKS2 (R' := rm (1) 1 6) (nx := 53) dX11_season_50 rfl ml_X11_requireWhat lk_X11_136 st_X11_requireWhat ⟨(Nat.le_of_ble_eq_true rfl), (Nat.le_of_ble_eq_true rfl)⟩ (Nat.le_of_ble_eq_true rfl) ⟨rfl, rfl⟩ ⟨(Nat.le_of_ble_eq_true rfl), (Nat.le_of_ble_eq_true rfl)⟩ (ct_requireWhat _ _ _) (fun t_50 => ?_)
          skip
          refine J_aload_n (nx := 54) dX11_season_53 rfl rfl ?_
          refine Jg_0_5 (nx := 57) dX11_season_54 rfl fl_X11_40 ?_
          refine J_aload_n (nx := 58) dX11_season_57 rfl rfl ?_
          refine Jg_0_2 (nx := 61) dX11_season_58 rfl fl_X11_28 ?_
          refine Jg_20_14 (nx := 64) dX11_season_61 rfl fl_X11_161 ?_
          refine J_aload_n (nx := 65) dX11_season_64 rfl rfl ?_
          refine Jg_0_2 (nx := 68) dX11_season_65 rfl fl_X11_28 ?_
          refine Jg_20_13 (nx := 71) dX11_season_68 rfl fl_X11_173 ?_
          rw [hC.2.1]
          refine JcKV2 (R' := rm (4) 0 0) (nx := 74) dX11_season_71 rfl ml_X0_open lk_X11_188 iv_X0_open rfl rfl ⟨(Nat.le_of_ble_eq_true rfl), (Nat.le_of_ble_eq_true rfl)⟩ (Nat.le_of_ble_eq_true rfl) ⟨rfl, rfl⟩ ⟨(Nat.le_of_ble_eq_true rfl), (Nat.le_of_ble_eq_true rfl)⟩ (ct_open g _ T q hC.1 (by have := hC.2.2.1; omega)) ?_
          refine J.gen (fun g_71 hg_71 => ?_)
          refine J_aload_n (nx := 75) dX11_season_74 rfl rfl ?_
          refine Jg_0_5 (nx := 78) dX11_season_75 rfl fl_X11_40 ?_
          refine J_iload_n (nx := 79) dX11_season_78 rfl rfl ?_
          refine J_iload_n (nx := 80) dX11_season_79 rfl rfl ?_
          refine JcKV2 (R' := rm (0) 0 0) (nx := 83) dX11_season_80 rfl ml_X0_seat lk_X11_222 iv_X0_seat rfl rfl ⟨(Nat.le_of_ble_eq_true rfl), (Nat.le_of_ble_eq_true rfl)⟩ (Nat.le_of_ble_eq_true rfl) ⟨rfl, rfl⟩ ⟨(Nat.le_of_ble_eq_true rfl), (Nat.le_of_ble_eq_true rfl)⟩ (ct_seat _ _ _) ?_
          refine J.gen (fun g_80 hg_80 => ?_)
          have e1 : g_80 = seG g j b q T := by rw [hg_80, hg_71]; rfl
          have hL1 : LayOK g_80 q2 G := by rw [e1]; exact se_L hC (hJ t_2)
          have k1 : KF g g_80 := by rw [e1]; exact kf_se Fr.rf _ _ _ _
          refine J_aload_n (nx := 84) dX11_season_83 rfl rfl ?_
          refine Jg_0_7 (nx := 87) dX11_season_84 rfl fl_X11_56 ?_
          refine J_iload (nx := 89) dX11_season_87 rfl rfl ?_
          refine Jp_58_7 (nx := 92) dX11_season_89 rfl fl_X11_289 ?_
          refine J.gen (fun g_89 hg_89 => ?_)
          refine J_iconst (nx := 93) (i := 0) (v := 0) (by decide) dX11_season_92 rfl ?_
          refine J_istore (nx := 95) dX11_season_93 rfl rfl (Nat.le_of_ble_eq_true rfl) ?_
          refine J_iconst (nx := 96) (i := 0) (v := 0) (by decide) dX11_season_95 rfl ?_
          refine J_istore (nx := 98) dX11_season_96 rfl rfl (Nat.le_of_ble_eq_true rfl) ?_
          obtain ⟨m0, hm0, e2⟩ := fSe_nI t_44
          unfold snA
          rw [← e1, show sF g_80 58 7 seed = g_89 from hg_89.symm, show m.toNatClampNeg = m0 from by rw [e2, nI_clamp (by omega)]]
          obtain ⟨p, hp⟩ : ∃ p, p = snR q2 G T (bk_rr g 20 n) what m0 0 g_89 := ⟨_, rfl⟩
          rw [← hp, e2]
          exact lp_season q2 G T m0 hm0 hC.2.2.1 j b seed what _ _ m0 0 0 g_89 p (by omega) (by rw [hg_89]; exact hL1.f58 _ _) (by rw [hg_89]; exact (k1.book 13 (by decide)).trans hC.2.1) hp
        · refine J_iconst (nx := 40) (i := 1) (v := 1) (by decide) dX11_season_39 rfl ?_
          refine J_goto (nx := 44) dX11_season_40 (by decide) ?_
          refine J.topi (bI (fSe j b m (bk_rr g 20 n))) (by unfold fSe; first | (rw [bI_0.mp c_19]; rfl) | (rw [bI_n0.mp c_19, if_pos c_24]; rfl) | (rw [bI_n0.mp c_19, if_neg c_24, if_pos c_31]; rfl) | (rw [bI_n0.mp c_19, if_neg c_24, if_neg c_31, if_pos c_36]; rfl) | (rw [bI_n0.mp c_19, if_neg c_24, if_neg c_31, if_neg c_36]; rfl)) ?_
          refine JtKS1 (R' := rm (0) 1 6) (nx := 47) dX11_season_44 rfl ml_X11_requireNumber lk_X11_83 st_X11_requireNumber ⟨(Nat.le_of_ble_eq_true rfl), (Nat.le_of_ble_eq_true rfl)⟩ (Nat.le_of_ble_eq_true rfl) ⟨rfl, rfl⟩ ⟨(Nat.le_of_ble_eq_true rfl), (Nat.le_of_ble_eq_true rfl)⟩ (ct_requireNumber _ (fSe j b m (bk_rr g 20 n))) (fun t_44 => ?_)
          refine J_iload (nx := 49) dX11_season_47 rfl rfl ?_
          refine J_iconst (nx := 50) (i := 4) (v := 4) (by decide) dX11_season_49 rfl ?_
          refine JtKS2 (R' := rm (1) 1 6) (nx := 53) dX11_season_50 rfl ml_X11_requireWhat lk_X11_136 st_X11_requireWhat ⟨(Nat.le_of_ble_eq_true rfl), (Nat.le_of_ble_eq_true rfl)⟩ (Nat.le_of_ble_eq_true rfl) ⟨rfl, rfl⟩ ⟨(Nat.le_of_ble_eq_true rfl), (Nat.le_of_ble_eq_true rfl)⟩ (ct_requireWhat _ _ _) (fun t_50 => ?_)
          skip
          refine J_aload_n (nx := 54) dX11_season_53 rfl rfl ?_
          refine Jg_0_5 (nx := 57) dX11_season_54 rfl fl_X11_40 ?_
          refine J_aload_n (nx := 58) dX11_season_57 rfl rfl ?_
          refine Jg_0_2 (nx := 61) dX11_season_58 rfl fl_X11_28 ?_
          refine Jg_20_14 (nx := 64) dX11_season_61 rfl fl_X11_161 ?_
          refine J_aload_n (nx := 65) dX11_season_64 rfl rfl ?_
          refine Jg_0_2 (nx := 68) dX11_season_65 rfl fl_X11_28 ?_
          refine Jg_20_13 (nx := 71) dX11_season_68 rfl fl_X11_173 ?_
          rw [hC.2.1]
          refine JcKV2 (R' := rm (4) 0 0) (nx := 74) dX11_season_71 rfl ml_X0_open lk_X11_188 iv_X0_open rfl rfl ⟨(Nat.le_of_ble_eq_true rfl), (Nat.le_of_ble_eq_true rfl)⟩ (Nat.le_of_ble_eq_true rfl) ⟨rfl, rfl⟩ ⟨(Nat.le_of_ble_eq_true rfl), (Nat.le_of_ble_eq_true rfl)⟩ (ct_open g _ T q hC.1 (by have := hC.2.2.1; omega)) ?_
          refine J.gen (fun g_71 hg_71 => ?_)
          refine J_aload_n (nx := 75) dX11_season_74 rfl rfl ?_
          refine Jg_0_5 (nx := 78) dX11_season_75 rfl fl_X11_40 ?_
          refine J_iload_n (nx := 79) dX11_season_78 rfl rfl ?_
          refine J_iload_n (nx := 80) dX11_season_79 rfl rfl ?_
          refine JcKV2 (R' := rm (0) 0 0) (nx := 83) dX11_season_80 rfl ml_X0_seat lk_X11_222 iv_X0_seat rfl rfl ⟨(Nat.le_of_ble_eq_true rfl), (Nat.le_of_ble_eq_true rfl)⟩ (Nat.le_of_ble_eq_true rfl) ⟨rfl, rfl⟩ ⟨(Nat.le_of_ble_eq_true rfl), (Nat.le_of_ble_eq_true rfl)⟩ (ct_seat _ _ _) ?_
          refine J.gen (fun g_80 hg_80 => ?_)
          have e1 : g_80 = seG g j b q T := by rw [hg_80, hg_71]; rfl
          have hL1 : LayOK g_80 q2 G := by rw [e1]; exact se_L hC (hJ t_2)
          have k1 : KF g g_80 := by rw [e1]; exact kf_se Fr.rf _ _ _ _
          refine J_aload_n (nx := 84) dX11_season_83 rfl rfl ?_
          refine Jg_0_7 (nx := 87) dX11_season_84 rfl fl_X11_56 ?_
          refine J_iload (nx := 89) dX11_season_87 rfl rfl ?_
          refine Jp_58_7 (nx := 92) dX11_season_89 rfl fl_X11_289 ?_
          refine J.gen (fun g_89 hg_89 => ?_)
          refine J_iconst (nx := 93) (i := 0) (v := 0) (by decide) dX11_season_92 rfl ?_
          refine J_istore (nx := 95) dX11_season_93 rfl rfl (Nat.le_of_ble_eq_true rfl) ?_
          refine J_iconst (nx := 96) (i := 0) (v := 0) (by decide) dX11_season_95 rfl ?_
          refine J_istore (nx := 98) dX11_season_96 rfl rfl (Nat.le_of_ble_eq_true rfl) ?_
          obtain ⟨m0, hm0, e2⟩ := fSe_nI t_44
          unfold snA
          rw [← e1, show sF g_80 58 7 seed = g_89 from hg_89.symm, show m.toNatClampNeg = m0 from by rw [e2, nI_clamp (by omega)]]
          obtain ⟨p, hp⟩ : ∃ p, p = snR q2 G T (bk_rr g 20 n) what m0 0 g_89 := ⟨_, rfl⟩
          rw [← hp, e2]
          exact lp_season q2 G T m0 hm0 hC.2.2.1 j b seed what _ _ m0 0 0 g_89 p (by omega) (by rw [hg_89]; exact hL1.f58 _ _) (by rw [hg_89]; exact (k1.book 13 (by decide)).trans hC.2.1) hp

set_option maxRecDepth 100000 in
set_option maxHeartbeats 4000000 in
theorem ct_image (g : GS) (c : Nat) (hR : RowOK g 29) (hV : gV g 20 7 = .ref c) (hB : narrow .boolean (.int (gF g 20 8)) = .int (gF g 20 8)) (hB2 : fits .boolean (.int (gF g 20 8)) = true) : Ct mX11_image (rm 2 0 0) [.ref 0] (Wd g) (RR (.inl none) (sF (bkC 20 30 g) 0 4 1)) := by
  refine Ct.of (by decide +kernel) (Nat.le_of_ble_eq_true rfl) ?_
  show J _ _ _ _ 0 [some (.ref 0)] [] _ 0 0
  refine J_aload_n (nx := 1) dX11_image_0 rfl rfl ?_
  refine Jg_0_3 (nx := 4) dX11_image_1 rfl fl_X11_32 ?_
  refine J_aload_n (nx := 5) dX11_image_4 rfl rfl ?_
  refine Jg_0_2 (nx := 8) dX11_image_5 rfl fl_X11_28 ?_
  refine JcV1 (R' := rm (1) 0 0) (nx := 11) dX11_image_8 rfl ml_X1_copy lk_X11_96 iv_X1_copy rfl rfl ⟨(Nat.le_of_ble_eq_true rfl), (Nat.le_of_ble_eq_true rfl)⟩ (Nat.le_of_ble_eq_true rfl) ⟨rfl, rfl⟩ (ct_copy_30_20 g c hR hV hB hB2) ?_
  refine J_aload_n (nx := 12) dX11_image_11 rfl rfl ?_
  refine J_iconst (nx := 13) (i := 1) (v := 1) (by decide) dX11_image_12 rfl ?_
  refine Jp_0_4 (nx := 16) dX11_image_13 rfl fl_X11_346 (by decide) (by decide) ?_
  exact Jrv dX11_image_16 rfl (Nat.zero_le _) (Nat.zero_le _) ⟨rfl, rfl⟩

set_option maxRecDepth 100000 in
set_option maxHeartbeats 4000000 in
theorem ct_back (g : GS) (c : Nat) (hR : RowOK g 39) (hV : gV g 30 7 = .ref c) (hB : narrow .boolean (.int (gF g 30 8)) = .int (gF g 30 8)) (hB2 : fits .boolean (.int (gF g 30 8)) = true) : Ct mX11_back (rm 2 0 0) [.ref 0] (Wd g) (RR (.inl (some (.int (if gF g 0 4 = 0 then 0 else 1)))) (if gF g 0 4 = 0 then g else bkC 30 20 g)) := by
  refine Ct.of (by decide +kernel) (Nat.le_of_ble_eq_true rfl) ?_
  show J _ _ _ _ 0 [some (.ref 0)] [] _ 0 0
  refine J_aload_n (nx := 1) dX11_back_0 rfl rfl ?_
  refine Jg_0_4 (nx := 4) dX11_back_1 rfl fl_X11_346 ?_
  refine J_if_ne (nx := 7) (tgt := 9) dX11_back_4 rfl (by decide) (fun c_4 => ?_) (fun c_4 => ?_)
  · refine J_aload_n (nx := 10) dX11_back_9 rfl rfl ?_
    refine Jg_0_2 (nx := 13) dX11_back_10 rfl fl_X11_28 ?_
    refine J_aload_n (nx := 14) dX11_back_13 rfl rfl ?_
    refine Jg_0_3 (nx := 17) dX11_back_14 rfl fl_X11_32 ?_
    refine JcV1 (R' := rm (1) 0 0) (nx := 20) dX11_back_17 rfl ml_X1_copy lk_X11_96 iv_X1_copy rfl rfl ⟨(Nat.le_of_ble_eq_true rfl), (Nat.le_of_ble_eq_true rfl)⟩ (Nat.le_of_ble_eq_true rfl) ⟨rfl, rfl⟩ (ct_copy_20_30 g c hR hV hB hB2) ?_
    refine J_iconst (nx := 21) (i := 1) (v := 1) (by decide) dX11_back_20 rfl ?_
    exact Jrz dX11_back_21 rfl (by decide) (Nat.zero_le _) (Nat.zero_le _) ⟨by rw [if_neg c_4], by rw [if_neg c_4]⟩
  · refine J_iconst (nx := 8) (i := 0) (v := 0) (by decide) dX11_back_7 rfl ?_
    exact Jrz dX11_back_8 rfl (by decide) (Nat.zero_le _) (Nat.zero_le _) ⟨by rw [if_pos c_4], by rw [if_pos c_4]⟩


def coV (g : GS) (x l : Int32) (n : Nat) : Int32 :=
  if x = 0 then gF g 20 9 else if x = 1 then l else if x = 2 then gF g 20 10 else if x = 3 then gF g 20 11 else if x = 4 then gF g 20 12 else if x = 5 then gF g 20 13 else if x = 6 then gF g 20 14 else if x = 7 then gF g 20 15 else if x = 8 then bk_lv g 20 32 else if x = 9 then bk_rr g 20 n else -1
set_option maxRecDepth 100000 in
set_option maxHeartbeats 4000000 in
theorem ct_count (g : GS) (x l : Int32) (r1 r2 : Value) (c n : Nat) (hV : gV g 20 7 = .ref c) (hc : (Wd g)[c]? = some (.inr (2, [.int l, r1, r2]))) (hN : gF g 20 11 = nI n) (hn : n ≤ 6) : Ct mX11_count (rm 4 0 0) [.ref 0, .int x] (Wd g) (RR (.inl (some (.int (coV g x l n)))) g) := by
  refine Ct.of (by decide +kernel) (Nat.le_of_ble_eq_true rfl) ?_
  show J _ _ _ _ 0 [some (.ref 0), some (.int x)] [] _ 0 0
  refine J_iload_n (nx := 1) dX11_count_0 rfl rfl ?_
  by_cases s_1_0 : x = 0
  · refine J_tabIn (nx := 0) (tgt := 56) (off := 55) dX11_count_1 (by rw [s_1_0]; decide) (by rw [s_1_0]; decide) (by rw [s_1_0]; rfl) (by decide) ?_
    refine J_aload_n (nx := 57) dX11_count_56 rfl rfl ?_
    refine Jg_0_2 (nx := 60) dX11_count_57 rfl fl_X11_28 ?_
    refine Jg_20_9 (nx := 63) dX11_count_60 rfl fl_X11_87 ?_
    exact Jri dX11_count_63 rfl (Nat.zero_le _) (Nat.zero_le _) (RR.i (by unfold coV; rw [if_pos s_1_0]) rfl)
  by_cases s_1_1 : x = 1
  · refine J_tabIn (nx := 0) (tgt := 64) (off := 63) dX11_count_1 (by rw [s_1_1]; decide) (by rw [s_1_1]; decide) (by rw [s_1_1]; rfl) (by decide) ?_
    refine J_aload_n (nx := 65) dX11_count_64 rfl rfl ?_
    refine Jg_0_2 (nx := 68) dX11_count_65 rfl fl_X11_28 ?_
    refine Jg_20_7 (nx := 71) dX11_count_68 rfl fl_X11_107 ?_
    rw [hV]
    refine J_get (nx := 74) dX11_count_71 rfl fl_X11_115 hc rfl ?_
    exact Jri dX11_count_74 rfl (Nat.zero_le _) (Nat.zero_le _) (RR.i (by unfold coV; rw [if_neg s_1_0, if_pos s_1_1]) rfl)
  by_cases s_1_2 : x = 2
  · refine J_tabIn (nx := 0) (tgt := 75) (off := 74) dX11_count_1 (by rw [s_1_2]; decide) (by rw [s_1_2]; decide) (by rw [s_1_2]; rfl) (by decide) ?_
    refine J_aload_n (nx := 76) dX11_count_75 rfl rfl ?_
    refine Jg_0_2 (nx := 79) dX11_count_76 rfl fl_X11_28 ?_
    refine Jg_20_10 (nx := 82) dX11_count_79 rfl fl_X11_120 ?_
    exact Jri dX11_count_82 rfl (Nat.zero_le _) (Nat.zero_le _) (RR.i (by unfold coV; rw [if_neg s_1_0, if_neg s_1_1, if_pos s_1_2]) rfl)
  by_cases s_1_3 : x = 3
  · refine J_tabIn (nx := 0) (tgt := 83) (off := 82) dX11_count_1 (by rw [s_1_3]; decide) (by rw [s_1_3]; decide) (by rw [s_1_3]; rfl) (by decide) ?_
    refine J_aload_n (nx := 84) dX11_count_83 rfl rfl ?_
    refine Jg_0_2 (nx := 87) dX11_count_84 rfl fl_X11_28 ?_
    refine Jg_20_11 (nx := 90) dX11_count_87 rfl fl_X11_179 ?_
    exact Jri dX11_count_90 rfl (Nat.zero_le _) (Nat.zero_le _) (RR.i (by unfold coV; rw [if_neg s_1_0, if_neg s_1_1, if_neg s_1_2, if_pos s_1_3]) rfl)
  by_cases s_1_4 : x = 4
  · refine J_tabIn (nx := 0) (tgt := 91) (off := 90) dX11_count_1 (by rw [s_1_4]; decide) (by rw [s_1_4]; decide) (by rw [s_1_4]; rfl) (by decide) ?_
    refine J_aload_n (nx := 92) dX11_count_91 rfl rfl ?_
    refine Jg_0_2 (nx := 95) dX11_count_92 rfl fl_X11_28 ?_
    refine Jg_20_12 (nx := 98) dX11_count_95 rfl fl_X11_176 ?_
    exact Jri dX11_count_98 rfl (Nat.zero_le _) (Nat.zero_le _) (RR.i (by unfold coV; rw [if_neg s_1_0, if_neg s_1_1, if_neg s_1_2, if_neg s_1_3, if_pos s_1_4]) rfl)
  by_cases s_1_5 : x = 5
  · refine J_tabIn (nx := 0) (tgt := 99) (off := 98) dX11_count_1 (by rw [s_1_5]; decide) (by rw [s_1_5]; decide) (by rw [s_1_5]; rfl) (by decide) ?_
    refine J_aload_n (nx := 100) dX11_count_99 rfl rfl ?_
    refine Jg_0_2 (nx := 103) dX11_count_100 rfl fl_X11_28 ?_
    refine Jg_20_13 (nx := 106) dX11_count_103 rfl fl_X11_173 ?_
    exact Jri dX11_count_106 rfl (Nat.zero_le _) (Nat.zero_le _) (RR.i (by unfold coV; rw [if_neg s_1_0, if_neg s_1_1, if_neg s_1_2, if_neg s_1_3, if_neg s_1_4, if_pos s_1_5]) rfl)
  by_cases s_1_6 : x = 6
  · refine J_tabIn (nx := 0) (tgt := 107) (off := 106) dX11_count_1 (by rw [s_1_6]; decide) (by rw [s_1_6]; decide) (by rw [s_1_6]; rfl) (by decide) ?_
    refine J_aload_n (nx := 108) dX11_count_107 rfl rfl ?_
    refine Jg_0_2 (nx := 111) dX11_count_108 rfl fl_X11_28 ?_
    refine Jg_20_14 (nx := 114) dX11_count_111 rfl fl_X11_161 ?_
    exact Jri dX11_count_114 rfl (Nat.zero_le _) (Nat.zero_le _) (RR.i (by unfold coV; rw [if_neg s_1_0, if_neg s_1_1, if_neg s_1_2, if_neg s_1_3, if_neg s_1_4, if_neg s_1_5, if_pos s_1_6]) rfl)
  by_cases s_1_7 : x = 7
  · refine J_tabIn (nx := 0) (tgt := 115) (off := 114) dX11_count_1 (by rw [s_1_7]; decide) (by rw [s_1_7]; decide) (by rw [s_1_7]; rfl) (by decide) ?_
    refine J_aload_n (nx := 116) dX11_count_115 rfl rfl ?_
    refine Jg_0_2 (nx := 119) dX11_count_116 rfl fl_X11_28 ?_
    refine Jg_20_15 (nx := 122) dX11_count_119 rfl fl_X11_164 ?_
    exact Jri dX11_count_122 rfl (Nat.zero_le _) (Nat.zero_le _) (RR.i (by unfold coV; rw [if_neg s_1_0, if_neg s_1_1, if_neg s_1_2, if_neg s_1_3, if_neg s_1_4, if_neg s_1_5, if_neg s_1_6, if_pos s_1_7]) rfl)
  by_cases s_1_8 : x = 8
  · refine J_tabIn (nx := 0) (tgt := 123) (off := 122) dX11_count_1 (by rw [s_1_8]; decide) (by rw [s_1_8]; decide) (by rw [s_1_8]; rfl) (by decide) ?_
    refine J_aload_n (nx := 124) dX11_count_123 rfl rfl ?_
    refine Jg_0_2 (nx := 127) dX11_count_124 rfl fl_X11_28 ?_
    refine JcV0 (R' := rm (3) 0 0) (nx := 130) dX11_count_127 rfl ml_X1_livelyStates lk_X11_349 iv_X1_livelyStates rfl rfl ⟨(Nat.le_of_ble_eq_true rfl), (Nat.le_of_ble_eq_true rfl)⟩ (Nat.le_of_ble_eq_true rfl) ⟨rfl, rfl⟩ (ct_X1_livelyStates _) ?_
    exact Jri dX11_count_130 rfl (Nat.zero_le _) (Nat.zero_le _) (RR.i (by unfold coV; rw [if_neg s_1_0, if_neg s_1_1, if_neg s_1_2, if_neg s_1_3, if_neg s_1_4, if_neg s_1_5, if_neg s_1_6, if_neg s_1_7, if_pos s_1_8]) rfl)
  by_cases s_1_9 : x = 9
  · refine J_tabIn (nx := 0) (tgt := 131) (off := 130) dX11_count_1 (by rw [s_1_9]; decide) (by rw [s_1_9]; decide) (by rw [s_1_9]; rfl) (by decide) ?_
    refine J_aload_n (nx := 132) dX11_count_131 rfl rfl ?_
    refine Jg_0_2 (nx := 135) dX11_count_132 rfl fl_X11_28 ?_
    refine JcV0 (R' := rm (3) 0 0) (nx := 138) dX11_count_135 rfl ml_X1_ratesTogether lk_X11_337 iv_X1_ratesTogether rfl rfl ⟨(Nat.le_of_ble_eq_true rfl), (Nat.le_of_ble_eq_true rfl)⟩ (Nat.le_of_ble_eq_true rfl) ⟨rfl, rfl⟩ (ct_X1_ratesTogether g n hN hn) ?_
    exact Jri dX11_count_138 rfl (Nat.zero_le _) (Nat.zero_le _) (RR.i (by unfold coV; rw [if_neg s_1_0, if_neg s_1_1, if_neg s_1_2, if_neg s_1_3, if_neg s_1_4, if_neg s_1_5, if_neg s_1_6, if_neg s_1_7, if_neg s_1_8, if_pos s_1_9]) rfl)
  refine J_tabOut (nx := 0) (tgt := 139) dX11_count_1 (by have e0 : ¬ (x).toInt = 0 := fun z => s_1_0 (Int32.toInt_inj.mp (z.trans (by decide))); have e1 : ¬ (x).toInt = 1 := fun z => s_1_1 (Int32.toInt_inj.mp (z.trans (by decide))); have e2 : ¬ (x).toInt = 2 := fun z => s_1_2 (Int32.toInt_inj.mp (z.trans (by decide))); have e3 : ¬ (x).toInt = 3 := fun z => s_1_3 (Int32.toInt_inj.mp (z.trans (by decide))); have e4 : ¬ (x).toInt = 4 := fun z => s_1_4 (Int32.toInt_inj.mp (z.trans (by decide))); have e5 : ¬ (x).toInt = 5 := fun z => s_1_5 (Int32.toInt_inj.mp (z.trans (by decide))); have e6 : ¬ (x).toInt = 6 := fun z => s_1_6 (Int32.toInt_inj.mp (z.trans (by decide))); have e7 : ¬ (x).toInt = 7 := fun z => s_1_7 (Int32.toInt_inj.mp (z.trans (by decide))); have e8 : ¬ (x).toInt = 8 := fun z => s_1_8 (Int32.toInt_inj.mp (z.trans (by decide))); have e9 : ¬ (x).toInt = 9 := fun z => s_1_9 (Int32.toInt_inj.mp (z.trans (by decide))); omega) (by decide) ?_
  refine J_iconst (nx := 140) (i := -1) (v := -1) (by decide) dX11_count_139 rfl ?_
  exact Jri dX11_count_140 rfl (Nat.zero_le _) (Nat.zero_le _) (RR.i (by unfold coV; rw [if_neg s_1_0, if_neg s_1_1, if_neg s_1_2, if_neg s_1_3, if_neg s_1_4, if_neg s_1_5, if_neg s_1_6, if_neg s_1_7, if_neg s_1_8, if_neg s_1_9]) rfl)

