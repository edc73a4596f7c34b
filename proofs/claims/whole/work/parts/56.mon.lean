
/-! the Model: the facts' own values; letting on -/
theorem evA_congr {F F' : Nat → Int32} : ∀ (ps : List SP) (st : List Int32), (∀ p, p ∈ ps → p.1 < 8 → F p.1 = F' p.1) → evA F ps st = evA F' ps st := by
  intro ps
  induction ps with
  | nil => intro st _; rfl
  | cons p r ih =>
    intro st h
    show evA F r (evP F p st) = evA F' r (evP F' p st)
    have e : evP F p st = evP F' p st := by
      unfold evP
      rcases Nat.lt_or_ge p.1 8 with w | w
      · rw [h p (by simp) w]
      · rcases Nat.eq_or_lt_of_le w with w | w
        · rw [if_pos (show p.1 = 8 from w.symm), if_pos (show p.1 = 8 from w.symm)]
        · rw [if_neg (show ¬ p.1 ≤ 8 by omega), if_neg (show ¬ p.1 ≤ 8 by omega)]
    rw [e]
    exact ih _ (fun p hp => h p (by simp [hp]))
theorem txH_congr {F F' : Nat → Int32} {ps : List SP} (h : ∀ p, p ∈ ps → p.1 < 8 → F p.1 = F' p.1) : txH F ps = txH F' ps := by
  unfold txH; rw [evA_congr ps [] h]
theorem txDo_congr {F F' : Nat → Int32} : ∀ (ls : List TxL), (∀ l, l ∈ ls → ∀ p, p ∈ l.2.2.2 → p.1 < 8 → F p.1 = F' p.1) → txDo F ls = txDo F' ls := by
  intro ls
  induction ls with
  | nil => intro _; rfl
  | cons l r ih =>
    intro h
    show (if txH F l.2.2.2 = false then txDo F r else l.1) = (if txH F' l.2.2.2 = false then txDo F' r else l.1)
    rw [txH_congr (h l (by simp)), ih (fun l hl => h l (by simp [hl]))]
theorem mGS_congr {F F' : Nat → Int32} : ∀ (ls : List TxL) (a : Int64), (∀ l, l ∈ ls → (∀ p, p ∈ l.2.2.2 → p.1 < 8 → F p.1 = F' p.1) ∧ (0 ≤ l.2.2.1 → F l.2.2.1.toNatClampNeg = F' l.2.2.1.toNatClampNeg)) → mGS F ls a = mGS F' ls a := by
  intro ls
  induction ls with
  | nil => intro a _; rfl
  | cons l r ih =>
    intro a h
    show mGS F r (if txH F l.2.2.2 = false then a else a + (if ¬ l.1 = 0 then -(mlV F l) else mlV F l)) = mGS F' r (if txH F' l.2.2.2 = false then a else a + (if ¬ l.1 = 0 then -(mlV F' l) else mlV F' l))
    have e : mlV F l = mlV F' l := by
      unfold mlV
      by_cases w : 0 ≤ l.2.2.1
      · rw [if_pos w, if_pos w, (h l (by simp)).2 w]
      · rw [if_neg w, if_neg w]
    rw [txH_congr (h l (by simp)).1, e, ih _ (fun l hl => h l (by simp [hl]))]
def mFg (m sc : Int32) (i : Nat) : Int32 := if i = 0 then m else if i = 1 then mxI 0 sc else mxI 0 (-sc)
def mFc (m sc : Int32) (s j : Nat) (kw late : Int32) (i : Nat) : Int32 :=
  if i = 0 then m else if i = 1 then mxI 0 sc else if i = 2 then mxI 0 (-sc) else if i = 3 then nI (s / 4) else if i = 4 then nI (s % 4) else if i = 5 then nI j else if i = 6 then kw else if late = 0 then 0 else 1
def GOK (ls : List TxL) : Prop := ∀ l, l ∈ ls → (l.2.2.1 < 0 ∨ ∃ f, f < 3 ∧ l.2.2.1 = nI f) ∧ ∀ p, p ∈ l.2.2.2 → p.1 < 3 ∨ 8 ≤ p.1
theorem GOK.fok {ls : List TxL} (h : GOK ls) : FOK ls := fun l hl => by
  rcases (h l hl).1 with z | ⟨f, h1, h2⟩
  · exact .inl z
  · exact .inr ⟨f, by omega, h2⟩
def mGc (W : Nat → Int32) (m : Int32) (ls : List TxL) : Int32 := if W 3 = 0 then 10000 else mxI32 (mGS (mFg m (W 7)) ls 0)
theorem mGw_c {g : GS} {m : Int32} {ls : List TxL} (h : GOK ls) : mGw g m ls = mGc (gA g 64) m ls := by
  unfold mGw mGc
  have hF : ∀ i, i < 3 → gA (sfG g m) 70 i = mFg m (gA g 64 7) i := fun i hi => by
    rcases i with _ | _ | _ | i
    · rfl
    · rfl
    · rfl
    · omega
  have e : mGS (gA (sfG g m) 70) ls 0 = mGS (mFg m (gA g 64 7)) ls 0 := mGS_congr ls 0 (fun l hl => by
    obtain ⟨h1, h2⟩ := h l hl
    refine ⟨fun p hp h8 => ?_, fun h0 => ?_⟩
    · rcases h2 p hp with z | z
      · exact hF _ z
      · omega
    · rcases h1 with z | ⟨f, h3, z⟩
      · exact absurd h0 (lt_nle z)
      · rw [z, nI_clamp (by omega)]; exact hF _ h3)
  rw [e]; rfl
theorem syG_c (g : GS) (s j : Nat) (hs : s < 32) : ∀ i, i < 8 → gA (syG g s j) 70 i = mFc (gF g 63 21) (gA g 64 7) s j (gA g 64 (10 + gF g 63 24).toNatClampNeg) (gF g 63 25) i := fun i hi => by
  have e1 : nI s / 4 = nI (s / 4) := nId (by omega) (by omega) rfl rfl
  have e2 : nI s - nI s / 4 * 4 = nI (s % 4) := nIr (by omega) (by omega) rfl rfl
  have e3 : ∀ x, gA (fq (fq (fq (fq (fq (sfG g (gF g 63 21)) 3 (nI s / 4)) 4 x) 5 (nI j)) 6 (gA g 64 (10 + gF g 63 24).toNatClampNeg)) 7 (if gF g 63 25 = 0 then 0 else 1)) 70 4 = x := fun x => rfl
  rcases i with _ | _ | _ | _ | _ | _ | _ | _ | i
  · rfl
  · rfl
  · rfl
  · show nI s / 4 = nI (s / 4); exact e1
  · show nI s - nI s / 4 * 4 = nI (s % 4); exact e2
  · rfl
  · rfl
  · rfl
  · omega
def acL (a : Int64) (f : Nat → Int64) : Nat → Int64
  | 0 => a
  | n + 1 => acL a f n + f n
theorem acL_congr {a : Int64} {f f' : Nat → Int64} : ∀ n, (∀ i, i < n → f i = f' i) → acL a f n = acL a f' n := by
  intro n
  induction n with
  | zero => intro _; rfl
  | succ n ih => intro h; show acL a f n + f n = acL a f' n + f' n; rw [ih (fun i hi => h i (by omega)), h n (by omega)]
def wSt (W : Nat → Int32) (s : Nat) : Int32 := dI 100 (fun k => W (18 + 34 * s + k)) 34
def mMx (W : Nat → Int32) (a : Int64) (s : Nat) (row : Nat → Int64) : Int64 := fdL (acL a (fun to => (W (18 + 34 * s + to)).toInt64 * row to) 32) 100
def mLT (W : Nat → Int32) (gw : Int32) : Nat → Nat → Int64
  | 0, _ => 0
  | t + 1, s => mMx W ((W (18 + 34 * s + 32)).toInt64 * gw.toInt64 - (W (18 + 34 * s + 33)).toInt64 * (W 8).toInt64 + (wSt W s).toInt64 * mLT W gw t s) s (mLT W gw t)
def a72 (c : Nat) : Bool := Nat.beq c 72
def LIv (R : Nat → Nat → Int64) (n : Nat) (f : Nat → Int64) : Prop := ∀ t s, s < 32 → 32 * t + s < n → f (32 * t + s) = R t s
theorem LIv.put {R : Nat → Nat → Int64} {t s : Nat} {f : Nat → Int64} {v : Int64} (h : LIv R (32 * t + s) f) (hs : s < 32) (hv : v = R t s) : LIv R (32 * t + (s + 1)) (vp_updL f (32 * t + s) v) := fun t' s' hs' hlt => by
  unfold vp_updL
  by_cases e : 32 * t' + s' = 32 * t + s
  · rw [if_pos e, hv, show t' = t by omega, show s' = s by omega]
  · rw [if_neg e]; exact h t' s' hs' (by omega)

set_option maxRecDepth 100000 in
set_option maxHeartbeats 4000000 in
theorem lp_m_lo3 (Q : Res → List ME → Prop) (g : GS) (m : Int32) (a : Int64) (t s : Nat) (ht : 1 ≤ t) (ht60 : t ≤ 60) (hs : s < 32) (n0 : Nat) : ∀ (k : Nat) (i : Nat), i + k = 32 → J mX12_letsOn (rm 4 0 0) Q n0 162 [some (.ref 63), some (.int m), some (.int (nI (t))), some (.int (nI (s))), some (.long (acL a (fun to => (gA g 64 (18 + 34 * s + to)).toInt64 * gB g 72 (32 * (t - 1) + to)) 32)), none, some (.int (nI 32))] [] (Wd g) 0 0 → J mX12_letsOn (rm 4 0 0) (Q) n0 117 [some (.ref 63), some (.int m), some (.int (nI (t))), some (.int (nI (s))), some (.long (acL a (fun to => (gA g 64 (18 + 34 * s + to)).toInt64 * gB g 72 (32 * (t - 1) + to)) i)), none, some (.int (nI (i)))] [] (Wd g) 0 0 := by
  intro k
  induction k with
  | zero =>
    intro i hk hK
    refine J_iload (nx := 119) dX12_letsOn_117 rfl rfl ?_
    refine J_bipush (nx := 121) (i := 32) (v := 32) (by decide) dX12_letsOn_119 rfl ?_
    refine J_icmp_ge (nx := 124) (tgt := 162) dX12_letsOn_121 rfl (by decide) (fun c_121 => ?_) (fun c_121 => ?_)
    · obtain rfl : i = 32 := by omega
      exact hK
    · exact absurd (show nI 32 ≤ nI i from by rw [show i = 32 by omega]; exact le_self_nI) c_121
  | succ k ih =>
    intro i hk hK
    refine J_iload (nx := 119) dX12_letsOn_117 rfl rfl ?_
    refine J_bipush (nx := 121) (i := 32) (v := 32) (by decide) dX12_letsOn_119 rfl ?_
    refine J_icmp_ge (nx := 124) (tgt := 162) dX12_letsOn_121 rfl (by decide) (fun c_121 => ?_) (fun c_121 => ?_)
    · exact absurd c_121 (nlt_nI (n := 32) (by omega) (by omega))
    · have hi : i < 32 := by omega
      refine J_lload (nx := 126) dX12_letsOn_124 rfl rfl ?_
      refine J_aload_n (nx := 127) dX12_letsOn_126 rfl rfl ?_
      refine Jg_63_1 (nx := 130) dX12_letsOn_127 rfl fl_X12_13 ?_
      refine J_iload_n (nx := 131) dX12_letsOn_130 rfl rfl ?_
      refine J_iload (nx := 133) dX12_letsOn_131 rfl rfl ?_
      refine JcS2 (R' := rm (0) 0 0) (nx := 136) dX12_letsOn_133 rfl ml_X12_chanceAt lk_X12_248 st_X12_chanceAt ⟨(Nat.le_of_ble_eq_true rfl), (Nat.le_of_ble_eq_true rfl)⟩ (Nat.le_of_ble_eq_true rfl) ⟨rfl, rfl⟩ (ct_m_chanceAt _ (s) (i)) ?_
      refine Ja_64 (nx := 137) dX12_letsOn_136 rfl (vpE (n := 18 + 34 * s + i) (Eq.refl (nI (18 + 34 * s + i))) (by omega) (by decide)) ?_
      rw [clE (n := 18 + 34 * s + i) (Eq.refl (nI (18 + 34 * s + i))) (by omega)]
      refine J_i2l (nx := 138) dX12_letsOn_137 rfl ?_
      refine J_aload_n (nx := 139) dX12_letsOn_138 rfl rfl ?_
      refine Jg_63_19 (nx := 142) dX12_letsOn_139 rfl fl_X12_42 ?_
      refine J_bipush (nx := 144) (i := 32) (v := 32) (by decide) dX12_letsOn_142 rfl ?_
      refine J_iload_n (nx := 145) dX12_letsOn_144 rfl rfl ?_
      refine J_iconst (nx := 146) (i := 1) (v := 1) (by decide) dX12_letsOn_145 rfl ?_
      refine J_isub (nx := 147) dX12_letsOn_146 rfl ?_
      refine J_imul (nx := 148) dX12_letsOn_147 rfl ?_
      refine J_iload (nx := 150) dX12_letsOn_148 rfl rfl ?_
      refine J_iadd (nx := 151) dX12_letsOn_150 rfl ?_
      refine Ja_72 (nx := 152) dX12_letsOn_151 rfl (vpE (n := ((32 * (t - 1)) + i)) (nIa (nIm (nIc 32) (nIs (by omega) (Eq.refl (nI (t))) (nIc 1))) (Eq.refl (nI (i)))) (by omega) (by decide)) ?_
      rw [clE (n := ((32 * (t - 1)) + i)) (nIa (nIm (nIc 32) (nIs (by omega) (Eq.refl (nI (t))) (nIc 1))) (Eq.refl (nI (i)))) (by omega)]
      refine J_lmul (nx := 153) dX12_letsOn_152 rfl ?_
      refine J_ladd (nx := 154) dX12_letsOn_153 rfl ?_
      refine J_lstore (nx := 156) dX12_letsOn_154 rfl rfl (Nat.le_of_ble_eq_true rfl) ?_
      refine J_iinc (nx := 159) dX12_letsOn_156 rfl rfl rfl (Nat.le_of_ble_eq_true rfl) ?_
      refine J_goto (nx := 117) dX12_letsOn_159 (by decide) ?_
      show J _ _ _ _ 117 [some (.ref 63), some (.int m), some (.int (nI (t))), some (.int (nI (s))), some (.long (acL a (fun to => (gA g 64 (18 + 34 * s + to)).toInt64 * gB g 72 (32 * (t - 1) + to)) (i + 1))), none, some (.int (nI (i) + Int32.ofInt 1))] [] _ _ _
      rw [nI_s]
      exact ih (i + 1) (by omega) hK

set_option maxRecDepth 100000 in
set_option maxHeartbeats 4000000 in
theorem lp_m_lo2 (Q : Res → List ME → Prop) (g0 : GS) (W : Nat → Int32) (gw m : Int32) (t : Nat) (ht : 1 ≤ t) (ht60 : t ≤ 60) (n0 : Nat) : ∀ (k : Nat) (s : Nat) (g : GS), s + k = 32 → (Fr f0 a72 g0 g ∧ gA g 64 = W ∧ gF g 63 20 = gw ∧ LIv (mLT W gw) (32 * t + s) (gB g 72)) → (∀ g, (Fr f0 a72 g0 g ∧ gA g 64 = W ∧ gF g 63 20 = gw ∧ LIv (mLT W gw) (32 * t + 32) (gB g 72)) → J mX12_letsOn (rm 4 0 0) Q n0 187 [some (.ref 63), some (.int m), some (.int (nI (t))), some (.int (nI 32)), none, none, none] [] (Wd g) 0 0) → J mX12_letsOn (rm 4 0 0) (Q) n0 45 [some (.ref 63), some (.int m), some (.int (nI (t))), some (.int (nI (s))), none, none, none] [] (Wd g) 0 0 := by
  intro k
  induction k with
  | zero =>
    intro s g hk hI hK
    refine J_iload_n (nx := 46) dX12_letsOn_45 rfl rfl ?_
    refine J_bipush (nx := 48) (i := 32) (v := 32) (by decide) dX12_letsOn_46 rfl ?_
    refine J_icmp_ge (nx := 51) (tgt := 187) dX12_letsOn_48 rfl (by decide) (fun c_48 => ?_) (fun c_48 => ?_)
    · obtain rfl : s = 32 := by omega
      exact hK g hI
    · exact absurd (show nI 32 ≤ nI s from by rw [show s = 32 by omega]; exact le_self_nI) c_48
  | succ k ih =>
    intro s g hk hI hK
    refine J_iload_n (nx := 46) dX12_letsOn_45 rfl rfl ?_
    refine J_bipush (nx := 48) (i := 32) (v := 32) (by decide) dX12_letsOn_46 rfl ?_
    refine J_icmp_ge (nx := 51) (tgt := 187) dX12_letsOn_48 rfl (by decide) (fun c_48 => ?_) (fun c_48 => ?_)
    · exact absurd c_48 (nlt_nI (n := 32) (by omega) (by omega))
    · have hs : s < 32 := by omega
      refine J_aload_n (nx := 52) dX12_letsOn_51 rfl rfl ?_
      refine Jg_63_1 (nx := 55) dX12_letsOn_52 rfl fl_X12_13 ?_
      refine J_iload_n (nx := 56) dX12_letsOn_55 rfl rfl ?_
      refine J_bipush (nx := 58) (i := 32) (v := 32) (by decide) dX12_letsOn_56 rfl ?_
      refine JcS2 (R' := rm (0) 0 0) (nx := 61) dX12_letsOn_58 rfl ml_X12_chanceAt lk_X12_248 st_X12_chanceAt ⟨(Nat.le_of_ble_eq_true rfl), (Nat.le_of_ble_eq_true rfl)⟩ (Nat.le_of_ble_eq_true rfl) ⟨rfl, rfl⟩ (ct_m_chanceAt _ (s) (32)) ?_
      refine Ja_64 (nx := 62) dX12_letsOn_61 rfl (vpE (n := 18 + 34 * s + 32) (Eq.refl (nI (18 + 34 * s + 32))) (by omega) (by decide)) ?_
      rw [clE (n := 18 + 34 * s + 32) (Eq.refl (nI (18 + 34 * s + 32))) (by omega)]
      refine J_i2l (nx := 63) dX12_letsOn_62 rfl ?_
      refine J_aload_n (nx := 64) dX12_letsOn_63 rfl rfl ?_
      refine Jg_63_20 (nx := 67) dX12_letsOn_64 rfl fl_X12_288 ?_
      refine J_i2l (nx := 68) dX12_letsOn_67 rfl ?_
      refine J_lmul (nx := 69) dX12_letsOn_68 rfl ?_
      refine J_aload_n (nx := 70) dX12_letsOn_69 rfl rfl ?_
      refine Jg_63_1 (nx := 73) dX12_letsOn_70 rfl fl_X12_13 ?_
      refine J_iload_n (nx := 74) dX12_letsOn_73 rfl rfl ?_
      refine J_bipush (nx := 76) (i := 33) (v := 33) (by decide) dX12_letsOn_74 rfl ?_
      refine JcS2 (R' := rm (0) 0 0) (nx := 79) dX12_letsOn_76 rfl ml_X12_chanceAt lk_X12_248 st_X12_chanceAt ⟨(Nat.le_of_ble_eq_true rfl), (Nat.le_of_ble_eq_true rfl)⟩ (Nat.le_of_ble_eq_true rfl) ⟨rfl, rfl⟩ (ct_m_chanceAt _ (s) (33)) ?_
      refine Ja_64 (nx := 80) dX12_letsOn_79 rfl (vpE (n := 18 + 34 * s + 33) (Eq.refl (nI (18 + 34 * s + 33))) (by omega) (by decide)) ?_
      rw [clE (n := 18 + 34 * s + 33) (Eq.refl (nI (18 + 34 * s + 33))) (by omega)]
      refine J_i2l (nx := 81) dX12_letsOn_80 rfl ?_
      refine J_aload_n (nx := 82) dX12_letsOn_81 rfl rfl ?_
      refine Jg_63_1 (nx := 85) dX12_letsOn_82 rfl fl_X12_13 ?_
      refine J_bipush (nx := 87) (i := 8) (v := 8) (by decide) dX12_letsOn_85 rfl ?_
      refine Ja_64 (nx := 88) dX12_letsOn_87 rfl (vpE (n := 8) (nIc 8) (by omega) (by decide)) ?_
      rw [clE (n := 8) (nIc 8) (by omega)]
      refine J_i2l (nx := 89) dX12_letsOn_88 rfl ?_
      refine J_lmul (nx := 90) dX12_letsOn_89 rfl ?_
      refine J_lsub (nx := 91) dX12_letsOn_90 rfl ?_
      refine J_aload_n (nx := 92) dX12_letsOn_91 rfl rfl ?_
      refine J_iload_n (nx := 93) dX12_letsOn_92 rfl rfl ?_
      refine JcV1 (R' := rm (1) 0 0) (nx := 96) dX12_letsOn_93 rfl ml_X12_staying lk_X12_251 iv_X12_staying rfl rfl ⟨(Nat.le_of_ble_eq_true rfl), (Nat.le_of_ble_eq_true rfl)⟩ (Nat.le_of_ble_eq_true rfl) ⟨rfl, rfl⟩ (ct_m_staying g s hs) ?_
      refine J_i2l (nx := 97) dX12_letsOn_96 rfl ?_
      refine J_aload_n (nx := 98) dX12_letsOn_97 rfl rfl ?_
      refine Jg_63_19 (nx := 101) dX12_letsOn_98 rfl fl_X12_42 ?_
      refine J_bipush (nx := 103) (i := 32) (v := 32) (by decide) dX12_letsOn_101 rfl ?_
      refine J_iload_n (nx := 104) dX12_letsOn_103 rfl rfl ?_
      refine J_iconst (nx := 105) (i := 1) (v := 1) (by decide) dX12_letsOn_104 rfl ?_
      refine J_isub (nx := 106) dX12_letsOn_105 rfl ?_
      refine J_imul (nx := 107) dX12_letsOn_106 rfl ?_
      refine J_iload_n (nx := 108) dX12_letsOn_107 rfl rfl ?_
      refine J_iadd (nx := 109) dX12_letsOn_108 rfl ?_
      refine Ja_72 (nx := 110) dX12_letsOn_109 rfl (vpE (n := ((32 * (t - 1)) + s)) (nIa (nIm (nIc 32) (nIs (by omega) (Eq.refl (nI (t))) (nIc 1))) (Eq.refl (nI (s)))) (by omega) (by decide)) ?_
      rw [clE (n := ((32 * (t - 1)) + s)) (nIa (nIm (nIc 32) (nIs (by omega) (Eq.refl (nI (t))) (nIc 1))) (Eq.refl (nI (s)))) (by omega)]
      refine J_lmul (nx := 111) dX12_letsOn_110 rfl ?_
      refine J_ladd (nx := 112) dX12_letsOn_111 rfl ?_
      refine J_lstore (nx := 114) dX12_letsOn_112 rfl rfl (Nat.le_of_ble_eq_true rfl) ?_
      refine J_iconst (nx := 115) (i := 0) (v := 0) (by decide) dX12_letsOn_114 rfl ?_
      refine J_istore (nx := 117) dX12_letsOn_115 rfl rfl (Nat.le_of_ble_eq_true rfl) ?_
      obtain ⟨hfr, hW, hgw, hLI⟩ := hI
      rw [show mSt g s = wSt W s by rw [← hW]; rfl]
      refine lp_m_lo3 Q g m _ t s ht ht60 hs n0 32 0 rfl ?_
      refine J_aload_n (nx := 163) dX12_letsOn_162 rfl rfl ?_
      refine Jg_63_19 (nx := 166) dX12_letsOn_163 rfl fl_X12_42 ?_
      refine J_bipush (nx := 168) (i := 32) (v := 32) (by decide) dX12_letsOn_166 rfl ?_
      refine J_iload_n (nx := 169) dX12_letsOn_168 rfl rfl ?_
      refine J_imul (nx := 170) dX12_letsOn_169 rfl ?_
      refine J_iload_n (nx := 171) dX12_letsOn_170 rfl rfl ?_
      refine J_iadd (nx := 172) dX12_letsOn_171 rfl ?_
      refine J_lload (nx := 174) dX12_letsOn_172 rfl rfl ?_
      refine J_ldc2 (nx := 177) cn_X12_291 dX12_letsOn_174 rfl ?_
      refine JcS2 (R' := rm (0) 0 0) (nx := 180) dX12_letsOn_177 rfl ml_J9_floorDiv_f86c9 lk_X12_293 st_J9_floorDiv_f86c9 ⟨(Nat.le_of_ble_eq_true rfl), (Nat.le_of_ble_eq_true rfl)⟩ (Nat.le_of_ble_eq_true rfl) ⟨rfl, rfl⟩ (ct_floorDivL _ _ _ (by decide)) ?_
      refine Jt_72 (nx := 181) dX12_letsOn_180 rfl (vpE (n := ((32 * t) + s)) (nIa (nIm (nIc 32) (Eq.refl (nI (t)))) (Eq.refl (nI (s)))) (by omega) (by decide)) ?_
      rw [clE (n := ((32 * t) + s)) (nIa (nIm (nIc 32) (Eq.refl (nI (t)))) (Eq.refl (nI (s)))) (by omega)]
      refine J.gen (fun g_180 hg_180 => ?_)
      refine J_iinc (nx := 184) dX12_letsOn_181 rfl rfl rfl (Nat.le_of_ble_eq_true rfl) ?_
      refine J_goto (nx := 45) dX12_letsOn_184 (by decide) ?_
      refine J_kill (nx := 0) 4 ?_
      refine J_kill (nx := 0) 6 ?_
      rw [show (nI (s) + Int32.ofInt 1) = nI (s + 1) from (show nI (s) + Int32.ofInt 1 = nI (s + 1) from nI_add (s) 1)]
      refine ih (s + 1) g_180 (by omega) ?_ hK
      have hv : LIv (mLT W gw) (32 * t + (s + 1)) (gB g_180 72) := by
        rw [hg_180]
        refine hLI.put hs ?_
        obtain ⟨u, rfl⟩ : ∃ u, t = u + 1 := ⟨t - 1, by omega⟩
        rw [show u + 1 - 1 = u by omega]
        show _ = mMx W ((W (18 + 34 * s + 32)).toInt64 * gw.toInt64 - (W (18 + 34 * s + 33)).toInt64 * (W 8).toInt64 + (wSt W s).toInt64 * mLT W gw u s) s (mLT W gw u)
        unfold mMx
        rw [hgw, hW, hLI u s hs (by omega)]
        exact congrArg (fun z => fdL z 100) (acL_congr 32 (fun q hq => by rw [hLI u q hq (by omega)]))
      exact ⟨by rw [hg_180]; exact hfr.sB rfl, by rw [hg_180]; exact hW, by rw [hg_180]; exact hgw, hv⟩

set_option maxRecDepth 100000 in
set_option maxHeartbeats 4000000 in
theorem lp_m_lo1 (g0 : GS) (W : Nat → Int32) (gw m : Int32) (n0 : Nat) : ∀ (k : Nat) (t : Nat) (g : GS), t + k = 61 → 1 ≤ t → (Fr f0 a72 g0 g ∧ gA g 64 = W ∧ gF g 63 20 = gw ∧ LIv (mLT W gw) (32 * t) (gB g 72)) → J mX12_letsOn (rm 4 0 0) (RXv (fun g2 => Fr f0 a72 g0 g2 ∧ ∀ t s, t ≤ 60 → s < 32 → gB g2 72 (32 * t + s) = mLT W gw t s)) n0 37 [some (.ref 63), some (.int m), some (.int (nI (t))), none, none, none, none] [] (Wd g) 0 0 := by
  intro k
  induction k with
  | zero =>
    intro t g hk ht hI
    refine J_iload_n (nx := 38) dX12_letsOn_37 rfl rfl ?_
    refine J_bipush (nx := 40) (i := 60) (v := 60) (by decide) dX12_letsOn_38 rfl ?_
    refine J_icmp_gt (nx := 43) (tgt := 193) dX12_letsOn_40 rfl (by decide) (fun c_40 => ?_) (fun c_40 => ?_)
    · obtain ⟨hfr, hW, hgw, hLI⟩ := hI
      exact Jrv dX12_letsOn_193 rfl (Nat.zero_le _) (Nat.zero_le _) (RXv.of ⟨hfr, fun t' s' ht hs => hLI t' s' hs (by omega)⟩)
    · exact absurd (show (60 : Int32) < nI t from by rw [show t = 61 by omega]; decide) c_40
  | succ k ih =>
    intro t g hk ht hI
    refine J_iload_n (nx := 38) dX12_letsOn_37 rfl rfl ?_
    refine J_bipush (nx := 40) (i := 60) (v := 60) (by decide) dX12_letsOn_38 rfl ?_
    refine J_icmp_gt (nx := 43) (tgt := 193) dX12_letsOn_40 rfl (by decide) (fun c_40 => ?_) (fun c_40 => ?_)
    · exact absurd (nI_ltd (a := 60) (by omega) (by omega) c_40) (by omega)
    · refine J_iconst (nx := 44) (i := 0) (v := 0) (by decide) dX12_letsOn_43 rfl ?_
      refine J_istore_n (nx := 45) dX12_letsOn_44 rfl rfl (Nat.le_of_ble_eq_true rfl) ?_
      refine lp_m_lo2 _ g0 W gw m t (by omega) (by omega) n0 32 0 g rfl hI (fun g hI => ?_)
      refine J_iinc (nx := 190) dX12_letsOn_187 rfl rfl rfl (Nat.le_of_ble_eq_true rfl) ?_
      refine J_goto (nx := 37) dX12_letsOn_190 (by decide) ?_
      refine J_kill (nx := 0) 3 ?_
      rw [show (nI (t) + Int32.ofInt 1) = nI (t + 1) from (show nI (t) + Int32.ofInt 1 = nI (t + 1) from nI_add (t) 1)]
      exact ih (t + 1) g (by omega) (by omega) hI

set_option maxRecDepth 100000 in
set_option maxHeartbeats 4000000 in
theorem lp_m_lo0 (Q : Res → List ME → Prop) (g0 : GS) (W : Nat → Int32) (gw m : Int32) (n0 : Nat) : ∀ (k : Nat) (s : Nat) (g : GS), s + k = 32 → (Fr f0 a72 g0 g ∧ gA g 64 = W ∧ gF g 63 20 = gw ∧ LIv (mLT W gw) (s) (gB g 72)) → (∀ g, (Fr f0 a72 g0 g ∧ gA g 64 = W ∧ gF g 63 20 = gw ∧ LIv (mLT W gw) (32) (gB g 72)) → J mX12_letsOn (rm 4 0 0) Q n0 35 [some (.ref 63), some (.int m), some (.int (nI 32)), none, none, none, none] [] (Wd g) 0 0) → J mX12_letsOn (rm 4 0 0) (Q) n0 16 [some (.ref 63), some (.int m), some (.int (nI (s))), none, none, none, none] [] (Wd g) 0 0 := by
  intro k
  induction k with
  | zero =>
    intro s g hk hI hK
    refine J_iload_n (nx := 17) dX12_letsOn_16 rfl rfl ?_
    refine J_bipush (nx := 19) (i := 32) (v := 32) (by decide) dX12_letsOn_17 rfl ?_
    refine J_icmp_ge (nx := 22) (tgt := 35) dX12_letsOn_19 rfl (by decide) (fun c_19 => ?_) (fun c_19 => ?_)
    · obtain rfl : s = 32 := by omega
      exact hK g hI
    · exact absurd (show nI 32 ≤ nI s from by rw [show s = 32 by omega]; exact le_self_nI) c_19
  | succ k ih =>
    intro s g hk hI hK
    refine J_iload_n (nx := 17) dX12_letsOn_16 rfl rfl ?_
    refine J_bipush (nx := 19) (i := 32) (v := 32) (by decide) dX12_letsOn_17 rfl ?_
    refine J_icmp_ge (nx := 22) (tgt := 35) dX12_letsOn_19 rfl (by decide) (fun c_19 => ?_) (fun c_19 => ?_)
    · exact absurd c_19 (nlt_nI (n := 32) (by omega) (by omega))
    · refine J_aload_n (nx := 23) dX12_letsOn_22 rfl rfl ?_
      refine Jg_63_19 (nx := 26) dX12_letsOn_23 rfl fl_X12_42 ?_
      refine J_iload_n (nx := 27) dX12_letsOn_26 rfl rfl ?_
      refine J_lconst (nx := 28) (i := 0) (v := 0) (by decide) dX12_letsOn_27 rfl ?_
      refine Jt_72 (nx := 29) dX12_letsOn_28 rfl (vpE (n := s) (Eq.refl (nI (s))) (by omega) (by decide)) ?_
      rw [clE (n := s) (Eq.refl (nI (s))) (by omega)]
      refine J.gen (fun g_28 hg_28 => ?_)
      refine J_iinc (nx := 32) dX12_letsOn_29 rfl rfl rfl (Nat.le_of_ble_eq_true rfl) ?_
      refine J_goto (nx := 16) dX12_letsOn_32 (by decide) ?_
      rw [show (nI (s) + Int32.ofInt 1) = nI (s + 1) from (show nI (s) + Int32.ofInt 1 = nI (s + 1) from nI_add (s) 1)]
      obtain ⟨hfr, hW, hgw, hLI⟩ := hI
      refine ih (s + 1) g_28 (by omega) ⟨by rw [hg_28]; exact hfr.sB rfl, by rw [hg_28]; exact hW, by rw [hg_28]; exact hgw, ?_⟩ hK
      have hp := LIv.put (R := mLT W gw) (t := 0) (s := s) (v := 0) (f := gB g 72) (by rw [Nat.mul_zero, Nat.zero_add]; exact hLI) (by omega) rfl
      rw [Nat.mul_zero, Nat.zero_add, Nat.zero_add] at hp
      rw [hg_28]; exact hp

def fLO (c k : Nat) : Bool := Nat.beq c 63 && (Nat.beq k 20 || Nat.beq k 21)
def aLO (c : Nat) : Bool := Nat.beq c 70 || Nat.beq c 71 || Nat.beq c 72
def LOK (g : GS) (W : Nat → Int32) (m : Int32) (ls : List TxL) (g2 : GS) : Prop :=
  Fr fLO aLO g g2 ∧ gF g2 63 20 = mGc W m ls ∧ gF g2 63 21 = m ∧ ∀ t s, t ≤ 60 → s < 32 → gB g2 72 (32 * t + s) = mLT W (mGc W m ls) t s
set_option maxRecDepth 100000 in
set_option maxHeartbeats 4000000 in
theorem ct_m_letsOn (g : GS) (W : Nat → Int32) (m : Int32) (ls : List TxL) (hW : gA g 64 = W) (htx : ¬ W 3 = 0 → MTx W 4 ls) (hgo : GOK ls) : Ct mX12_letsOn (rm 4 0 0) [.ref 63, .int m] (Wd g) (RXv (LOK g W m ls)) := by
  refine Ct.of (by decide +kernel) (Nat.le_of_ble_eq_true rfl) ?_
  show J _ _ _ _ 0 [some (.ref 63), some (.int m), none, none, none, none, none] [] _ 0 0
  refine J_aload_n (nx := 1) dX12_letsOn_0 rfl rfl ?_
  refine J_iload_n (nx := 2) dX12_letsOn_1 rfl rfl ?_
  refine Jp_63_21 (nx := 5) dX12_letsOn_2 rfl fl_X12_285 ?_
  refine J.gen (fun g_2 hg_2 => ?_)
  refine J_aload_n (nx := 6) dX12_letsOn_5 rfl rfl ?_
  refine J_aload_n (nx := 7) dX12_letsOn_6 rfl rfl ?_
  refine J_iload_n (nx := 8) dX12_letsOn_7 rfl rfl ?_
  refine JiV1 (R' := rm (3) 0 0) (nx := 11) dX12_letsOn_8 rfl ml_X12_goalIn lk_X12_279 iv_X12_goalIn rfl rfl ⟨(Nat.le_of_ble_eq_true rfl), (Nat.le_of_ble_eq_true rfl)⟩ (Nat.le_of_ble_eq_true rfl) ⟨rfl, rfl⟩ (ct_m_goalIn g_2 _ ls (by rw [hg_2]; intro h0; rw [show gA (sF g 63 21 m) 64 = W from hW]; exact htx (by rw [← hW]; exact h0)) hgo.fok) (fun x_8 g_8 p_8 => ?_)
  refine Jp_63_20 (nx := 14) dX12_letsOn_11 rfl fl_X12_288 ?_
  refine J.gen (fun g_11 hg_11 => ?_)
  refine J_iconst (nx := 15) (i := 0) (v := 0) (by decide) dX12_letsOn_14 rfl ?_
  refine J_istore_n (nx := 16) dX12_letsOn_15 rfl rfl (Nat.le_of_ble_eq_true rfl) ?_
  obtain ⟨e8, f8⟩ := p_8
  rw [hg_2] at e8 f8
  refine J.post (Q := RXv (fun g2 => Fr f0 a72 g_11 g2 ∧ ∀ t s, t ≤ 60 → s < 32 → gB g2 72 (32 * t + s) = mLT W (mGc W m ls) t s)) ?_ (fun r es h => ?_)
  · refine lp_m_lo0 _ g_11 W (mGc W m ls) m _ 32 0 g_11 rfl ⟨Fr.rf, ?_, ?_, fun t s _ h => absurd h (by omega)⟩ (fun g hI => ?_)
    · rw [hg_11]; exact (f8.2.1 64 rfl).trans hW
    · rw [hg_11]; exact e8.trans (by rw [← hW]; exact (mGw_c hgo))
    refine J_iconst (nx := 36) (i := 1) (v := 1) (by decide) dX12_letsOn_35 rfl ?_
    refine J_istore_n (nx := 37) dX12_letsOn_36 rfl rfl (Nat.le_of_ble_eq_true rfl) ?_
    exact lp_m_lo1 g_11 W (mGc W m ls) m _ 60 1 g rfl (by omega) hI
  · obtain ⟨g2, hr, he, h1, h2⟩ := h
    have h3 : Fr fLO aLO g_11 g2 := h1.mono (fun _ _ _ => rfl) (fun c h => by unfold aLO at h; unfold a72; revert h; cases Nat.beq c 72 <;> simp)
    have h4 : Fr fLO aLO g g_11 := by
      rw [hg_11]
      exact Fr.sF ((Fr.sF Fr.rf rfl).tr (f8.mono (fun _ _ _ => rfl) (fun c h => by unfold aLO at h; unfold a7; revert h; cases Nat.beq c 70 <;> cases Nat.beq c 71 <;> simp))) rfl
    refine ⟨g2, hr, he, h4.tr h3, ?_, ?_, h2⟩
    · rw [h1.1 63 20 rfl, hg_11]; exact e8.trans (by rw [← hW]; exact (mGw_c hgo))
    · rw [h1.1 63 21 rfl, hg_11]; exact f8.1 63 21 rfl

