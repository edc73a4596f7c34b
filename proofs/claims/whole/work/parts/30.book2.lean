
/-! the rest of Book: what is asked for a ZONE or a draw, copying, rules; and Rest -/
theorem itN_inv {α : Type} {f : Nat → α → α} (P : α → Prop) (hf : ∀ n a, P a → P (f n a)) (n : Nat) {a : α} (h : P a) : P (itN f n a) := by
  induction n with
  | zero => exact h
  | succ n ih => rw [itN_s]; exact hf _ _ ih
def arR (g : GS) (so : Int32) (z : Nat) : Nat → Nat → Bool
  | 0, _ => false
  | k + 1, i => if bk_rt g 20 so (nI (4 * z + i)) ≤ 0 then arR g so z k (i + 1) else true
def rhR (g : GS) (dr : Int32) : Nat → Nat → Int32 → Int32
  | 0, _, _ => 0
  | k + 1, p, a => if a + gA g 25 p ≤ dr then rhR g dr k (p + 1) (a + gA g 25 p) else nI p
def cA (o b k n : Nat) (g : GS) : GS := sA g (b + k) (rCopy n n (gA g (o + k)) (gA g (b + k)))
def cF (o b k : Nat) (g : GS) : GS := sF g b k (gF g o k)
def cpS (s d i : Nat) (g : GS) : GS := sP g d (va_up (gP g d) i (gP g s i))
def bkA (o b : Nat) (g : GS) : GS := cA o b 5 192 (cA o b 4 6 (cA o b 3 6 (cA o b 2 8 (cA o b 1 1088 g))))
def bkB (o b : Nat) (g : GS) : GS := cF o b 17 (cF o b 16 (cF o b 15 (cF o b 14 (cF o b 13 (cF o b 12 (cF o b 11 (cF o b 10 (cF o b 9 (cF o b 8 (sV g b 7 (gV g o 7)))))))))))
def bkC (o b : Nat) (g : GS) : GS := bkB o b (itN (cpS (o + 9) (b + 9)) 4 (bkA o b g))
/-- the rules in a Book's row are Codes -/
def RowOK (g : GS) (s : Nat) : Prop := ∀ i, i < 4 → ∀ v, gP g s i = some v → ∃ cd, CodeT (gT g) v cd
def addG (g : GS) (c : Nat) (n : Nat) : GS := sF (sP g 29 (va_up (gP g 29) n (some c))) 20 10 (gF g 20 10 + 1)
theorem cpS_T (s d n : Nat) (g : GS) : gT (itN (cpS s d) n g) = gT g := itN_inv (f := cpS s d) (fun x => gT x = gT g) (fun _ _ h => h) n rfl
theorem cpS_P (s d e n : Nat) (h : e ≠ d) (g : GS) : gP (itN (cpS s d) n g) e = gP g e := itN_inv (f := cpS s d) (fun x => gP x e = gP g e) (fun m a ha => by
  show (bif Nat.beq e d then _ else gP a e) = _
  rw [show Nat.beq e d = false from by cases hb : Nat.beq e d; rfl; exact absurd (Nat.eq_of_beq_eq_true hb) h]
  exact ha) n rfl
theorem cpS_A (s d n : Nat) (g : GS) : gA (itN (cpS s d) n g) = gA g := itN_inv (f := cpS s d) (fun x => gA x = gA g) (fun _ _ h => h) n rfl
theorem cpS_F (s d n : Nat) (g : GS) : gF (itN (cpS s d) n g) = gF g := itN_inv (f := cpS s d) (fun x => gF x = gF g) (fun _ _ h => h) n rfl
theorem cpS_V (s d n : Nat) (g : GS) : gV (itN (cpS s d) n g) = gV g := itN_inv (f := cpS s d) (fun x => gV x = gV g) (fun _ _ h => h) n rfl

set_option maxRecDepth 100000 in
set_option maxHeartbeats 4000000 in
theorem lp_anyRate (g : GS) (so : Int32) (z : Nat) (hz : z < 8) (n0 : Nat) : ∀ (k : Nat) (i : Nat) (r : Bool), i + k = 4 → r = arR g so z k i → J mX1_anyRate (rm 2 0 0) (RR (.inl (some (.int (bI r)))) g) n0 4 [some (.ref 20), some (.int so), some (.int (nI z)), some (.int (nI (4 * z + i)))] [] (Wd g) 0 0 := by
  intro k
  induction k with
  | zero =>
    intro i r hp hr
    refine J_iload_n (nx := 5) dX1_anyRate_4 rfl rfl ?_
    refine J_iconst (nx := 6) (i := 4) (v := 4) (by decide) dX1_anyRate_5 rfl ?_
    refine J_iload_n (nx := 7) dX1_anyRate_6 rfl rfl ?_
    refine J_iconst (nx := 8) (i := 1) (v := 1) (by decide) dX1_anyRate_7 rfl ?_
    refine J_iadd (nx := 9) dX1_anyRate_8 rfl ?_
    refine J_imul (nx := 10) dX1_anyRate_9 rfl ?_
    refine J_icmp_ge (nx := 13) (tgt := 30) dX1_anyRate_10 rfl (by decide) (fun c_10 => ?_) (fun c_10 => ?_)
    · refine J_iconst (nx := 31) (i := 0) (v := 0) (by decide) dX1_anyRate_30 rfl ?_
      exact Jrz dX1_anyRate_31 rfl (by decide) (Nat.zero_le _) (Nat.zero_le _) ⟨by rw [hr]; rfl, rfl⟩
    · rw [z4_e] at c_10
      exact absurd (show nI (4 * z + 4) ≤ nI (4 * z + i) from by rw [show i = 4 by omega]; exact le_self_nI) c_10
  | succ k ih =>
    intro i r hp hr
    refine J_iload_n (nx := 5) dX1_anyRate_4 rfl rfl ?_
    refine J_iconst (nx := 6) (i := 4) (v := 4) (by decide) dX1_anyRate_5 rfl ?_
    refine J_iload_n (nx := 7) dX1_anyRate_6 rfl rfl ?_
    refine J_iconst (nx := 8) (i := 1) (v := 1) (by decide) dX1_anyRate_7 rfl ?_
    refine J_iadd (nx := 9) dX1_anyRate_8 rfl ?_
    refine J_imul (nx := 10) dX1_anyRate_9 rfl ?_
    refine J_icmp_ge (nx := 13) (tgt := 30) dX1_anyRate_10 rfl (by decide) (fun c_10 => ?_) (fun c_10 => ?_)
    · rw [z4_e] at c_10
      exact absurd c_10 (nlt_nI (by omega) (by omega))
    · refine J_aload_n (nx := 14) dX1_anyRate_13 rfl rfl ?_
      refine J_iload_n (nx := 15) dX1_anyRate_14 rfl rfl ?_
      refine J_iload_n (nx := 16) dX1_anyRate_15 rfl rfl ?_
      refine JcV2 (R' := rm 1 0 0) (nx := 19) dX1_anyRate_16 rfl ml_X1_rateOf lk_X1_98 iv_X1_rateOf rfl rfl ⟨(Nat.le_of_ble_eq_true rfl), (Nat.le_of_ble_eq_true rfl)⟩ (Nat.le_of_ble_eq_true rfl) ⟨rfl, rfl⟩ (ct_X1_rateOf _ _ _) ?_
      refine J_if_le (nx := 22) (tgt := 24) dX1_anyRate_19 rfl (by decide) (fun c_19 => ?_) (fun c_19 => ?_)
      · refine J_iinc (nx := 27) dX1_anyRate_24 rfl rfl rfl (Nat.le_of_ble_eq_true rfl) ?_
        refine J_goto (nx := 4) dX1_anyRate_27 (by decide) ?_
        show J _ _ _ _ 4 [some (.ref 20), some (.int so), some (.int (nI z)), some (.int (nI (4 * z + i) + Int32.ofInt 1))] [] _ 0 0
        rw [nI_s]
        exact ih (i + 1) r (by omega) (hr.trans (if_pos c_19))
      · refine J_iconst (nx := 23) (i := 1) (v := 1) (by decide) dX1_anyRate_22 rfl ?_
        exact Jrz dX1_anyRate_23 rfl (by decide) (Nat.zero_le _) (Nat.zero_le _) ⟨by rw [hr.trans (if_neg c_19)]; rfl, rfl⟩

set_option maxRecDepth 100000 in
set_option maxHeartbeats 4000000 in
theorem ct_anyRate (g : GS) (so : Int32) (z : Nat) (hz : z < 8) : Ct mX1_anyRate (rm 2 0 0) [.ref 20, .int so, .int (nI z)] (Wd g) (RR (.inl (some (.int (bI (arR g so z 4 0))))) g) := by
  refine Ct.of (by decide +kernel) (Nat.le_of_ble_eq_true rfl) ?_
  show J _ _ _ _ 0 [some (.ref 20), some (.int so), some (.int (nI z)), none] [] _ 0 0
  refine J_iconst (nx := 1) (i := 4) (v := 4) (by decide) dX1_anyRate_0 rfl ?_
  refine J_iload_n (nx := 2) dX1_anyRate_1 rfl rfl ?_
  refine J_imul (nx := 3) dX1_anyRate_2 rfl ?_
  rw [show (4 : Int32) * nI z = nI (4 * z + 0) from nI_mul 4 z]
  refine J_istore_n (nx := 4) dX1_anyRate_3 rfl rfl (Nat.le_of_ble_eq_true rfl) ?_
  exact lp_anyRate g so z hz _ 4 0 _ rfl rfl

set_option maxRecDepth 100000 in
set_option maxHeartbeats 4000000 in
theorem lp_rateHolding (g : GS) (dr : Int32) (n0 : Nat) : ∀ (k : Nat) (p : Nat) (a r : Int32), p + k = 192 → r = rhR g dr k p a → J mX1_rateHolding (rm 1 0 0) (RR (.inl (some (.int r))) g) n0 4 [some (.ref 20), some (.int dr), some (.int a), some (.int (nI p))] [] (Wd g) 0 0 := by
  intro k
  induction k with
  | zero =>
    intro p a r hp hr
    refine J_iload_n (nx := 5) dX1_rateHolding_4 rfl rfl ?_
    refine J_aload_n (nx := 6) dX1_rateHolding_5 rfl rfl ?_
    refine Jg_20_4 (nx := 9) dX1_rateHolding_6 rfl fl_X1_24 ?_
    refine Jn_25 (nx := 10) dX1_rateHolding_9 rfl ?_
    refine J_icmp_ge (nx := 13) (tgt := 35) dX1_rateHolding_10 rfl (by decide) (fun c_10 => ?_) (fun c_10 => ?_)
    · refine J_iconst (nx := 36) (i := 0) (v := 0) (by decide) dX1_rateHolding_35 rfl ?_
      exact Jri dX1_rateHolding_36 rfl (Nat.zero_le _) (Nat.zero_le _) (RR.i (by rw [hr]; rfl) rfl)
    · exact absurd (show (192 : Int32) ≤ nI p from by rw [show p = 192 by omega]; exact le_self_nI) c_10
  | succ k ih =>
    intro p a r hp hr
    have hp2 : p < 192 := by omega
    refine J_iload_n (nx := 5) dX1_rateHolding_4 rfl rfl ?_
    refine J_aload_n (nx := 6) dX1_rateHolding_5 rfl rfl ?_
    refine Jg_20_4 (nx := 9) dX1_rateHolding_6 rfl fl_X1_24 ?_
    refine Jn_25 (nx := 10) dX1_rateHolding_9 rfl ?_
    refine J_icmp_ge (nx := 13) (tgt := 35) dX1_rateHolding_10 rfl (by decide) (fun c_10 => ?_) (fun c_10 => ?_)
    · exact absurd c_10 (nlt_nI (n := 192) (by omega) (by omega))
    · refine J_iload_n (nx := 14) dX1_rateHolding_13 rfl rfl ?_
      refine J_aload_n (nx := 15) dX1_rateHolding_14 rfl rfl ?_
      refine Jg_20_4 (nx := 18) dX1_rateHolding_15 rfl fl_X1_24 ?_
      refine J_iload_n (nx := 19) dX1_rateHolding_18 rfl rfl ?_
      refine Ja_25 (nx := 20) dX1_rateHolding_19 rfl (vp_in_nI hp2 (by decide)) ?_
      rw [nI_clamp (by omega)]
      refine J_iadd (nx := 21) dX1_rateHolding_20 rfl ?_
      refine J_istore_n (nx := 22) dX1_rateHolding_21 rfl rfl (Nat.le_of_ble_eq_true rfl) ?_
      refine J_iload_n (nx := 23) dX1_rateHolding_22 rfl rfl ?_
      refine J_iload_n (nx := 24) dX1_rateHolding_23 rfl rfl ?_
      refine J_icmp_ge (nx := 27) (tgt := 29) dX1_rateHolding_24 rfl (by decide) (fun c_24 => ?_) (fun c_24 => ?_)
      · refine J_iinc (nx := 32) dX1_rateHolding_29 rfl rfl rfl (Nat.le_of_ble_eq_true rfl) ?_
        refine J_goto (nx := 4) dX1_rateHolding_32 (by decide) ?_
        show J _ _ _ _ 4 [some (.ref 20), some (.int dr), some (.int _), some (.int (nI p + Int32.ofInt 1))] [] _ 0 0
        rw [nI_s]
        exact ih (p + 1) _ r (by omega) (hr.trans (if_pos c_24))
      · refine J_iload_n (nx := 28) dX1_rateHolding_27 rfl rfl ?_
        exact Jri dX1_rateHolding_28 rfl (Nat.zero_le _) (Nat.zero_le _) (RR.i (hr.trans (if_neg c_24)).symm rfl)

set_option maxRecDepth 100000 in
set_option maxHeartbeats 4000000 in
theorem ct_rateHolding (g : GS) (dr : Int32) : Ct mX1_rateHolding (rm 1 0 0) [.ref 20, .int dr] (Wd g) (RR (.inl (some (.int (rhR g dr 192 0 0)))) g) := by
  refine Ct.of (by decide +kernel) (Nat.le_of_ble_eq_true rfl) ?_
  show J _ _ _ _ 0 [some (.ref 20), some (.int dr), none, none] [] _ 0 0
  refine J_iconst (nx := 1) (i := 0) (v := 0) (by decide) dX1_rateHolding_0 rfl ?_
  refine J_istore_n (nx := 2) dX1_rateHolding_1 rfl rfl (Nat.le_of_ble_eq_true rfl) ?_
  refine J_iconst (nx := 3) (i := 0) (v := 0) (by decide) dX1_rateHolding_2 rfl ?_
  refine J_istore_n (nx := 4) dX1_rateHolding_3 rfl rfl (Nat.le_of_ble_eq_true rfl) ?_
  exact lp_rateHolding g dr _ 192 0 0 _ rfl rfl

theorem J_aastR {M : MI} {R : Room} {Q : Res → List ME → Prop} {n0 pc nx : Nat} {L : List (Option Value)} {rest : List Value} {k ks : Nat} {g : GS} {a i : Nat} {v : Option Nat} (d : decode M.2.1 pc = .ok (.aastore, 1)) (hn : pc + 1 = nx) (he : (Wd g)[a]? = some (.inl (3, 4, .inr (.inr (.inr (.inr (gP g a))))))) (h2 : ∀ f', (Wd g).set a (.inl (3, 4, .inr (.inr (.inr (.inr f'))))) = Wd (sP g a f')) (hi : i < 4) (hr : ∀ w, v = some w → ∃ cd, CodeT (gT g) w cd) (h : J M R Q n0 nx L rest (Wd (sP g a (va_up (gP g a) i v))) k ks) : J M R Q n0 pc L (va_rf v :: .int (nI i) :: .ref a :: rest) (Wd g) k ks := by
  cases v with
  | none =>
    refine J_aastN (nx := nx) d hn rfl he (vp_in_nI hi (by decide)) ?_
    rw [nI_clamp (by omega), h2]
    exact h
  | some w =>
    obtain ⟨cd, hc⟩ := hr w rfl
    refine J_aastC (nx := nx) d hn he hc.o (vp_in_nI hi (by decide)) ?_
    rw [nI_clamp (by omega), h2]
    exact h
theorem RowOK.congr {g g1 : GS} {s : Nat} (h : RowOK g s) (h1 : gP g1 s = gP g s) (h2 : gT g1 = gT g) : RowOK g1 s := by
  intro i hi v hv
  rw [h1] at hv
  rw [h2]
  exact h i hi v hv
theorem bkA_P (o b : Nat) (g : GS) : gP (bkA o b g) = gP g := rfl
theorem bkA_T (o b : Nat) (g : GS) : gT (bkA o b g) = gT g := rfl
theorem bkA_F (o b : Nat) (g : GS) : gF (bkA o b g) = gF g := rfl
theorem bkA_V (o b : Nat) (g : GS) : gV (bkA o b g) = gV g := rfl

set_option maxRecDepth 100000 in
set_option maxHeartbeats 4000000 in
theorem lp_copy_20_8 (g : GS) (hR : RowOK g 17) (Q : Res → List ME → Prop) (n0 : Nat) (hK : J mX1_copy (rm 1 0 0) Q n0 93 [some (.ref 20), some (.ref 8), some (.int (nI 4))] [] (Wd (itN (cpS 17 29) 4 g)) 0 0) : ∀ (k w : Nat), w ≤ 4 → 4 + 1 ≤ w + k → J mX1_copy (rm 1 0 0) Q n0 57 [some (.ref 20), some (.ref 8), some (.int (nI w))] [] (Wd (itN (cpS 17 29) w g)) 0 0 := by
  intro k
  induction k with
  | zero => intro w h1 h2; exact absurd h2 (by omega)
  | succ k ih =>
    intro w h1 h2
    refine J_iload_n (nx := 58) dX1_copy_57 rfl rfl ?_
    refine J_aload_n (nx := 59) dX1_copy_58 rfl rfl ?_
    refine Jg_20_6 (nx := 62) dX1_copy_59 rfl fl_X1_34 ?_
    refine Jn_29 (nx := 63) dX1_copy_62 rfl ?_
    refine J_icmp_ge (nx := 66) (tgt := 93) dX1_copy_63 rfl (by decide) (fun c_63 => ?_) (fun c_63 => ?_)
    · obtain rfl : w = 4 := cge h1 (by omega) c_63
      exact hK
    · have hw : w < 4 := clt h1 (by omega) c_63
      have ih2 := ih (w + 1) (by omega) (by omega)
      rw [← nI_s w, itN_s (cpS 17 29) w g] at ih2
      have hX : RowOK (itN (cpS 17 29) w g) 17 := hR.congr (cpS_P 17 29 17 w (by decide) g) (cpS_T 17 29 w g)
      generalize itN (cpS 17 29) w g = X at ih2 hX ⊢
      refine J_iload_n (nx := 67) dX1_copy_66 rfl rfl ?_
      refine J_aload_n (nx := 68) dX1_copy_67 rfl rfl ?_
      refine Jg_8_6 (nx := 71) dX1_copy_68 rfl fl_X1_34 ?_
      refine Jn_17 (nx := 72) dX1_copy_71 rfl ?_
      refine J_icmp_ge (nx := 75) (tgt := 93) dX1_copy_72 rfl (by decide) (fun c_72 => ?_) (fun c_72 => ?_)
      · exact absurd c_72 (nlt_nI hw (by decide))
      · refine J_aload_n (nx := 76) dX1_copy_75 rfl rfl ?_
        refine Jg_20_6 (nx := 79) dX1_copy_76 rfl fl_X1_34 ?_
        refine J_iload_n (nx := 80) dX1_copy_79 rfl rfl ?_
        refine J_aload_n (nx := 81) dX1_copy_80 rfl rfl ?_
        refine Jg_8_6 (nx := 84) dX1_copy_81 rfl fl_X1_34 ?_
        refine J_iload_n (nx := 85) dX1_copy_84 rfl rfl ?_
        refine Ja_17 (nx := 86) dX1_copy_85 rfl (vp_in_nI hw (by decide)) ?_
        rw [nI_clamp (by omega)]
        refine J_aastR (nx := 87) dX1_copy_86 rfl rfl (fun _ => rfl) hw (fun z hz => hX w hw z hz) ?_
        refine J_iinc (nx := 90) dX1_copy_87 rfl rfl rfl (Nat.le_of_ble_eq_true rfl) ?_
        refine J_goto (nx := 57) dX1_copy_90 (by decide) ?_
        exact ih2
theorem lp_copy0_20_8 (g : GS) (hR : RowOK g 17) (Q : Res → List ME → Prop) (n0 : Nat) (hK : J mX1_copy (rm 1 0 0) Q n0 93 [some (.ref 20), some (.ref 8), some (.int (nI 4))] [] (Wd (itN (cpS 17 29) 4 g)) 0 0) : J mX1_copy (rm 1 0 0) Q n0 57 [some (.ref 20), some (.ref 8), some (.int 0)] [] (Wd g) 0 0 := lp_copy_20_8 g hR Q n0 hK 5 0 (by omega) (by omega)

set_option maxRecDepth 100000 in
set_option maxHeartbeats 4000000 in
theorem sg_copy_20_8 (g : GS) (c : Nat) (hV : gV g 8 7 = .ref c) (hB : narrow .boolean (.int (gF g 8 8)) = .int (gF g 8 8)) (hB2 : fits .boolean (.int (gF g 8 8)) = true) (n0 : Nat) : J mX1_copy (rm 1 0 0) (RR (.inl none) (bkB 8 20 g)) n0 93 [some (.ref 20), some (.ref 8), some (.int (nI 4))] [] (Wd g) 0 0 := by
  unfold bkB
  rw [hV]
  refine J_aload_n (nx := 94) dX1_copy_93 rfl rfl ?_
  refine J_aload_n (nx := 95) dX1_copy_94 rfl rfl ?_
  refine Jg_8_7 (nx := 98) dX1_copy_95 rfl fl_X1_38 ?_
  rw [hV]
  refine Jp_20_7 (nx := 101) dX1_copy_98 rfl fl_X1_38 ?_
  refine J.gen (fun g_98 hg_98 => ?_)
  refine J_aload_n (nx := 102) dX1_copy_101 rfl rfl ?_
  refine J_aload_n (nx := 103) dX1_copy_102 rfl rfl ?_
  refine Jg_8_8 (nx := 106) dX1_copy_103 rfl fl_X1_54 ?_
  refine Jp_20_8 (nx := 109) dX1_copy_106 rfl fl_X1_54 (by rw [hg_98]; exact hB) (by rw [hg_98]; exact hB2) ?_
  refine J.gen (fun g_106 hg_106 => ?_)
  refine J_aload_n (nx := 110) dX1_copy_109 rfl rfl ?_
  refine J_aload_n (nx := 111) dX1_copy_110 rfl rfl ?_
  refine Jg_8_9 (nx := 114) dX1_copy_111 rfl fl_X1_58 ?_
  refine Jp_20_9 (nx := 117) dX1_copy_114 rfl fl_X1_58 ?_
  refine J.gen (fun g_114 hg_114 => ?_)
  refine J_aload_n (nx := 118) dX1_copy_117 rfl rfl ?_
  refine J_aload_n (nx := 119) dX1_copy_118 rfl rfl ?_
  refine Jg_8_10 (nx := 122) dX1_copy_119 rfl fl_X1_61 ?_
  refine Jp_20_10 (nx := 125) dX1_copy_122 rfl fl_X1_61 ?_
  refine J.gen (fun g_122 hg_122 => ?_)
  refine J_aload_n (nx := 126) dX1_copy_125 rfl rfl ?_
  refine J_aload_n (nx := 127) dX1_copy_126 rfl rfl ?_
  refine Jg_8_11 (nx := 130) dX1_copy_127 rfl fl_X1_64 ?_
  refine Jp_20_11 (nx := 133) dX1_copy_130 rfl fl_X1_64 ?_
  refine J.gen (fun g_130 hg_130 => ?_)
  refine J_aload_n (nx := 134) dX1_copy_133 rfl rfl ?_
  refine J_aload_n (nx := 135) dX1_copy_134 rfl rfl ?_
  refine Jg_8_12 (nx := 138) dX1_copy_135 rfl fl_X1_41 ?_
  refine Jp_20_12 (nx := 141) dX1_copy_138 rfl fl_X1_41 ?_
  refine J.gen (fun g_138 hg_138 => ?_)
  refine J_aload_n (nx := 142) dX1_copy_141 rfl rfl ?_
  refine J_aload_n (nx := 143) dX1_copy_142 rfl rfl ?_
  refine Jg_8_13 (nx := 146) dX1_copy_143 rfl fl_X1_45 ?_
  refine Jp_20_13 (nx := 149) dX1_copy_146 rfl fl_X1_45 ?_
  refine J.gen (fun g_146 hg_146 => ?_)
  refine J_aload_n (nx := 150) dX1_copy_149 rfl rfl ?_
  refine J_aload_n (nx := 151) dX1_copy_150 rfl rfl ?_
  refine Jg_8_14 (nx := 154) dX1_copy_151 rfl fl_X1_67 ?_
  refine Jp_20_14 (nx := 157) dX1_copy_154 rfl fl_X1_67 ?_
  refine J.gen (fun g_154 hg_154 => ?_)
  refine J_aload_n (nx := 158) dX1_copy_157 rfl rfl ?_
  refine J_aload_n (nx := 159) dX1_copy_158 rfl rfl ?_
  refine Jg_8_15 (nx := 162) dX1_copy_159 rfl fl_X1_70 ?_
  refine Jp_20_15 (nx := 165) dX1_copy_162 rfl fl_X1_70 ?_
  refine J.gen (fun g_162 hg_162 => ?_)
  refine J_aload_n (nx := 166) dX1_copy_165 rfl rfl ?_
  refine J_aload_n (nx := 167) dX1_copy_166 rfl rfl ?_
  refine Jg_8_16 (nx := 170) dX1_copy_167 rfl fl_X1_73 ?_
  refine Jp_20_16 (nx := 173) dX1_copy_170 rfl fl_X1_73 ?_
  refine J.gen (fun g_170 hg_170 => ?_)
  refine J_aload_n (nx := 174) dX1_copy_173 rfl rfl ?_
  refine J_aload_n (nx := 175) dX1_copy_174 rfl rfl ?_
  refine Jg_8_17 (nx := 178) dX1_copy_175 rfl fl_X1_76 ?_
  refine Jp_20_17 (nx := 181) dX1_copy_178 rfl fl_X1_76 ?_
  refine J.gen (fun g_178 hg_178 => ?_)
  subst hg_178
  subst hg_170
  subst hg_162
  subst hg_154
  subst hg_146
  subst hg_138
  subst hg_130
  subst hg_122
  subst hg_114
  subst hg_106
  subst hg_98
  exact Jrv dX1_copy_181 rfl (Nat.zero_le _) (Nat.zero_le _) ⟨rfl, rfl⟩

set_option maxRecDepth 100000 in
set_option maxHeartbeats 4000000 in
theorem ct_copy_20_8 (g : GS) (c : Nat) (hR : RowOK g 17) (hV : gV g 8 7 = .ref c) (hB : narrow .boolean (.int (gF g 8 8)) = .int (gF g 8 8)) (hB2 : fits .boolean (.int (gF g 8 8)) = true) : Ct mX1_copy (rm 1 0 0) [.ref 20, .ref 8] (Wd g) (RR (.inl none) (bkC 8 20 g)) := by
  refine Ct.of (by decide +kernel) (Nat.le_of_ble_eq_true rfl) ?_
  show J _ _ _ _ 0 [some (.ref 20), some (.ref 8), none] [] _ 0 0
  refine J_aload_n (nx := 1) dX1_copy_0 rfl rfl ?_
  refine Jg_8_0 (nx := 4) dX1_copy_1 rfl fl_X1_11 ?_
  refine J_aload_n (nx := 5) dX1_copy_4 rfl rfl ?_
  refine Jg_20_0 (nx := 8) dX1_copy_5 rfl fl_X1_11 ?_
  refine JcS2 (R' := rm 0 0 0) (nx := 11) dX1_copy_8 rfl ml_X6_copy lk_X1_48 st_X6_copy ⟨(Nat.le_of_ble_eq_true rfl), (Nat.le_of_ble_eq_true rfl)⟩ (Nat.le_of_ble_eq_true rfl) ⟨rfl, rfl⟩ (ct_copy _ 9 21 1088 1088 _ (by decide) rfl rfl (fun _ => rfl) (by decide) (by decide)) ?_
  refine J.gen (fun g_8 hg_8 => ?_)
  refine J_aload_n (nx := 12) dX1_copy_11 rfl rfl ?_
  refine Jg_8_1 (nx := 15) dX1_copy_12 rfl fl_X1_15 ?_
  refine J_aload_n (nx := 16) dX1_copy_15 rfl rfl ?_
  refine Jg_20_1 (nx := 19) dX1_copy_16 rfl fl_X1_15 ?_
  refine JcS2 (R' := rm 0 0 0) (nx := 22) dX1_copy_19 rfl ml_X6_copy lk_X1_48 st_X6_copy ⟨(Nat.le_of_ble_eq_true rfl), (Nat.le_of_ble_eq_true rfl)⟩ (Nat.le_of_ble_eq_true rfl) ⟨rfl, rfl⟩ (ct_copy _ 10 22 8 8 _ (by decide) rfl rfl (fun _ => rfl) (by decide) (by decide)) ?_
  refine J.gen (fun g_19 hg_19 => ?_)
  refine J_aload_n (nx := 23) dX1_copy_22 rfl rfl ?_
  refine Jg_8_2 (nx := 26) dX1_copy_23 rfl fl_X1_18 ?_
  refine J_aload_n (nx := 27) dX1_copy_26 rfl rfl ?_
  refine Jg_20_2 (nx := 30) dX1_copy_27 rfl fl_X1_18 ?_
  refine JcS2 (R' := rm 0 0 0) (nx := 33) dX1_copy_30 rfl ml_X6_copy lk_X1_48 st_X6_copy ⟨(Nat.le_of_ble_eq_true rfl), (Nat.le_of_ble_eq_true rfl)⟩ (Nat.le_of_ble_eq_true rfl) ⟨rfl, rfl⟩ (ct_copy _ 11 23 6 6 _ (by decide) rfl rfl (fun _ => rfl) (by decide) (by decide)) ?_
  refine J.gen (fun g_30 hg_30 => ?_)
  refine J_aload_n (nx := 34) dX1_copy_33 rfl rfl ?_
  refine Jg_8_3 (nx := 37) dX1_copy_34 rfl fl_X1_21 ?_
  refine J_aload_n (nx := 38) dX1_copy_37 rfl rfl ?_
  refine Jg_20_3 (nx := 41) dX1_copy_38 rfl fl_X1_21 ?_
  refine JcS2 (R' := rm 0 0 0) (nx := 44) dX1_copy_41 rfl ml_X6_copy lk_X1_48 st_X6_copy ⟨(Nat.le_of_ble_eq_true rfl), (Nat.le_of_ble_eq_true rfl)⟩ (Nat.le_of_ble_eq_true rfl) ⟨rfl, rfl⟩ (ct_copy _ 12 24 6 6 _ (by decide) rfl rfl (fun _ => rfl) (by decide) (by decide)) ?_
  refine J.gen (fun g_41 hg_41 => ?_)
  refine J_aload_n (nx := 45) dX1_copy_44 rfl rfl ?_
  refine Jg_8_4 (nx := 48) dX1_copy_45 rfl fl_X1_24 ?_
  refine J_aload_n (nx := 49) dX1_copy_48 rfl rfl ?_
  refine Jg_20_4 (nx := 52) dX1_copy_49 rfl fl_X1_24 ?_
  refine JcS2 (R' := rm 0 0 0) (nx := 55) dX1_copy_52 rfl ml_X6_copy lk_X1_48 st_X6_copy ⟨(Nat.le_of_ble_eq_true rfl), (Nat.le_of_ble_eq_true rfl)⟩ (Nat.le_of_ble_eq_true rfl) ⟨rfl, rfl⟩ (ct_copy _ 13 25 192 192 _ (by decide) rfl rfl (fun _ => rfl) (by decide) (by decide)) ?_
  refine J.gen (fun g_52 hg_52 => ?_)
  refine J_iconst (nx := 56) (i := 0) (v := 0) (by decide) dX1_copy_55 rfl ?_
  refine J_istore_n (nx := 57) dX1_copy_56 rfl rfl (Nat.le_of_ble_eq_true rfl) ?_
  have e : bkA 8 20 g = g_52 := by rw [hg_52, hg_41, hg_30, hg_19, hg_8]; rfl
  unfold bkC
  rw [e]
  refine lp_copy0_20_8 g_52 (hR.congr (by rw [← e]; rfl) (by rw [← e]; rfl)) _ _ ?_
  exact sg_copy_20_8 _ c (by rw [cpS_V, ← e]; exact hV) (by rw [cpS_F, ← e]; exact hB) (by rw [cpS_F, ← e]; exact hB2) _

set_option maxRecDepth 100000 in
set_option maxHeartbeats 4000000 in
theorem lp_copy_8_20 (g : GS) (hR : RowOK g 29) (Q : Res → List ME → Prop) (n0 : Nat) (hK : J mX1_copy (rm 1 0 0) Q n0 93 [some (.ref 8), some (.ref 20), some (.int (nI 4))] [] (Wd (itN (cpS 29 17) 4 g)) 0 0) : ∀ (k w : Nat), w ≤ 4 → 4 + 1 ≤ w + k → J mX1_copy (rm 1 0 0) Q n0 57 [some (.ref 8), some (.ref 20), some (.int (nI w))] [] (Wd (itN (cpS 29 17) w g)) 0 0 := by
  intro k
  induction k with
  | zero => intro w h1 h2; exact absurd h2 (by omega)
  | succ k ih =>
    intro w h1 h2
    refine J_iload_n (nx := 58) dX1_copy_57 rfl rfl ?_
    refine J_aload_n (nx := 59) dX1_copy_58 rfl rfl ?_
    refine Jg_8_6 (nx := 62) dX1_copy_59 rfl fl_X1_34 ?_
    refine Jn_17 (nx := 63) dX1_copy_62 rfl ?_
    refine J_icmp_ge (nx := 66) (tgt := 93) dX1_copy_63 rfl (by decide) (fun c_63 => ?_) (fun c_63 => ?_)
    · obtain rfl : w = 4 := cge h1 (by omega) c_63
      exact hK
    · have hw : w < 4 := clt h1 (by omega) c_63
      have ih2 := ih (w + 1) (by omega) (by omega)
      rw [← nI_s w, itN_s (cpS 29 17) w g] at ih2
      have hX : RowOK (itN (cpS 29 17) w g) 29 := hR.congr (cpS_P 29 17 29 w (by decide) g) (cpS_T 29 17 w g)
      generalize itN (cpS 29 17) w g = X at ih2 hX ⊢
      refine J_iload_n (nx := 67) dX1_copy_66 rfl rfl ?_
      refine J_aload_n (nx := 68) dX1_copy_67 rfl rfl ?_
      refine Jg_20_6 (nx := 71) dX1_copy_68 rfl fl_X1_34 ?_
      refine Jn_29 (nx := 72) dX1_copy_71 rfl ?_
      refine J_icmp_ge (nx := 75) (tgt := 93) dX1_copy_72 rfl (by decide) (fun c_72 => ?_) (fun c_72 => ?_)
      · exact absurd c_72 (nlt_nI hw (by decide))
      · refine J_aload_n (nx := 76) dX1_copy_75 rfl rfl ?_
        refine Jg_8_6 (nx := 79) dX1_copy_76 rfl fl_X1_34 ?_
        refine J_iload_n (nx := 80) dX1_copy_79 rfl rfl ?_
        refine J_aload_n (nx := 81) dX1_copy_80 rfl rfl ?_
        refine Jg_20_6 (nx := 84) dX1_copy_81 rfl fl_X1_34 ?_
        refine J_iload_n (nx := 85) dX1_copy_84 rfl rfl ?_
        refine Ja_29 (nx := 86) dX1_copy_85 rfl (vp_in_nI hw (by decide)) ?_
        rw [nI_clamp (by omega)]
        refine J_aastR (nx := 87) dX1_copy_86 rfl rfl (fun _ => rfl) hw (fun z hz => hX w hw z hz) ?_
        refine J_iinc (nx := 90) dX1_copy_87 rfl rfl rfl (Nat.le_of_ble_eq_true rfl) ?_
        refine J_goto (nx := 57) dX1_copy_90 (by decide) ?_
        exact ih2
theorem lp_copy0_8_20 (g : GS) (hR : RowOK g 29) (Q : Res → List ME → Prop) (n0 : Nat) (hK : J mX1_copy (rm 1 0 0) Q n0 93 [some (.ref 8), some (.ref 20), some (.int (nI 4))] [] (Wd (itN (cpS 29 17) 4 g)) 0 0) : J mX1_copy (rm 1 0 0) Q n0 57 [some (.ref 8), some (.ref 20), some (.int 0)] [] (Wd g) 0 0 := lp_copy_8_20 g hR Q n0 hK 5 0 (by omega) (by omega)

set_option maxRecDepth 100000 in
set_option maxHeartbeats 4000000 in
theorem sg_copy_8_20 (g : GS) (c : Nat) (hV : gV g 20 7 = .ref c) (hB : narrow .boolean (.int (gF g 20 8)) = .int (gF g 20 8)) (hB2 : fits .boolean (.int (gF g 20 8)) = true) (n0 : Nat) : J mX1_copy (rm 1 0 0) (RR (.inl none) (bkB 20 8 g)) n0 93 [some (.ref 8), some (.ref 20), some (.int (nI 4))] [] (Wd g) 0 0 := by
  unfold bkB
  rw [hV]
  refine J_aload_n (nx := 94) dX1_copy_93 rfl rfl ?_
  refine J_aload_n (nx := 95) dX1_copy_94 rfl rfl ?_
  refine Jg_20_7 (nx := 98) dX1_copy_95 rfl fl_X1_38 ?_
  rw [hV]
  refine Jp_8_7 (nx := 101) dX1_copy_98 rfl fl_X1_38 ?_
  refine J.gen (fun g_98 hg_98 => ?_)
  refine J_aload_n (nx := 102) dX1_copy_101 rfl rfl ?_
  refine J_aload_n (nx := 103) dX1_copy_102 rfl rfl ?_
  refine Jg_20_8 (nx := 106) dX1_copy_103 rfl fl_X1_54 ?_
  refine Jp_8_8 (nx := 109) dX1_copy_106 rfl fl_X1_54 (by rw [hg_98]; exact hB) (by rw [hg_98]; exact hB2) ?_
  refine J.gen (fun g_106 hg_106 => ?_)
  refine J_aload_n (nx := 110) dX1_copy_109 rfl rfl ?_
  refine J_aload_n (nx := 111) dX1_copy_110 rfl rfl ?_
  refine Jg_20_9 (nx := 114) dX1_copy_111 rfl fl_X1_58 ?_
  refine Jp_8_9 (nx := 117) dX1_copy_114 rfl fl_X1_58 ?_
  refine J.gen (fun g_114 hg_114 => ?_)
  refine J_aload_n (nx := 118) dX1_copy_117 rfl rfl ?_
  refine J_aload_n (nx := 119) dX1_copy_118 rfl rfl ?_
  refine Jg_20_10 (nx := 122) dX1_copy_119 rfl fl_X1_61 ?_
  refine Jp_8_10 (nx := 125) dX1_copy_122 rfl fl_X1_61 ?_
  refine J.gen (fun g_122 hg_122 => ?_)
  refine J_aload_n (nx := 126) dX1_copy_125 rfl rfl ?_
  refine J_aload_n (nx := 127) dX1_copy_126 rfl rfl ?_
  refine Jg_20_11 (nx := 130) dX1_copy_127 rfl fl_X1_64 ?_
  refine Jp_8_11 (nx := 133) dX1_copy_130 rfl fl_X1_64 ?_
  refine J.gen (fun g_130 hg_130 => ?_)
  refine J_aload_n (nx := 134) dX1_copy_133 rfl rfl ?_
  refine J_aload_n (nx := 135) dX1_copy_134 rfl rfl ?_
  refine Jg_20_12 (nx := 138) dX1_copy_135 rfl fl_X1_41 ?_
  refine Jp_8_12 (nx := 141) dX1_copy_138 rfl fl_X1_41 ?_
  refine J.gen (fun g_138 hg_138 => ?_)
  refine J_aload_n (nx := 142) dX1_copy_141 rfl rfl ?_
  refine J_aload_n (nx := 143) dX1_copy_142 rfl rfl ?_
  refine Jg_20_13 (nx := 146) dX1_copy_143 rfl fl_X1_45 ?_
  refine Jp_8_13 (nx := 149) dX1_copy_146 rfl fl_X1_45 ?_
  refine J.gen (fun g_146 hg_146 => ?_)
  refine J_aload_n (nx := 150) dX1_copy_149 rfl rfl ?_
  refine J_aload_n (nx := 151) dX1_copy_150 rfl rfl ?_
  refine Jg_20_14 (nx := 154) dX1_copy_151 rfl fl_X1_67 ?_
  refine Jp_8_14 (nx := 157) dX1_copy_154 rfl fl_X1_67 ?_
  refine J.gen (fun g_154 hg_154 => ?_)
  refine J_aload_n (nx := 158) dX1_copy_157 rfl rfl ?_
  refine J_aload_n (nx := 159) dX1_copy_158 rfl rfl ?_
  refine Jg_20_15 (nx := 162) dX1_copy_159 rfl fl_X1_70 ?_
  refine Jp_8_15 (nx := 165) dX1_copy_162 rfl fl_X1_70 ?_
  refine J.gen (fun g_162 hg_162 => ?_)
  refine J_aload_n (nx := 166) dX1_copy_165 rfl rfl ?_
  refine J_aload_n (nx := 167) dX1_copy_166 rfl rfl ?_
  refine Jg_20_16 (nx := 170) dX1_copy_167 rfl fl_X1_73 ?_
  refine Jp_8_16 (nx := 173) dX1_copy_170 rfl fl_X1_73 ?_
  refine J.gen (fun g_170 hg_170 => ?_)
  refine J_aload_n (nx := 174) dX1_copy_173 rfl rfl ?_
  refine J_aload_n (nx := 175) dX1_copy_174 rfl rfl ?_
  refine Jg_20_17 (nx := 178) dX1_copy_175 rfl fl_X1_76 ?_
  refine Jp_8_17 (nx := 181) dX1_copy_178 rfl fl_X1_76 ?_
  refine J.gen (fun g_178 hg_178 => ?_)
  subst hg_178
  subst hg_170
  subst hg_162
  subst hg_154
  subst hg_146
  subst hg_138
  subst hg_130
  subst hg_122
  subst hg_114
  subst hg_106
  subst hg_98
  exact Jrv dX1_copy_181 rfl (Nat.zero_le _) (Nat.zero_le _) ⟨rfl, rfl⟩

set_option maxRecDepth 100000 in
set_option maxHeartbeats 4000000 in
theorem ct_copy_8_20 (g : GS) (c : Nat) (hR : RowOK g 29) (hV : gV g 20 7 = .ref c) (hB : narrow .boolean (.int (gF g 20 8)) = .int (gF g 20 8)) (hB2 : fits .boolean (.int (gF g 20 8)) = true) : Ct mX1_copy (rm 1 0 0) [.ref 8, .ref 20] (Wd g) (RR (.inl none) (bkC 20 8 g)) := by
  refine Ct.of (by decide +kernel) (Nat.le_of_ble_eq_true rfl) ?_
  show J _ _ _ _ 0 [some (.ref 8), some (.ref 20), none] [] _ 0 0
  refine J_aload_n (nx := 1) dX1_copy_0 rfl rfl ?_
  refine Jg_20_0 (nx := 4) dX1_copy_1 rfl fl_X1_11 ?_
  refine J_aload_n (nx := 5) dX1_copy_4 rfl rfl ?_
  refine Jg_8_0 (nx := 8) dX1_copy_5 rfl fl_X1_11 ?_
  refine JcS2 (R' := rm 0 0 0) (nx := 11) dX1_copy_8 rfl ml_X6_copy lk_X1_48 st_X6_copy ⟨(Nat.le_of_ble_eq_true rfl), (Nat.le_of_ble_eq_true rfl)⟩ (Nat.le_of_ble_eq_true rfl) ⟨rfl, rfl⟩ (ct_copy _ 21 9 1088 1088 _ (by decide) rfl rfl (fun _ => rfl) (by decide) (by decide)) ?_
  refine J.gen (fun g_8 hg_8 => ?_)
  refine J_aload_n (nx := 12) dX1_copy_11 rfl rfl ?_
  refine Jg_20_1 (nx := 15) dX1_copy_12 rfl fl_X1_15 ?_
  refine J_aload_n (nx := 16) dX1_copy_15 rfl rfl ?_
  refine Jg_8_1 (nx := 19) dX1_copy_16 rfl fl_X1_15 ?_
  refine JcS2 (R' := rm 0 0 0) (nx := 22) dX1_copy_19 rfl ml_X6_copy lk_X1_48 st_X6_copy ⟨(Nat.le_of_ble_eq_true rfl), (Nat.le_of_ble_eq_true rfl)⟩ (Nat.le_of_ble_eq_true rfl) ⟨rfl, rfl⟩ (ct_copy _ 22 10 8 8 _ (by decide) rfl rfl (fun _ => rfl) (by decide) (by decide)) ?_
  refine J.gen (fun g_19 hg_19 => ?_)
  refine J_aload_n (nx := 23) dX1_copy_22 rfl rfl ?_
  refine Jg_20_2 (nx := 26) dX1_copy_23 rfl fl_X1_18 ?_
  refine J_aload_n (nx := 27) dX1_copy_26 rfl rfl ?_
  refine Jg_8_2 (nx := 30) dX1_copy_27 rfl fl_X1_18 ?_
  refine JcS2 (R' := rm 0 0 0) (nx := 33) dX1_copy_30 rfl ml_X6_copy lk_X1_48 st_X6_copy ⟨(Nat.le_of_ble_eq_true rfl), (Nat.le_of_ble_eq_true rfl)⟩ (Nat.le_of_ble_eq_true rfl) ⟨rfl, rfl⟩ (ct_copy _ 23 11 6 6 _ (by decide) rfl rfl (fun _ => rfl) (by decide) (by decide)) ?_
  refine J.gen (fun g_30 hg_30 => ?_)
  refine J_aload_n (nx := 34) dX1_copy_33 rfl rfl ?_
  refine Jg_20_3 (nx := 37) dX1_copy_34 rfl fl_X1_21 ?_
  refine J_aload_n (nx := 38) dX1_copy_37 rfl rfl ?_
  refine Jg_8_3 (nx := 41) dX1_copy_38 rfl fl_X1_21 ?_
  refine JcS2 (R' := rm 0 0 0) (nx := 44) dX1_copy_41 rfl ml_X6_copy lk_X1_48 st_X6_copy ⟨(Nat.le_of_ble_eq_true rfl), (Nat.le_of_ble_eq_true rfl)⟩ (Nat.le_of_ble_eq_true rfl) ⟨rfl, rfl⟩ (ct_copy _ 24 12 6 6 _ (by decide) rfl rfl (fun _ => rfl) (by decide) (by decide)) ?_
  refine J.gen (fun g_41 hg_41 => ?_)
  refine J_aload_n (nx := 45) dX1_copy_44 rfl rfl ?_
  refine Jg_20_4 (nx := 48) dX1_copy_45 rfl fl_X1_24 ?_
  refine J_aload_n (nx := 49) dX1_copy_48 rfl rfl ?_
  refine Jg_8_4 (nx := 52) dX1_copy_49 rfl fl_X1_24 ?_
  refine JcS2 (R' := rm 0 0 0) (nx := 55) dX1_copy_52 rfl ml_X6_copy lk_X1_48 st_X6_copy ⟨(Nat.le_of_ble_eq_true rfl), (Nat.le_of_ble_eq_true rfl)⟩ (Nat.le_of_ble_eq_true rfl) ⟨rfl, rfl⟩ (ct_copy _ 25 13 192 192 _ (by decide) rfl rfl (fun _ => rfl) (by decide) (by decide)) ?_
  refine J.gen (fun g_52 hg_52 => ?_)
  refine J_iconst (nx := 56) (i := 0) (v := 0) (by decide) dX1_copy_55 rfl ?_
  refine J_istore_n (nx := 57) dX1_copy_56 rfl rfl (Nat.le_of_ble_eq_true rfl) ?_
  have e : bkA 20 8 g = g_52 := by rw [hg_52, hg_41, hg_30, hg_19, hg_8]; rfl
  unfold bkC
  rw [e]
  refine lp_copy0_8_20 g_52 (hR.congr (by rw [← e]; rfl) (by rw [← e]; rfl)) _ _ ?_
  exact sg_copy_8_20 _ c (by rw [cpS_V, ← e]; exact hV) (by rw [cpS_F, ← e]; exact hB) (by rw [cpS_F, ← e]; exact hB2) _

set_option maxRecDepth 100000 in
set_option maxHeartbeats 4000000 in
theorem lp_copy_30_20 (g : GS) (hR : RowOK g 29) (Q : Res → List ME → Prop) (n0 : Nat) (hK : J mX1_copy (rm 1 0 0) Q n0 93 [some (.ref 30), some (.ref 20), some (.int (nI 4))] [] (Wd (itN (cpS 29 39) 4 g)) 0 0) : ∀ (k w : Nat), w ≤ 4 → 4 + 1 ≤ w + k → J mX1_copy (rm 1 0 0) Q n0 57 [some (.ref 30), some (.ref 20), some (.int (nI w))] [] (Wd (itN (cpS 29 39) w g)) 0 0 := by
  intro k
  induction k with
  | zero => intro w h1 h2; exact absurd h2 (by omega)
  | succ k ih =>
    intro w h1 h2
    refine J_iload_n (nx := 58) dX1_copy_57 rfl rfl ?_
    refine J_aload_n (nx := 59) dX1_copy_58 rfl rfl ?_
    refine Jg_30_6 (nx := 62) dX1_copy_59 rfl fl_X1_34 ?_
    refine Jn_39 (nx := 63) dX1_copy_62 rfl ?_
    refine J_icmp_ge (nx := 66) (tgt := 93) dX1_copy_63 rfl (by decide) (fun c_63 => ?_) (fun c_63 => ?_)
    · obtain rfl : w = 4 := cge h1 (by omega) c_63
      exact hK
    · have hw : w < 4 := clt h1 (by omega) c_63
      have ih2 := ih (w + 1) (by omega) (by omega)
      rw [← nI_s w, itN_s (cpS 29 39) w g] at ih2
      have hX : RowOK (itN (cpS 29 39) w g) 29 := hR.congr (cpS_P 29 39 29 w (by decide) g) (cpS_T 29 39 w g)
      generalize itN (cpS 29 39) w g = X at ih2 hX ⊢
      refine J_iload_n (nx := 67) dX1_copy_66 rfl rfl ?_
      refine J_aload_n (nx := 68) dX1_copy_67 rfl rfl ?_
      refine Jg_20_6 (nx := 71) dX1_copy_68 rfl fl_X1_34 ?_
      refine Jn_29 (nx := 72) dX1_copy_71 rfl ?_
      refine J_icmp_ge (nx := 75) (tgt := 93) dX1_copy_72 rfl (by decide) (fun c_72 => ?_) (fun c_72 => ?_)
      · exact absurd c_72 (nlt_nI hw (by decide))
      · refine J_aload_n (nx := 76) dX1_copy_75 rfl rfl ?_
        refine Jg_30_6 (nx := 79) dX1_copy_76 rfl fl_X1_34 ?_
        refine J_iload_n (nx := 80) dX1_copy_79 rfl rfl ?_
        refine J_aload_n (nx := 81) dX1_copy_80 rfl rfl ?_
        refine Jg_20_6 (nx := 84) dX1_copy_81 rfl fl_X1_34 ?_
        refine J_iload_n (nx := 85) dX1_copy_84 rfl rfl ?_
        refine Ja_29 (nx := 86) dX1_copy_85 rfl (vp_in_nI hw (by decide)) ?_
        rw [nI_clamp (by omega)]
        refine J_aastR (nx := 87) dX1_copy_86 rfl rfl (fun _ => rfl) hw (fun z hz => hX w hw z hz) ?_
        refine J_iinc (nx := 90) dX1_copy_87 rfl rfl rfl (Nat.le_of_ble_eq_true rfl) ?_
        refine J_goto (nx := 57) dX1_copy_90 (by decide) ?_
        exact ih2
theorem lp_copy0_30_20 (g : GS) (hR : RowOK g 29) (Q : Res → List ME → Prop) (n0 : Nat) (hK : J mX1_copy (rm 1 0 0) Q n0 93 [some (.ref 30), some (.ref 20), some (.int (nI 4))] [] (Wd (itN (cpS 29 39) 4 g)) 0 0) : J mX1_copy (rm 1 0 0) Q n0 57 [some (.ref 30), some (.ref 20), some (.int 0)] [] (Wd g) 0 0 := lp_copy_30_20 g hR Q n0 hK 5 0 (by omega) (by omega)

set_option maxRecDepth 100000 in
set_option maxHeartbeats 4000000 in
theorem sg_copy_30_20 (g : GS) (c : Nat) (hV : gV g 20 7 = .ref c) (hB : narrow .boolean (.int (gF g 20 8)) = .int (gF g 20 8)) (hB2 : fits .boolean (.int (gF g 20 8)) = true) (n0 : Nat) : J mX1_copy (rm 1 0 0) (RR (.inl none) (bkB 20 30 g)) n0 93 [some (.ref 30), some (.ref 20), some (.int (nI 4))] [] (Wd g) 0 0 := by
  unfold bkB
  rw [hV]
  refine J_aload_n (nx := 94) dX1_copy_93 rfl rfl ?_
  refine J_aload_n (nx := 95) dX1_copy_94 rfl rfl ?_
  refine Jg_20_7 (nx := 98) dX1_copy_95 rfl fl_X1_38 ?_
  rw [hV]
  refine Jp_30_7 (nx := 101) dX1_copy_98 rfl fl_X1_38 ?_
  refine J.gen (fun g_98 hg_98 => ?_)
  refine J_aload_n (nx := 102) dX1_copy_101 rfl rfl ?_
  refine J_aload_n (nx := 103) dX1_copy_102 rfl rfl ?_
  refine Jg_20_8 (nx := 106) dX1_copy_103 rfl fl_X1_54 ?_
  refine Jp_30_8 (nx := 109) dX1_copy_106 rfl fl_X1_54 (by rw [hg_98]; exact hB) (by rw [hg_98]; exact hB2) ?_
  refine J.gen (fun g_106 hg_106 => ?_)
  refine J_aload_n (nx := 110) dX1_copy_109 rfl rfl ?_
  refine J_aload_n (nx := 111) dX1_copy_110 rfl rfl ?_
  refine Jg_20_9 (nx := 114) dX1_copy_111 rfl fl_X1_58 ?_
  refine Jp_30_9 (nx := 117) dX1_copy_114 rfl fl_X1_58 ?_
  refine J.gen (fun g_114 hg_114 => ?_)
  refine J_aload_n (nx := 118) dX1_copy_117 rfl rfl ?_
  refine J_aload_n (nx := 119) dX1_copy_118 rfl rfl ?_
  refine Jg_20_10 (nx := 122) dX1_copy_119 rfl fl_X1_61 ?_
  refine Jp_30_10 (nx := 125) dX1_copy_122 rfl fl_X1_61 ?_
  refine J.gen (fun g_122 hg_122 => ?_)
  refine J_aload_n (nx := 126) dX1_copy_125 rfl rfl ?_
  refine J_aload_n (nx := 127) dX1_copy_126 rfl rfl ?_
  refine Jg_20_11 (nx := 130) dX1_copy_127 rfl fl_X1_64 ?_
  refine Jp_30_11 (nx := 133) dX1_copy_130 rfl fl_X1_64 ?_
  refine J.gen (fun g_130 hg_130 => ?_)
  refine J_aload_n (nx := 134) dX1_copy_133 rfl rfl ?_
  refine J_aload_n (nx := 135) dX1_copy_134 rfl rfl ?_
  refine Jg_20_12 (nx := 138) dX1_copy_135 rfl fl_X1_41 ?_
  refine Jp_30_12 (nx := 141) dX1_copy_138 rfl fl_X1_41 ?_
  refine J.gen (fun g_138 hg_138 => ?_)
  refine J_aload_n (nx := 142) dX1_copy_141 rfl rfl ?_
  refine J_aload_n (nx := 143) dX1_copy_142 rfl rfl ?_
  refine Jg_20_13 (nx := 146) dX1_copy_143 rfl fl_X1_45 ?_
  refine Jp_30_13 (nx := 149) dX1_copy_146 rfl fl_X1_45 ?_
  refine J.gen (fun g_146 hg_146 => ?_)
  refine J_aload_n (nx := 150) dX1_copy_149 rfl rfl ?_
  refine J_aload_n (nx := 151) dX1_copy_150 rfl rfl ?_
  refine Jg_20_14 (nx := 154) dX1_copy_151 rfl fl_X1_67 ?_
  refine Jp_30_14 (nx := 157) dX1_copy_154 rfl fl_X1_67 ?_
  refine J.gen (fun g_154 hg_154 => ?_)
  refine J_aload_n (nx := 158) dX1_copy_157 rfl rfl ?_
  refine J_aload_n (nx := 159) dX1_copy_158 rfl rfl ?_
  refine Jg_20_15 (nx := 162) dX1_copy_159 rfl fl_X1_70 ?_
  refine Jp_30_15 (nx := 165) dX1_copy_162 rfl fl_X1_70 ?_
  refine J.gen (fun g_162 hg_162 => ?_)
  refine J_aload_n (nx := 166) dX1_copy_165 rfl rfl ?_
  refine J_aload_n (nx := 167) dX1_copy_166 rfl rfl ?_
  refine Jg_20_16 (nx := 170) dX1_copy_167 rfl fl_X1_73 ?_
  refine Jp_30_16 (nx := 173) dX1_copy_170 rfl fl_X1_73 ?_
  refine J.gen (fun g_170 hg_170 => ?_)
  refine J_aload_n (nx := 174) dX1_copy_173 rfl rfl ?_
  refine J_aload_n (nx := 175) dX1_copy_174 rfl rfl ?_
  refine Jg_20_17 (nx := 178) dX1_copy_175 rfl fl_X1_76 ?_
  refine Jp_30_17 (nx := 181) dX1_copy_178 rfl fl_X1_76 ?_
  refine J.gen (fun g_178 hg_178 => ?_)
  subst hg_178
  subst hg_170
  subst hg_162
  subst hg_154
  subst hg_146
  subst hg_138
  subst hg_130
  subst hg_122
  subst hg_114
  subst hg_106
  subst hg_98
  exact Jrv dX1_copy_181 rfl (Nat.zero_le _) (Nat.zero_le _) ⟨rfl, rfl⟩

set_option maxRecDepth 100000 in
set_option maxHeartbeats 4000000 in
theorem ct_copy_30_20 (g : GS) (c : Nat) (hR : RowOK g 29) (hV : gV g 20 7 = .ref c) (hB : narrow .boolean (.int (gF g 20 8)) = .int (gF g 20 8)) (hB2 : fits .boolean (.int (gF g 20 8)) = true) : Ct mX1_copy (rm 1 0 0) [.ref 30, .ref 20] (Wd g) (RR (.inl none) (bkC 20 30 g)) := by
  refine Ct.of (by decide +kernel) (Nat.le_of_ble_eq_true rfl) ?_
  show J _ _ _ _ 0 [some (.ref 30), some (.ref 20), none] [] _ 0 0
  refine J_aload_n (nx := 1) dX1_copy_0 rfl rfl ?_
  refine Jg_20_0 (nx := 4) dX1_copy_1 rfl fl_X1_11 ?_
  refine J_aload_n (nx := 5) dX1_copy_4 rfl rfl ?_
  refine Jg_30_0 (nx := 8) dX1_copy_5 rfl fl_X1_11 ?_
  refine JcS2 (R' := rm 0 0 0) (nx := 11) dX1_copy_8 rfl ml_X6_copy lk_X1_48 st_X6_copy ⟨(Nat.le_of_ble_eq_true rfl), (Nat.le_of_ble_eq_true rfl)⟩ (Nat.le_of_ble_eq_true rfl) ⟨rfl, rfl⟩ (ct_copy _ 21 31 1088 1088 _ (by decide) rfl rfl (fun _ => rfl) (by decide) (by decide)) ?_
  refine J.gen (fun g_8 hg_8 => ?_)
  refine J_aload_n (nx := 12) dX1_copy_11 rfl rfl ?_
  refine Jg_20_1 (nx := 15) dX1_copy_12 rfl fl_X1_15 ?_
  refine J_aload_n (nx := 16) dX1_copy_15 rfl rfl ?_
  refine Jg_30_1 (nx := 19) dX1_copy_16 rfl fl_X1_15 ?_
  refine JcS2 (R' := rm 0 0 0) (nx := 22) dX1_copy_19 rfl ml_X6_copy lk_X1_48 st_X6_copy ⟨(Nat.le_of_ble_eq_true rfl), (Nat.le_of_ble_eq_true rfl)⟩ (Nat.le_of_ble_eq_true rfl) ⟨rfl, rfl⟩ (ct_copy _ 22 32 8 8 _ (by decide) rfl rfl (fun _ => rfl) (by decide) (by decide)) ?_
  refine J.gen (fun g_19 hg_19 => ?_)
  refine J_aload_n (nx := 23) dX1_copy_22 rfl rfl ?_
  refine Jg_20_2 (nx := 26) dX1_copy_23 rfl fl_X1_18 ?_
  refine J_aload_n (nx := 27) dX1_copy_26 rfl rfl ?_
  refine Jg_30_2 (nx := 30) dX1_copy_27 rfl fl_X1_18 ?_
  refine JcS2 (R' := rm 0 0 0) (nx := 33) dX1_copy_30 rfl ml_X6_copy lk_X1_48 st_X6_copy ⟨(Nat.le_of_ble_eq_true rfl), (Nat.le_of_ble_eq_true rfl)⟩ (Nat.le_of_ble_eq_true rfl) ⟨rfl, rfl⟩ (ct_copy _ 23 33 6 6 _ (by decide) rfl rfl (fun _ => rfl) (by decide) (by decide)) ?_
  refine J.gen (fun g_30 hg_30 => ?_)
  refine J_aload_n (nx := 34) dX1_copy_33 rfl rfl ?_
  refine Jg_20_3 (nx := 37) dX1_copy_34 rfl fl_X1_21 ?_
  refine J_aload_n (nx := 38) dX1_copy_37 rfl rfl ?_
  refine Jg_30_3 (nx := 41) dX1_copy_38 rfl fl_X1_21 ?_
  refine JcS2 (R' := rm 0 0 0) (nx := 44) dX1_copy_41 rfl ml_X6_copy lk_X1_48 st_X6_copy ⟨(Nat.le_of_ble_eq_true rfl), (Nat.le_of_ble_eq_true rfl)⟩ (Nat.le_of_ble_eq_true rfl) ⟨rfl, rfl⟩ (ct_copy _ 24 34 6 6 _ (by decide) rfl rfl (fun _ => rfl) (by decide) (by decide)) ?_
  refine J.gen (fun g_41 hg_41 => ?_)
  refine J_aload_n (nx := 45) dX1_copy_44 rfl rfl ?_
  refine Jg_20_4 (nx := 48) dX1_copy_45 rfl fl_X1_24 ?_
  refine J_aload_n (nx := 49) dX1_copy_48 rfl rfl ?_
  refine Jg_30_4 (nx := 52) dX1_copy_49 rfl fl_X1_24 ?_
  refine JcS2 (R' := rm 0 0 0) (nx := 55) dX1_copy_52 rfl ml_X6_copy lk_X1_48 st_X6_copy ⟨(Nat.le_of_ble_eq_true rfl), (Nat.le_of_ble_eq_true rfl)⟩ (Nat.le_of_ble_eq_true rfl) ⟨rfl, rfl⟩ (ct_copy _ 25 35 192 192 _ (by decide) rfl rfl (fun _ => rfl) (by decide) (by decide)) ?_
  refine J.gen (fun g_52 hg_52 => ?_)
  refine J_iconst (nx := 56) (i := 0) (v := 0) (by decide) dX1_copy_55 rfl ?_
  refine J_istore_n (nx := 57) dX1_copy_56 rfl rfl (Nat.le_of_ble_eq_true rfl) ?_
  have e : bkA 20 30 g = g_52 := by rw [hg_52, hg_41, hg_30, hg_19, hg_8]; rfl
  unfold bkC
  rw [e]
  refine lp_copy0_30_20 g_52 (hR.congr (by rw [← e]; rfl) (by rw [← e]; rfl)) _ _ ?_
  exact sg_copy_30_20 _ c (by rw [cpS_V, ← e]; exact hV) (by rw [cpS_F, ← e]; exact hB) (by rw [cpS_F, ← e]; exact hB2) _

set_option maxRecDepth 100000 in
set_option maxHeartbeats 4000000 in
theorem lp_copy_20_30 (g : GS) (hR : RowOK g 39) (Q : Res → List ME → Prop) (n0 : Nat) (hK : J mX1_copy (rm 1 0 0) Q n0 93 [some (.ref 20), some (.ref 30), some (.int (nI 4))] [] (Wd (itN (cpS 39 29) 4 g)) 0 0) : ∀ (k w : Nat), w ≤ 4 → 4 + 1 ≤ w + k → J mX1_copy (rm 1 0 0) Q n0 57 [some (.ref 20), some (.ref 30), some (.int (nI w))] [] (Wd (itN (cpS 39 29) w g)) 0 0 := by
  intro k
  induction k with
  | zero => intro w h1 h2; exact absurd h2 (by omega)
  | succ k ih =>
    intro w h1 h2
    refine J_iload_n (nx := 58) dX1_copy_57 rfl rfl ?_
    refine J_aload_n (nx := 59) dX1_copy_58 rfl rfl ?_
    refine Jg_20_6 (nx := 62) dX1_copy_59 rfl fl_X1_34 ?_
    refine Jn_29 (nx := 63) dX1_copy_62 rfl ?_
    refine J_icmp_ge (nx := 66) (tgt := 93) dX1_copy_63 rfl (by decide) (fun c_63 => ?_) (fun c_63 => ?_)
    · obtain rfl : w = 4 := cge h1 (by omega) c_63
      exact hK
    · have hw : w < 4 := clt h1 (by omega) c_63
      have ih2 := ih (w + 1) (by omega) (by omega)
      rw [← nI_s w, itN_s (cpS 39 29) w g] at ih2
      have hX : RowOK (itN (cpS 39 29) w g) 39 := hR.congr (cpS_P 39 29 39 w (by decide) g) (cpS_T 39 29 w g)
      generalize itN (cpS 39 29) w g = X at ih2 hX ⊢
      refine J_iload_n (nx := 67) dX1_copy_66 rfl rfl ?_
      refine J_aload_n (nx := 68) dX1_copy_67 rfl rfl ?_
      refine Jg_30_6 (nx := 71) dX1_copy_68 rfl fl_X1_34 ?_
      refine Jn_39 (nx := 72) dX1_copy_71 rfl ?_
      refine J_icmp_ge (nx := 75) (tgt := 93) dX1_copy_72 rfl (by decide) (fun c_72 => ?_) (fun c_72 => ?_)
      · exact absurd c_72 (nlt_nI hw (by decide))
      · refine J_aload_n (nx := 76) dX1_copy_75 rfl rfl ?_
        refine Jg_20_6 (nx := 79) dX1_copy_76 rfl fl_X1_34 ?_
        refine J_iload_n (nx := 80) dX1_copy_79 rfl rfl ?_
        refine J_aload_n (nx := 81) dX1_copy_80 rfl rfl ?_
        refine Jg_30_6 (nx := 84) dX1_copy_81 rfl fl_X1_34 ?_
        refine J_iload_n (nx := 85) dX1_copy_84 rfl rfl ?_
        refine Ja_39 (nx := 86) dX1_copy_85 rfl (vp_in_nI hw (by decide)) ?_
        rw [nI_clamp (by omega)]
        refine J_aastR (nx := 87) dX1_copy_86 rfl rfl (fun _ => rfl) hw (fun z hz => hX w hw z hz) ?_
        refine J_iinc (nx := 90) dX1_copy_87 rfl rfl rfl (Nat.le_of_ble_eq_true rfl) ?_
        refine J_goto (nx := 57) dX1_copy_90 (by decide) ?_
        exact ih2
theorem lp_copy0_20_30 (g : GS) (hR : RowOK g 39) (Q : Res → List ME → Prop) (n0 : Nat) (hK : J mX1_copy (rm 1 0 0) Q n0 93 [some (.ref 20), some (.ref 30), some (.int (nI 4))] [] (Wd (itN (cpS 39 29) 4 g)) 0 0) : J mX1_copy (rm 1 0 0) Q n0 57 [some (.ref 20), some (.ref 30), some (.int 0)] [] (Wd g) 0 0 := lp_copy_20_30 g hR Q n0 hK 5 0 (by omega) (by omega)

set_option maxRecDepth 100000 in
set_option maxHeartbeats 4000000 in
theorem sg_copy_20_30 (g : GS) (c : Nat) (hV : gV g 30 7 = .ref c) (hB : narrow .boolean (.int (gF g 30 8)) = .int (gF g 30 8)) (hB2 : fits .boolean (.int (gF g 30 8)) = true) (n0 : Nat) : J mX1_copy (rm 1 0 0) (RR (.inl none) (bkB 30 20 g)) n0 93 [some (.ref 20), some (.ref 30), some (.int (nI 4))] [] (Wd g) 0 0 := by
  unfold bkB
  rw [hV]
  refine J_aload_n (nx := 94) dX1_copy_93 rfl rfl ?_
  refine J_aload_n (nx := 95) dX1_copy_94 rfl rfl ?_
  refine Jg_30_7 (nx := 98) dX1_copy_95 rfl fl_X1_38 ?_
  rw [hV]
  refine Jp_20_7 (nx := 101) dX1_copy_98 rfl fl_X1_38 ?_
  refine J.gen (fun g_98 hg_98 => ?_)
  refine J_aload_n (nx := 102) dX1_copy_101 rfl rfl ?_
  refine J_aload_n (nx := 103) dX1_copy_102 rfl rfl ?_
  refine Jg_30_8 (nx := 106) dX1_copy_103 rfl fl_X1_54 ?_
  refine Jp_20_8 (nx := 109) dX1_copy_106 rfl fl_X1_54 (by rw [hg_98]; exact hB) (by rw [hg_98]; exact hB2) ?_
  refine J.gen (fun g_106 hg_106 => ?_)
  refine J_aload_n (nx := 110) dX1_copy_109 rfl rfl ?_
  refine J_aload_n (nx := 111) dX1_copy_110 rfl rfl ?_
  refine Jg_30_9 (nx := 114) dX1_copy_111 rfl fl_X1_58 ?_
  refine Jp_20_9 (nx := 117) dX1_copy_114 rfl fl_X1_58 ?_
  refine J.gen (fun g_114 hg_114 => ?_)
  refine J_aload_n (nx := 118) dX1_copy_117 rfl rfl ?_
  refine J_aload_n (nx := 119) dX1_copy_118 rfl rfl ?_
  refine Jg_30_10 (nx := 122) dX1_copy_119 rfl fl_X1_61 ?_
  refine Jp_20_10 (nx := 125) dX1_copy_122 rfl fl_X1_61 ?_
  refine J.gen (fun g_122 hg_122 => ?_)
  refine J_aload_n (nx := 126) dX1_copy_125 rfl rfl ?_
  refine J_aload_n (nx := 127) dX1_copy_126 rfl rfl ?_
  refine Jg_30_11 (nx := 130) dX1_copy_127 rfl fl_X1_64 ?_
  refine Jp_20_11 (nx := 133) dX1_copy_130 rfl fl_X1_64 ?_
  refine J.gen (fun g_130 hg_130 => ?_)
  refine J_aload_n (nx := 134) dX1_copy_133 rfl rfl ?_
  refine J_aload_n (nx := 135) dX1_copy_134 rfl rfl ?_
  refine Jg_30_12 (nx := 138) dX1_copy_135 rfl fl_X1_41 ?_
  refine Jp_20_12 (nx := 141) dX1_copy_138 rfl fl_X1_41 ?_
  refine J.gen (fun g_138 hg_138 => ?_)
  refine J_aload_n (nx := 142) dX1_copy_141 rfl rfl ?_
  refine J_aload_n (nx := 143) dX1_copy_142 rfl rfl ?_
  refine Jg_30_13 (nx := 146) dX1_copy_143 rfl fl_X1_45 ?_
  refine Jp_20_13 (nx := 149) dX1_copy_146 rfl fl_X1_45 ?_
  refine J.gen (fun g_146 hg_146 => ?_)
  refine J_aload_n (nx := 150) dX1_copy_149 rfl rfl ?_
  refine J_aload_n (nx := 151) dX1_copy_150 rfl rfl ?_
  refine Jg_30_14 (nx := 154) dX1_copy_151 rfl fl_X1_67 ?_
  refine Jp_20_14 (nx := 157) dX1_copy_154 rfl fl_X1_67 ?_
  refine J.gen (fun g_154 hg_154 => ?_)
  refine J_aload_n (nx := 158) dX1_copy_157 rfl rfl ?_
  refine J_aload_n (nx := 159) dX1_copy_158 rfl rfl ?_
  refine Jg_30_15 (nx := 162) dX1_copy_159 rfl fl_X1_70 ?_
  refine Jp_20_15 (nx := 165) dX1_copy_162 rfl fl_X1_70 ?_
  refine J.gen (fun g_162 hg_162 => ?_)
  refine J_aload_n (nx := 166) dX1_copy_165 rfl rfl ?_
  refine J_aload_n (nx := 167) dX1_copy_166 rfl rfl ?_
  refine Jg_30_16 (nx := 170) dX1_copy_167 rfl fl_X1_73 ?_
  refine Jp_20_16 (nx := 173) dX1_copy_170 rfl fl_X1_73 ?_
  refine J.gen (fun g_170 hg_170 => ?_)
  refine J_aload_n (nx := 174) dX1_copy_173 rfl rfl ?_
  refine J_aload_n (nx := 175) dX1_copy_174 rfl rfl ?_
  refine Jg_30_17 (nx := 178) dX1_copy_175 rfl fl_X1_76 ?_
  refine Jp_20_17 (nx := 181) dX1_copy_178 rfl fl_X1_76 ?_
  refine J.gen (fun g_178 hg_178 => ?_)
  subst hg_178
  subst hg_170
  subst hg_162
  subst hg_154
  subst hg_146
  subst hg_138
  subst hg_130
  subst hg_122
  subst hg_114
  subst hg_106
  subst hg_98
  exact Jrv dX1_copy_181 rfl (Nat.zero_le _) (Nat.zero_le _) ⟨rfl, rfl⟩

set_option maxRecDepth 100000 in
set_option maxHeartbeats 4000000 in
theorem ct_copy_20_30 (g : GS) (c : Nat) (hR : RowOK g 39) (hV : gV g 30 7 = .ref c) (hB : narrow .boolean (.int (gF g 30 8)) = .int (gF g 30 8)) (hB2 : fits .boolean (.int (gF g 30 8)) = true) : Ct mX1_copy (rm 1 0 0) [.ref 20, .ref 30] (Wd g) (RR (.inl none) (bkC 30 20 g)) := by
  refine Ct.of (by decide +kernel) (Nat.le_of_ble_eq_true rfl) ?_
  show J _ _ _ _ 0 [some (.ref 20), some (.ref 30), none] [] _ 0 0
  refine J_aload_n (nx := 1) dX1_copy_0 rfl rfl ?_
  refine Jg_30_0 (nx := 4) dX1_copy_1 rfl fl_X1_11 ?_
  refine J_aload_n (nx := 5) dX1_copy_4 rfl rfl ?_
  refine Jg_20_0 (nx := 8) dX1_copy_5 rfl fl_X1_11 ?_
  refine JcS2 (R' := rm 0 0 0) (nx := 11) dX1_copy_8 rfl ml_X6_copy lk_X1_48 st_X6_copy ⟨(Nat.le_of_ble_eq_true rfl), (Nat.le_of_ble_eq_true rfl)⟩ (Nat.le_of_ble_eq_true rfl) ⟨rfl, rfl⟩ (ct_copy _ 31 21 1088 1088 _ (by decide) rfl rfl (fun _ => rfl) (by decide) (by decide)) ?_
  refine J.gen (fun g_8 hg_8 => ?_)
  refine J_aload_n (nx := 12) dX1_copy_11 rfl rfl ?_
  refine Jg_30_1 (nx := 15) dX1_copy_12 rfl fl_X1_15 ?_
  refine J_aload_n (nx := 16) dX1_copy_15 rfl rfl ?_
  refine Jg_20_1 (nx := 19) dX1_copy_16 rfl fl_X1_15 ?_
  refine JcS2 (R' := rm 0 0 0) (nx := 22) dX1_copy_19 rfl ml_X6_copy lk_X1_48 st_X6_copy ⟨(Nat.le_of_ble_eq_true rfl), (Nat.le_of_ble_eq_true rfl)⟩ (Nat.le_of_ble_eq_true rfl) ⟨rfl, rfl⟩ (ct_copy _ 32 22 8 8 _ (by decide) rfl rfl (fun _ => rfl) (by decide) (by decide)) ?_
  refine J.gen (fun g_19 hg_19 => ?_)
  refine J_aload_n (nx := 23) dX1_copy_22 rfl rfl ?_
  refine Jg_30_2 (nx := 26) dX1_copy_23 rfl fl_X1_18 ?_
  refine J_aload_n (nx := 27) dX1_copy_26 rfl rfl ?_
  refine Jg_20_2 (nx := 30) dX1_copy_27 rfl fl_X1_18 ?_
  refine JcS2 (R' := rm 0 0 0) (nx := 33) dX1_copy_30 rfl ml_X6_copy lk_X1_48 st_X6_copy ⟨(Nat.le_of_ble_eq_true rfl), (Nat.le_of_ble_eq_true rfl)⟩ (Nat.le_of_ble_eq_true rfl) ⟨rfl, rfl⟩ (ct_copy _ 33 23 6 6 _ (by decide) rfl rfl (fun _ => rfl) (by decide) (by decide)) ?_
  refine J.gen (fun g_30 hg_30 => ?_)
  refine J_aload_n (nx := 34) dX1_copy_33 rfl rfl ?_
  refine Jg_30_3 (nx := 37) dX1_copy_34 rfl fl_X1_21 ?_
  refine J_aload_n (nx := 38) dX1_copy_37 rfl rfl ?_
  refine Jg_20_3 (nx := 41) dX1_copy_38 rfl fl_X1_21 ?_
  refine JcS2 (R' := rm 0 0 0) (nx := 44) dX1_copy_41 rfl ml_X6_copy lk_X1_48 st_X6_copy ⟨(Nat.le_of_ble_eq_true rfl), (Nat.le_of_ble_eq_true rfl)⟩ (Nat.le_of_ble_eq_true rfl) ⟨rfl, rfl⟩ (ct_copy _ 34 24 6 6 _ (by decide) rfl rfl (fun _ => rfl) (by decide) (by decide)) ?_
  refine J.gen (fun g_41 hg_41 => ?_)
  refine J_aload_n (nx := 45) dX1_copy_44 rfl rfl ?_
  refine Jg_30_4 (nx := 48) dX1_copy_45 rfl fl_X1_24 ?_
  refine J_aload_n (nx := 49) dX1_copy_48 rfl rfl ?_
  refine Jg_20_4 (nx := 52) dX1_copy_49 rfl fl_X1_24 ?_
  refine JcS2 (R' := rm 0 0 0) (nx := 55) dX1_copy_52 rfl ml_X6_copy lk_X1_48 st_X6_copy ⟨(Nat.le_of_ble_eq_true rfl), (Nat.le_of_ble_eq_true rfl)⟩ (Nat.le_of_ble_eq_true rfl) ⟨rfl, rfl⟩ (ct_copy _ 35 25 192 192 _ (by decide) rfl rfl (fun _ => rfl) (by decide) (by decide)) ?_
  refine J.gen (fun g_52 hg_52 => ?_)
  refine J_iconst (nx := 56) (i := 0) (v := 0) (by decide) dX1_copy_55 rfl ?_
  refine J_istore_n (nx := 57) dX1_copy_56 rfl rfl (Nat.le_of_ble_eq_true rfl) ?_
  have e : bkA 30 20 g = g_52 := by rw [hg_52, hg_41, hg_30, hg_19, hg_8]; rfl
  unfold bkC
  rw [e]
  refine lp_copy0_20_30 g_52 (hR.congr (by rw [← e]; rfl) (by rw [← e]; rfl)) _ _ ?_
  exact sg_copy_20_30 _ c (by rw [cpS_V, ← e]; exact hV) (by rw [cpS_F, ← e]; exact hB) (by rw [cpS_F, ← e]; exact hB2) _

set_option maxRecDepth 100000 in
set_option maxHeartbeats 4000000 in
theorem ct_addRule (g : GS) (c n : Nat) (hN : gF g 20 10 = nI n) (hn : n < 4) (hc : ∃ cd, CodeT (gT g) c cd) : Ct mX1_addRule (rm 1 0 0) [.ref 20, .ref c] (Wd g) (RR (.inl (some (.int (nI n)))) (addG g c n)) := by
  refine Ct.of (by decide +kernel) (Nat.le_of_ble_eq_true rfl) ?_
  show J _ _ _ _ 0 [some (.ref 20), some (.ref c), none] [] _ 0 0
  refine J_aload_n (nx := 1) dX1_addRule_0 rfl rfl ?_
  refine Jg_20_10 (nx := 4) dX1_addRule_1 rfl fl_X1_61 ?_
  refine J_istore_n (nx := 5) dX1_addRule_4 rfl rfl (Nat.le_of_ble_eq_true rfl) ?_
  rw [hN]
  refine J_iload_n (nx := 6) dX1_addRule_5 rfl rfl ?_
  refine J_if_lt (nx := 9) (tgt := 35) dX1_addRule_6 rfl (by decide) (fun c_6 => ?_) (fun c_6 => ?_)
  · exact absurd c_6 (nI_pos (by omega))
  · refine J_iload_n (nx := 10) dX1_addRule_9 rfl rfl ?_
    refine J_aload_n (nx := 11) dX1_addRule_10 rfl rfl ?_
    refine Jg_20_6 (nx := 14) dX1_addRule_11 rfl fl_X1_34 ?_
    refine Jn_29 (nx := 15) dX1_addRule_14 rfl ?_
    refine J_icmp_ge (nx := 18) (tgt := 35) dX1_addRule_15 rfl (by decide) (fun c_15 => ?_) (fun c_15 => ?_)
    · exact absurd c_15 (nlt_nI hn (by decide))
    · refine J_aload_n (nx := 19) dX1_addRule_18 rfl rfl ?_
      refine Jg_20_6 (nx := 22) dX1_addRule_19 rfl fl_X1_34 ?_
      refine J_iload_n (nx := 23) dX1_addRule_22 rfl rfl ?_
      refine J_aload_n (nx := 24) dX1_addRule_23 rfl rfl ?_
      refine J_aastR (v := some c) (nx := 25) dX1_addRule_24 rfl rfl (fun _ => rfl) hn (fun z hz => by cases hz; exact hc) ?_
      refine J_aload_n (nx := 26) dX1_addRule_25 rfl rfl ?_
      refine J_dup (nx := 27) rfl dX1_addRule_26 rfl ?_
      refine Jg_20_10 (nx := 30) dX1_addRule_27 rfl fl_X1_61 ?_
      refine J_iconst (nx := 31) (i := 1) (v := 1) (by decide) dX1_addRule_30 rfl ?_
      refine J_iadd (nx := 32) dX1_addRule_31 rfl ?_
      refine Jp_20_10 (nx := 35) dX1_addRule_32 rfl fl_X1_61 ?_
      refine J_iload_n (nx := 36) dX1_addRule_35 rfl rfl ?_
      exact Jri dX1_addRule_36 rfl (Nat.zero_le _) (Nat.zero_le _) ⟨rfl, rfl⟩

