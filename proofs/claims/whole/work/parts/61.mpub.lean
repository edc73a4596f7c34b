
/-! the Model: what is called from outside -/
theorem J_thr {M : MI} {d : Nat} {Q : Res → List ME → Prop} {n0 pc nx : Nat} {L : List (Option Value)} {rest : List Value} {g : GS} {b : Bool} {c : Int32} {idx : Nat} (dd : decode M.2.1 pc = .ok (.invokevirtual idx, 3)) (hn : pc + 3 = nx) (hlk : Cond.methodLink M.1.cls idx mX12_throwsIf.1 ∈ TT) (hroom : (rm 0 0 0).frames + 1 ≤ (rm d 0 0).frames ∧ 8 + (mX12_throwsIf.2.2.1 + 11) + (rm 0 0 0).locals ≤ (rm d 0 0).locals) (hcat : (rest.map fun v => v.category).sum ≤ 8) (hT : b = true → J M (rm d 0 0) Q n0 nx L (.int 1 :: rest) (Wd (sF g 63 0 c)) 0 0) (hF : b = false → J M (rm d 0 0) Q n0 nx L (.int 0 :: rest) (Wd g) 0 0) : J M (rm d 0 0) Q n0 pc L (.int c :: .int (bI b) :: .ref 63 :: rest) (Wd g) 0 0 := by
  cases b with
  | true => exact JcV2 (R' := rm 0 0 0) dd hn ml_X12_throwsIf hlk iv_X12_throwsIf rfl rfl hroom hcat ⟨rfl, rfl⟩ (ct_m_throwsIf g true c) (hT rfl)
  | false => exact JcV2 (R' := rm 0 0 0) dd hn ml_X12_throwsIf hlk iv_X12_throwsIf rfl rfl hroom hcat ⟨rfl, rfl⟩ (ct_m_throwsIf g false c) (hF rfl)
def mxC : List (Bool × Int32) → Option Int32
  | [] => none
  | (b, c) :: t => bif b then mxC t else some c
theorem gd {b : Bool} {c : Int32} {t : List (Bool × Int32)} (h : mxC ((b, c) :: t) = none) : b = true ∧ mxC t = none := by
  cases b with
  | true => exact ⟨rfl, h⟩
  | false => cases h
theorem bI_is0 {b : Bool} : (bI b = 0) = (b = false) := propext bI_0
theorem bI_is1 {b : Bool} : (¬ bI b = 0) = (b = true) := propext bI_n0
abbrev nN (x : Int32) : Nat := x.toNatClampNeg
theorem nN_nI {n : Nat} (h : n < 2 ^ 31) : nN (nI n) = n := nI_clamp h
theorem fIn_nat {x : Int32} {n : Nat} (hn : n < 2 ^ 31) (h : fIn x 0 (nI n) = true) : ∃ q, q ≤ n ∧ x = nI q := by
  unfold fIn at h
  by_cases c1 : x < 0
  · rw [if_pos c1] at h; cases h
  · rw [if_neg c1] at h
    by_cases c2 : nI n < x
    · rw [if_pos c2] at h; cases h
    · have h1 := Int32.le_iff_toInt_le.mp (nlt_le c1)
      have h2 := Int32.le_iff_toInt_le.mp (nlt_le c2)
      rw [show (0 : Int32).toInt = 0 from rfl] at h1
      rw [nI_toInt (by omega)] at h2
      refine ⟨x.toInt.toNat, by omega, ?_⟩
      apply Int32.toInt_inj.mp
      rw [nI_toInt (by omega)]; omega
def wMs (W : Nat → Int32) (s : Int32) : Bool := fIn s 0 (W 2 - 1)
def wMj (W : Nat → Int32) (j : Int32) : Bool := fIn j 0 (5 + W 1 - 1)
theorem wMs_nat {W : Nat → Int32} {gl : List TxL} {rl : Nat → List TxL} {s : Int32} (hM : MOK W gl rl) (h : wMs W s = true) : ∃ q, q < mN W ∧ s = nI q := by
  obtain ⟨hN6, hN⟩ := hM.2.2.2.1
  unfold wMs at h
  rcases Nat.eq_zero_or_pos (mN W) with e | e
  · rw [hN, e] at h
    unfold fIn at h
    by_cases c1 : s < 0
    · rw [if_pos c1] at h; cases h
    · rw [if_neg c1] at h
      by_cases c2 : nI 0 - 1 < s
      · rw [if_pos c2] at h; cases h
      · exact absurd (show nI 0 - 1 < s from by
          have h1 := Int32.le_iff_toInt_le.mp (nlt_le c1)
          rw [show (0 : Int32).toInt = 0 from rfl] at h1
          apply Int32.lt_iff_toInt_lt.mpr
          rw [show (nI 0 - 1).toInt = -1 from rfl]; omega) c2
  · rw [hN, show nI (mN W) - 1 = nI (mN W - 1) from nIs e rfl (nIc 1)] at h
    obtain ⟨q, h1, h2⟩ := fIn_nat (by omega) h
    exact ⟨q, by omega, h2⟩
theorem wMj_ok {W : Nat → Int32} {gl : List TxL} {rl : Nat → List TxL} {j : Int32} (hM : MOK W gl rl) (h : wMj W j = true) : jdOK W j := fun _ h5 => by
  obtain ⟨hR4, hR, -⟩ := hM.2.2.1
  unfold wMj at h
  rw [hR, show (5 : Int32) + nI (mR W) - 1 = nI (4 + mR W) from by rw [show (5 : Int32) + nI (mR W) = nI (5 + mR W) from nIa (nIc 5) rfl, show nI (5 + mR W) - 1 = nI (5 + mR W - 1) from nIs (by omega) rfl (nIc 1)]; congr 1; omega] at h
  obtain ⟨q, h1, rfl⟩ := fIn_nat (by omega) h
  have h6 : 5 ≤ q := by
    rcases Nat.lt_or_ge q 5 with z | z
    · exact absurd (show nI q < nI 5 from nI_lt z (by omega)) h5
    · exact z
  exact ⟨q - 5, by omega, nIs h6 rfl (nIc 5)⟩
def QF (g g2 : GS) : Prop := Fr fQ aQ g g2 ∧ gF g2 63 0 = 0
theorem QF.of {g g2 : GS} (h : Fr fA aQ (sF g 63 0 0) g2) : QF g g2 := ⟨(Fr.sF (Fr.rf (f := fQ) (a := aQ)) rfl).tr (h.mono fQ_A (fun _ h => h)), h.1 63 0 rfl⟩
theorem QF.z {g : GS} : QF g (sF g 63 0 0) := QF.of Fr.rf
theorem ct_m_noSortW (g : GS) (W : Nat → Int32) (hW : gA g 64 = W) (s : Int32) : Ct mX12_noSort (rm 1 0 0) [.ref 63, .int s] (Wd g) (RR (.inl (some (.int (bI (!(wMs W s)))))) g) := by subst hW; exact ct_m_noSort g s
theorem ct_m_noJudgeW (g : GS) (W : Nat → Int32) (hW : gA g 64 = W) (s : Int32) : Ct mX12_noJudge (rm 1 0 0) [.ref 63, .int s] (Wd g) (RR (.inl (some (.int (bI (!(wMj W s)))))) g) := by subst hW; exact ct_m_noJudge g s

set_option maxRecDepth 100000 in
set_option maxHeartbeats 4000000 in
theorem ct_m_isNoFoul (g : GS) (W : Nat → Int32) (hW : gA g 64 = W) (a b c : Int32) : Ct mX12_isNoFoul (rm 2 0 0) [.ref 63, .int a, .int b, .int c] (Wd g) (RR (.inl (some (.int (bI (!(wMj W a && wMs W b && fIn c 0 7)))))) g) := by
  refine Ct.of (by decide +kernel) (Nat.le_of_ble_eq_true rfl) ?_
  show J _ _ _ _ 0 [some (.ref 63), some (.int a), some (.int b), some (.int c)] [] _ 0 0
  refine J_aload_n (nx := 1) dX12_isNoFoul_0 rfl rfl ?_
  refine J_iload_n (nx := 2) dX12_isNoFoul_1 rfl rfl ?_
  refine JcV1 (R' := rm (1) 0 0) (nx := 5) dX12_isNoFoul_2 rfl ml_X12_noJudge lk_X12_335 iv_X12_noJudge rfl rfl ⟨(Nat.le_of_ble_eq_true rfl), (Nat.le_of_ble_eq_true rfl)⟩ (Nat.le_of_ble_eq_true rfl) ⟨rfl, rfl⟩ (ct_m_noJudgeW g W hW a) ?_
  refine J_if_ne (nx := 8) (tgt := 23) dX12_isNoFoul_5 rfl (by decide) (fun c_5 => ?_) (fun c_5 => ?_)
  · refine J_iconst (nx := 24) (i := 1) (v := 1) (by decide) dX12_isNoFoul_23 rfl ?_
    refine J_goto (nx := 28) dX12_isNoFoul_24 (by decide) ?_
    exact Jrz dX12_isNoFoul_28 rfl (by decide) (Nat.zero_le _) (Nat.zero_le _) (RR.i (show _ = bI (!(wMj W a && wMs W b && fIn c 0 7)) from (by simp only [bI_is0, bI_is1, Bool.not_eq_true', Bool.not_eq_false'] at c_5; simp only [bI, c_5, Bool.and_true, Bool.true_and, Bool.false_and, Bool.and_false, Bool.not_true, Bool.not_false, cond_true, cond_false])) rfl)
  · refine J_aload_n (nx := 9) dX12_isNoFoul_8 rfl rfl ?_
    refine J_iload_n (nx := 10) dX12_isNoFoul_9 rfl rfl ?_
    refine JcV1 (R' := rm (1) 0 0) (nx := 13) dX12_isNoFoul_10 rfl ml_X12_noSort lk_X12_317 iv_X12_noSort rfl rfl ⟨(Nat.le_of_ble_eq_true rfl), (Nat.le_of_ble_eq_true rfl)⟩ (Nat.le_of_ble_eq_true rfl) ⟨rfl, rfl⟩ (ct_m_noSortW g W hW b) ?_
    refine J_if_ne (nx := 16) (tgt := 23) dX12_isNoFoul_13 rfl (by decide) (fun c_13 => ?_) (fun c_13 => ?_)
    · refine J_iconst (nx := 24) (i := 1) (v := 1) (by decide) dX12_isNoFoul_23 rfl ?_
      refine J_goto (nx := 28) dX12_isNoFoul_24 (by decide) ?_
      exact Jrz dX12_isNoFoul_28 rfl (by decide) (Nat.zero_le _) (Nat.zero_le _) (RR.i (show _ = bI (!(wMj W a && wMs W b && fIn c 0 7)) from (by simp only [bI_is0, bI_is1, Bool.not_eq_true', Bool.not_eq_false'] at c_5 c_13; simp only [bI, c_5, c_13, Bool.and_true, Bool.true_and, Bool.false_and, Bool.and_false, Bool.not_true, Bool.not_false, cond_true, cond_false])) rfl)
    · refine J_iload_n (nx := 17) dX12_isNoFoul_16 rfl rfl ?_
      refine JcS1 (R' := rm (1) 0 0) (nx := 20) dX12_isNoFoul_17 rfl ml_X12_noZone lk_X12_254 st_X12_noZone ⟨(Nat.le_of_ble_eq_true rfl), (Nat.le_of_ble_eq_true rfl)⟩ (Nat.le_of_ble_eq_true rfl) ⟨rfl, rfl⟩ (ct_m_noZone _ _) ?_
      refine J_if_eq (nx := 23) (tgt := 27) dX12_isNoFoul_20 rfl (by decide) (fun c_20 => ?_) (fun c_20 => ?_)
      · refine J_iconst (nx := 28) (i := 0) (v := 0) (by decide) dX12_isNoFoul_27 rfl ?_
        exact Jrz dX12_isNoFoul_28 rfl (by decide) (Nat.zero_le _) (Nat.zero_le _) (RR.i (show _ = bI (!(wMj W a && wMs W b && fIn c 0 7)) from (by simp only [bI_is0, bI_is1, Bool.not_eq_true', Bool.not_eq_false'] at c_5 c_13 c_20; simp only [bI, c_5, c_13, c_20, Bool.and_true, Bool.true_and, Bool.false_and, Bool.and_false, Bool.not_true, Bool.not_false, cond_true, cond_false])) rfl)
      · refine J_iconst (nx := 24) (i := 1) (v := 1) (by decide) dX12_isNoFoul_23 rfl ?_
        refine J_goto (nx := 28) dX12_isNoFoul_24 (by decide) ?_
        exact Jrz dX12_isNoFoul_28 rfl (by decide) (Nat.zero_le _) (Nat.zero_le _) (RR.i (show _ = bI (!(wMj W a && wMs W b && fIn c 0 7)) from (by simp only [bI_is0, bI_is1, Bool.not_eq_true', Bool.not_eq_false'] at c_5 c_13 c_20; simp only [bI, c_5, c_13, c_20, Bool.and_true, Bool.true_and, Bool.false_and, Bool.and_false, Bool.not_true, Bool.not_false, cond_true, cond_false])) rfl)

set_option maxRecDepth 100000 in
set_option maxHeartbeats 4000000 in
theorem ct_m_badBar (g : GS) (a b : Int32) : Ct mX12_badBar (rm 1 0 0) [.ref 63, .int a, .int b] (Wd g) (RR (.inl (some (.int (bI (!(fMb a b)))))) g) := by
  refine Ct.of (by decide +kernel) (Nat.le_of_ble_eq_true rfl) ?_
  show J _ _ _ _ 0 [some (.ref 63), some (.int a), some (.int b)] [] _ 0 0
  refine J_iload_n (nx := 1) dX12_badBar_0 rfl rfl ?_
  refine J_iconst (nx := 2) (i := 2) (v := 2) (by decide) dX12_badBar_1 rfl ?_
  refine J_icmp_ne (nx := 5) (tgt := 19) dX12_badBar_2 rfl (by decide) (fun c_2 => ?_) (fun c_2 => ?_)
  · refine J_iconst (nx := 20) (i := 0) (v := 0) (by decide) dX12_badBar_19 rfl ?_
    exact Jrz dX12_badBar_20 rfl (by decide) (Nat.zero_le _) (Nat.zero_le _) (RR.i (show _ = bI (!(fMb a b)) from by unfold fMb; first | (rw [if_pos (show ¬ a = 2 from c_2)]; rfl) | (rw [if_neg (show ¬ ¬ a = 2 from fun z => z c_2)]; first | (rw [bI_0.mp c_12]; rfl) | (rw [bI_n0.mp c_12]; rfl))) rfl)
  · refine J_iload_n (nx := 6) dX12_badBar_5 rfl rfl ?_
    refine J_iconst (nx := 7) (i := 0) (v := 0) (by decide) dX12_badBar_6 rfl ?_
    refine J_bipush (nx := 9) (i := 31) (v := 31) (by decide) dX12_badBar_7 rfl ?_
    refine JcS3 (R' := rm (0) 0 0) (nx := 12) dX12_badBar_9 rfl ml_X12_in lk_X12_77 st_X12_in ⟨(Nat.le_of_ble_eq_true rfl), (Nat.le_of_ble_eq_true rfl)⟩ (Nat.le_of_ble_eq_true rfl) ⟨rfl, rfl⟩ (ct_m_in _ _ _ _) ?_
    refine J_if_ne (nx := 15) (tgt := 19) dX12_badBar_12 rfl (by decide) (fun c_12 => ?_) (fun c_12 => ?_)
    · refine J_iconst (nx := 20) (i := 0) (v := 0) (by decide) dX12_badBar_19 rfl ?_
      exact Jrz dX12_badBar_20 rfl (by decide) (Nat.zero_le _) (Nat.zero_le _) (RR.i (show _ = bI (!(fMb a b)) from by unfold fMb; first | (rw [if_pos (show ¬ a = 2 from c_2)]; rfl) | (rw [if_neg (show ¬ ¬ a = 2 from fun z => z c_2)]; first | (rw [bI_0.mp c_12]; rfl) | (rw [bI_n0.mp c_12]; rfl))) rfl)
    · refine J_iconst (nx := 16) (i := 1) (v := 1) (by decide) dX12_badBar_15 rfl ?_
      refine J_goto (nx := 20) dX12_badBar_16 (by decide) ?_
      exact Jrz dX12_badBar_20 rfl (by decide) (Nat.zero_le _) (Nat.zero_le _) (RR.i (show _ = bI (!(fMb a b)) from by unfold fMb; first | (rw [if_pos (show ¬ a = 2 from c_2)]; rfl) | (rw [if_neg (show ¬ ¬ a = 2 from fun z => z c_2)]; first | (rw [bI_0.mp c_12]; rfl) | (rw [bI_n0.mp c_12]; rfl))) rfl)


def PQi (g : GS) (cs : List (Bool × Int32)) (P : Int32 → GS → Prop) : Res → List ME → Prop := RXi (fun x g2 => (∃ c, mxC cs = some c ∧ x = 0 ∧ g2 = sF (sF g 63 0 0) 63 0 c) ∨ (mxC cs = none ∧ P x g2))
def PQl (g : GS) (cs : List (Bool × Int32)) (P : Int64 → GS → Prop) : Res → List ME → Prop := RXl (fun x g2 => (∃ c, mxC cs = some c ∧ x = 0 ∧ g2 = sF (sF g 63 0 0) 63 0 c) ∨ (mxC cs = none ∧ P x g2))
def PQv (g : GS) (cs : List (Bool × Int32)) (P : GS → Prop) : Res → List ME → Prop := RXv (fun g2 => (∃ c, mxC cs = some c ∧ g2 = sF (sF g 63 0 0) 63 0 c) ∨ (mxC cs = none ∧ P g2))

def wU (g : GS) (i : Nat) (v : Int32) : GS := sA g 64 (upd (gA g 64) i v)
theorem lt_nle2 {a b : Int32} (h : b ≤ a) : ¬ a < b := fun z => lt_nle z h
set_option maxRecDepth 100000 in
set_option maxHeartbeats 4000000 in
theorem ct_m_follows (g : GS) (gl : List TxL) (rl : Nat → List TxL) (hM : MOK (gA g 64) gl rl) (s : Int32) (what : Int32) : Ct mX12_follows (rm 2 0 0) [.ref 63, .int s, .int what] (Wd g) (PQi g [(fIn s 0 31, 1), (fIn what 0 34, 2)] (fun x g2 => x = (if nN what < 34 then gA g 64 (18 + 34 * nN s + nN what) else wSt (gA g 64) (nN s)) ∧ g2 = (sF g 63 0 0))) := by
  have hM2 := hM
  obtain ⟨⟨hG10, hG⟩, ⟨hT1, hT60, hT⟩, ⟨hR4, hR, hrl⟩, ⟨hN6, hN⟩, hgl, hgk⟩ := hM2
  refine Ct.of (by decide +kernel) (Nat.le_of_ble_eq_true rfl) ?_
  show J _ _ _ _ 0 [some (.ref 63), some (.int s), some (.int what)] [] _ 0 0
  refine J_aload_n (nx := 1) dX12_follows_0 rfl rfl ?_
  refine J_iconst (nx := 2) (i := 0) (v := 0) (by decide) dX12_follows_1 rfl ?_
  refine Jp_63_0 (nx := 5) dX12_follows_2 rfl fl_X12_3 ?_
  refine J_aload_n (nx := 6) dX12_follows_5 rfl rfl ?_
  refine J_iload_n (nx := 7) dX12_follows_6 rfl rfl ?_
  refine JcS1 (R' := rm (1) 0 0) (nx := 10) dX12_follows_7 rfl ml_X12_noState lk_X12_245 st_X12_noState ⟨(Nat.le_of_ble_eq_true rfl), (Nat.le_of_ble_eq_true rfl)⟩ (Nat.le_of_ble_eq_true rfl) ⟨rfl, rfl⟩ (ct_m_noState _ _) ?_
  refine J_iconst (nx := 11) (i := 1) (v := 1) (by decide) dX12_follows_10 rfl ?_
  refine J_thr (nx := 14) dX12_follows_11 rfl lk_X12_237 ⟨(Nat.le_of_ble_eq_true rfl), (Nat.le_of_ble_eq_true rfl)⟩ (Nat.le_of_ble_eq_true rfl) (fun b_11 => ?_) (fun b_11 => ?_)
  · refine J_if_ne (nx := 17) (tgt := 40) dX12_follows_14 rfl (by decide) (fun c_14 => ?_) (fun c_14 => ?_)
    · refine J_iconst (nx := 41) (i := 0) (v := 0) (by decide) dX12_follows_40 rfl ?_
      exact Jri dX12_follows_41 rfl (Nat.zero_le _) (Nat.zero_le _) (RXi.of (Or.inl ⟨_, (by simp only [bI_is0, bI_is1, Bool.not_eq_true', Bool.not_eq_false'] at b_11; simp only [mxC, b_11, Bool.and_true, Bool.true_and, Bool.false_and, Bool.and_false, cond_true, cond_false]), rfl, rfl⟩))
    · exact absurd c_14 (by decide)
  · refine J_if_ne (nx := 17) (tgt := 40) dX12_follows_14 rfl (by decide) (fun c_14 => ?_) (fun c_14 => ?_)
    · exact absurd (by decide) c_14
    · refine J_aload_n (nx := 18) dX12_follows_17 rfl rfl ?_
      refine J_iload_n (nx := 19) dX12_follows_18 rfl rfl ?_
      refine J_iconst (nx := 20) (i := 0) (v := 0) (by decide) dX12_follows_19 rfl ?_
      refine J_bipush (nx := 22) (i := 34) (v := 34) (by decide) dX12_follows_20 rfl ?_
      refine JcS3 (R' := rm (0) 0 0) (nx := 25) dX12_follows_22 rfl ml_X12_in lk_X12_77 st_X12_in ⟨(Nat.le_of_ble_eq_true rfl), (Nat.le_of_ble_eq_true rfl)⟩ (Nat.le_of_ble_eq_true rfl) ⟨rfl, rfl⟩ (ct_m_in _ _ _ _) ?_
      refine J_if_ne (nx := 28) (tgt := 32) dX12_follows_25 rfl (by decide) (fun c_25 => ?_) (fun c_25 => ?_)
      · refine J_iconst (nx := 33) (i := 0) (v := 0) (by decide) dX12_follows_32 rfl ?_
        refine J_iconst (nx := 34) (i := 2) (v := 2) (by decide) dX12_follows_33 rfl ?_
        refine J_thr (b := false) (nx := 37) dX12_follows_34 rfl lk_X12_237 ⟨(Nat.le_of_ble_eq_true rfl), (Nat.le_of_ble_eq_true rfl)⟩ (Nat.le_of_ble_eq_true rfl) (fun b_34 => ?_) (fun b_34 => ?_)
        · exact absurd b_34 (by decide)
        · refine J_if_eq (nx := 40) (tgt := 42) dX12_follows_37 rfl (by decide) (fun c_37 => ?_) (fun c_37 => ?_)
          · have HC : mxC [(fIn s 0 31, 1), (fIn what 0 34, 2)] = none := (by simp only [bI_is0, bI_is1, Bool.not_eq_true', Bool.not_eq_false'] at b_11 c_25; simp only [mxC, b_11, c_25, Bool.and_true, Bool.true_and, Bool.false_and, Bool.and_false, cond_true, cond_false])
            have HG0 := HC
            obtain ⟨hk0, HG1⟩ := gd HG0
            have hk0_0 := hk0
            obtain ⟨qs, hqs, rfl⟩ := fIn_nat (n := 31) (by omega) hk0_0
            try rw [nN_nI (n := qs) (by omega)]
            obtain ⟨hk1, HG2⟩ := gd HG1
            have hk1_0 := hk1
            obtain ⟨qwhat, hqwhat, rfl⟩ := fIn_nat (n := 34) (by omega) hk1_0
            try rw [nN_nI (n := qwhat) (by omega)]
            refine J_iload_n (nx := 43) dX12_follows_42 rfl rfl ?_
            refine J_bipush (nx := 45) (i := 34) (v := 34) (by decide) dX12_follows_43 rfl ?_
            refine J_icmp_ge (nx := 48) (tgt := 61) dX12_follows_45 rfl (by decide) (fun c_45 => ?_) (fun c_45 => ?_)
            · have h34 : ¬ qwhat < 34 := fun h => absurd (show nI qwhat < nI 34 from nI_lt h (by omega)) (lt_nle2 c_45)
              refine J_aload_n (nx := 62) dX12_follows_61 rfl rfl ?_
              refine J_iload_n (nx := 63) dX12_follows_62 rfl rfl ?_
              refine JcV1 (R' := rm (1) 0 0) (nx := 66) dX12_follows_63 rfl ml_X12_staying lk_X12_251 iv_X12_staying rfl rfl ⟨(Nat.le_of_ble_eq_true rfl), (Nat.le_of_ble_eq_true rfl)⟩ (Nat.le_of_ble_eq_true rfl) ⟨rfl, rfl⟩ (ct_m_staying _ (qs) (by omega)) ?_
              exact Jri dX12_follows_66 rfl (Nat.zero_le _) (Nat.zero_le _) (RXi.of (Or.inr ⟨HC, by first | exact (if_pos h34).symm | exact (if_neg h34).symm, rfl⟩))
            · have h34 : qwhat < 34 := by
                rcases Nat.lt_or_ge qwhat 34 with h | h
                · exact h
                · exact absurd (show nI 34 ≤ nI qwhat from nI_le_n h (by omega)) c_45
              refine J_aload_n (nx := 49) dX12_follows_48 rfl rfl ?_
              refine Jg_63_1 (nx := 52) dX12_follows_49 rfl fl_X12_13 ?_
              refine J_iload_n (nx := 53) dX12_follows_52 rfl rfl ?_
              refine J_iload_n (nx := 54) dX12_follows_53 rfl rfl ?_
              refine JcS2 (R' := rm (0) 0 0) (nx := 57) dX12_follows_54 rfl ml_X12_chanceAt lk_X12_248 st_X12_chanceAt ⟨(Nat.le_of_ble_eq_true rfl), (Nat.le_of_ble_eq_true rfl)⟩ (Nat.le_of_ble_eq_true rfl) ⟨rfl, rfl⟩ (ct_m_chanceAt _ (qs) (qwhat)) ?_
              refine Ja_64 (nx := 58) dX12_follows_57 rfl (vpE (n := (18 + 34 * qs + qwhat)) (Eq.refl (nI ((18 + 34 * qs + qwhat)))) (by omega) (by decide)) ?_
              rw [clE (n := (18 + 34 * qs + qwhat)) (Eq.refl (nI ((18 + 34 * qs + qwhat)))) (by omega)]
              refine J_goto (nx := 66) dX12_follows_58 (by decide) ?_
              exact Jri dX12_follows_66 rfl (Nat.zero_le _) (Nat.zero_le _) (RXi.of (Or.inr ⟨HC, by first | exact (if_pos h34).symm | exact (if_neg h34).symm, rfl⟩))
          · exact absurd (by decide) c_37
      · refine J_iconst (nx := 29) (i := 1) (v := 1) (by decide) dX12_follows_28 rfl ?_
        refine J_goto (nx := 33) dX12_follows_29 (by decide) ?_
        refine J_iconst (nx := 34) (i := 2) (v := 2) (by decide) dX12_follows_33 rfl ?_
        refine J_thr (b := true) (nx := 37) dX12_follows_34 rfl lk_X12_237 ⟨(Nat.le_of_ble_eq_true rfl), (Nat.le_of_ble_eq_true rfl)⟩ (Nat.le_of_ble_eq_true rfl) (fun b_34 => ?_) (fun b_34 => ?_)
        · refine J_if_eq (nx := 40) (tgt := 42) dX12_follows_37 rfl (by decide) (fun c_37 => ?_) (fun c_37 => ?_)
          · exact absurd c_37 (by decide)
          · refine J_iconst (nx := 41) (i := 0) (v := 0) (by decide) dX12_follows_40 rfl ?_
            exact Jri dX12_follows_41 rfl (Nat.zero_le _) (Nat.zero_le _) (RXi.of (Or.inl ⟨_, (by simp only [bI_is0, bI_is1, Bool.not_eq_true', Bool.not_eq_false'] at b_11 c_25; simp only [mxC, b_11, c_25, Bool.and_true, Bool.true_and, Bool.false_and, Bool.and_false, cond_true, cond_false]), rfl, rfl⟩))
        · exact absurd b_34 (by decide)

set_option maxRecDepth 100000 in
set_option maxHeartbeats 4000000 in
theorem ct_m_kick (g : GS) (z : Int32) : Ct mX12_kick (rm 2 0 0) [.ref 63, .int z] (Wd g) (PQi g [(fIn z 0 7, 1)] (fun x g2 => x = gA g 64 (10 + nN z) ∧ g2 = (sF g 63 0 0))) := by
  refine Ct.of (by decide +kernel) (Nat.le_of_ble_eq_true rfl) ?_
  show J _ _ _ _ 0 [some (.ref 63), some (.int z)] [] _ 0 0
  refine J_aload_n (nx := 1) dX12_kick_0 rfl rfl ?_
  refine J_iconst (nx := 2) (i := 0) (v := 0) (by decide) dX12_kick_1 rfl ?_
  refine Jp_63_0 (nx := 5) dX12_kick_2 rfl fl_X12_3 ?_
  refine J_aload_n (nx := 6) dX12_kick_5 rfl rfl ?_
  refine J_iload_n (nx := 7) dX12_kick_6 rfl rfl ?_
  refine JcS1 (R' := rm (1) 0 0) (nx := 10) dX12_kick_7 rfl ml_X12_noZone lk_X12_254 st_X12_noZone ⟨(Nat.le_of_ble_eq_true rfl), (Nat.le_of_ble_eq_true rfl)⟩ (Nat.le_of_ble_eq_true rfl) ⟨rfl, rfl⟩ (ct_m_noZone _ _) ?_
  refine J_iconst (nx := 11) (i := 1) (v := 1) (by decide) dX12_kick_10 rfl ?_
  refine J_thr (nx := 14) dX12_kick_11 rfl lk_X12_237 ⟨(Nat.le_of_ble_eq_true rfl), (Nat.le_of_ble_eq_true rfl)⟩ (Nat.le_of_ble_eq_true rfl) (fun b_11 => ?_) (fun b_11 => ?_)
  · refine J_if_eq (nx := 17) (tgt := 21) dX12_kick_14 rfl (by decide) (fun c_14 => ?_) (fun c_14 => ?_)
    · exact absurd c_14 (by decide)
    · refine J_iconst (nx := 18) (i := 0) (v := 0) (by decide) dX12_kick_17 rfl ?_
      refine J_goto (nx := 30) dX12_kick_18 (by decide) ?_
      exact Jri dX12_kick_30 rfl (Nat.zero_le _) (Nat.zero_le _) (by first | exact RXi.of (Or.inl ⟨_, (by simp only [bI_is0, bI_is1, Bool.not_eq_true', Bool.not_eq_false'] at b_11; simp only [mxC, b_11, Bool.and_true, Bool.true_and, Bool.false_and, Bool.and_false, cond_true, cond_false]), rfl, rfl⟩) | exact RXi.of (Or.inr ⟨HC, rfl, rfl⟩))
  · refine J_if_eq (nx := 17) (tgt := 21) dX12_kick_14 rfl (by decide) (fun c_14 => ?_) (fun c_14 => ?_)
    · have HC : mxC [(fIn z 0 7, 1)] = none := (by simp only [bI_is0, bI_is1, Bool.not_eq_true', Bool.not_eq_false'] at b_11; simp only [mxC, b_11, Bool.and_true, Bool.true_and, Bool.false_and, Bool.and_false, cond_true, cond_false])
      have HG0 := HC
      obtain ⟨hk0, HG1⟩ := gd HG0
      have hk0_0 := hk0
      obtain ⟨qz, hqz, rfl⟩ := fIn_nat (n := 7) (by omega) hk0_0
      try rw [nN_nI (n := qz) (by omega)]
      refine J_aload_n (nx := 22) dX12_kick_21 rfl rfl ?_
      refine Jg_63_1 (nx := 25) dX12_kick_22 rfl fl_X12_13 ?_
      refine J_bipush (nx := 27) (i := 10) (v := 10) (by decide) dX12_kick_25 rfl ?_
      refine J_iload_n (nx := 28) dX12_kick_27 rfl rfl ?_
      refine J_iadd (nx := 29) dX12_kick_28 rfl ?_
      refine Ja_64 (nx := 30) dX12_kick_29 rfl (vpE (n := (10 + qz)) (nIa (nIc 10) (Eq.refl (nI (qz)))) (by omega) (by decide)) ?_
      rw [clE (n := (10 + qz)) (nIa (nIc 10) (Eq.refl (nI (qz)))) (by omega)]
      exact Jri dX12_kick_30 rfl (Nat.zero_le _) (Nat.zero_le _) (by first | exact RXi.of (Or.inl ⟨_, (by simp only [bI_is0, bI_is1, Bool.not_eq_true', Bool.not_eq_false'] at b_11; simp only [mxC, b_11, Bool.and_true, Bool.true_and, Bool.false_and, Bool.and_false, cond_true, cond_false]), rfl, rfl⟩) | exact RXi.of (Or.inr ⟨HC, rfl, rfl⟩))
    · exact absurd (by decide) c_14

set_option maxRecDepth 100000 in
set_option maxHeartbeats 4000000 in
theorem ct_m_now (g : GS) (m : Int32) (s : Int32) : Ct mX12_now (rm 2 0 0) [.ref 63, .int m, .int s] (Wd g) (PQv g [(fIn m 0 90 && fIn s (-9) 9, 1)] (fun g2 => g2 = wU (wU (sF g 63 0 0) 6 m) 7 s)) := by
  refine Ct.of (by decide +kernel) (Nat.le_of_ble_eq_true rfl) ?_
  show J _ _ _ _ 0 [some (.ref 63), some (.int m), some (.int s)] [] _ 0 0
  refine J_aload_n (nx := 1) dX12_now_0 rfl rfl ?_
  refine J_iconst (nx := 2) (i := 0) (v := 0) (by decide) dX12_now_1 rfl ?_
  refine Jp_63_0 (nx := 5) dX12_now_2 rfl fl_X12_3 ?_
  refine J_aload_n (nx := 6) dX12_now_5 rfl rfl ?_
  refine J_iload_n (nx := 7) dX12_now_6 rfl rfl ?_
  refine J_iconst (nx := 8) (i := 0) (v := 0) (by decide) dX12_now_7 rfl ?_
  refine J_bipush (nx := 10) (i := 90) (v := 90) (by decide) dX12_now_8 rfl ?_
  refine JcS3 (R' := rm (0) 0 0) (nx := 13) dX12_now_10 rfl ml_X12_in lk_X12_77 st_X12_in ⟨(Nat.le_of_ble_eq_true rfl), (Nat.le_of_ble_eq_true rfl)⟩ (Nat.le_of_ble_eq_true rfl) ⟨rfl, rfl⟩ (ct_m_in _ _ _ _) ?_
  refine J_if_eq (nx := 16) (tgt := 27) dX12_now_13 rfl (by decide) (fun c_13 => ?_) (fun c_13 => ?_)
  · refine J_iconst (nx := 28) (i := 1) (v := 1) (by decide) dX12_now_27 rfl ?_
    refine J_goto (nx := 32) dX12_now_28 (by decide) ?_
    refine J_iconst (nx := 33) (i := 1) (v := 1) (by decide) dX12_now_32 rfl ?_
    refine J_thr (b := true) (nx := 36) dX12_now_33 rfl lk_X12_237 ⟨(Nat.le_of_ble_eq_true rfl), (Nat.le_of_ble_eq_true rfl)⟩ (Nat.le_of_ble_eq_true rfl) (fun b_33 => ?_) (fun b_33 => ?_)
    · refine J_if_eq (nx := 39) (tgt := 40) dX12_now_36 rfl (by decide) (fun c_36 => ?_) (fun c_36 => ?_)
      · exact absurd c_36 (by decide)
      · exact Jrv dX12_now_39 rfl (Nat.zero_le _) (Nat.zero_le _) (RXv.of (Or.inl ⟨_, (by simp only [bI_is0, bI_is1, Bool.not_eq_true', Bool.not_eq_false'] at c_13; simp only [mxC, c_13, Bool.and_true, Bool.true_and, Bool.false_and, Bool.and_false, cond_true, cond_false]), rfl⟩))
    · exact absurd b_33 (by decide)
  · refine J_iload_n (nx := 17) dX12_now_16 rfl rfl ?_
    refine J_bipush (nx := 19) (i := -9) (v := -9) (by decide) dX12_now_17 rfl ?_
    refine J_bipush (nx := 21) (i := 9) (v := 9) (by decide) dX12_now_19 rfl ?_
    refine JcS3 (R' := rm (0) 0 0) (nx := 24) dX12_now_21 rfl ml_X12_in lk_X12_77 st_X12_in ⟨(Nat.le_of_ble_eq_true rfl), (Nat.le_of_ble_eq_true rfl)⟩ (Nat.le_of_ble_eq_true rfl) ⟨rfl, rfl⟩ (ct_m_in _ _ _ _) ?_
    refine J_if_ne (nx := 27) (tgt := 31) dX12_now_24 rfl (by decide) (fun c_24 => ?_) (fun c_24 => ?_)
    · refine J_iconst (nx := 32) (i := 0) (v := 0) (by decide) dX12_now_31 rfl ?_
      refine J_iconst (nx := 33) (i := 1) (v := 1) (by decide) dX12_now_32 rfl ?_
      refine J_thr (b := false) (nx := 36) dX12_now_33 rfl lk_X12_237 ⟨(Nat.le_of_ble_eq_true rfl), (Nat.le_of_ble_eq_true rfl)⟩ (Nat.le_of_ble_eq_true rfl) (fun b_33 => ?_) (fun b_33 => ?_)
      · exact absurd b_33 (by decide)
      · refine J_if_eq (nx := 39) (tgt := 40) dX12_now_36 rfl (by decide) (fun c_36 => ?_) (fun c_36 => ?_)
        · have HC : mxC [(fIn m 0 90 && fIn s (-9) 9, 1)] = none := (by simp only [bI_is0, bI_is1, Bool.not_eq_true', Bool.not_eq_false'] at c_13 c_24; simp only [mxC, c_13, c_24, Bool.and_true, Bool.true_and, Bool.false_and, Bool.and_false, cond_true, cond_false])
          have HG0 := HC
          obtain ⟨hk0, HG1⟩ := gd HG0
          simp only [Bool.and_eq_true] at hk0
          obtain ⟨hk0_0, hk0_1⟩ := hk0
          refine J_aload_n (nx := 41) dX12_now_40 rfl rfl ?_
          refine Jg_63_1 (nx := 44) dX12_now_41 rfl fl_X12_13 ?_
          refine J_bipush (nx := 46) (i := 6) (v := 6) (by decide) dX12_now_44 rfl ?_
          refine J_iload_n (nx := 47) dX12_now_46 rfl rfl ?_
          refine Jt_64 (nx := 48) dX12_now_47 rfl (vpE (n := 6) (nIc 6) (by omega) (by decide)) ?_
          rw [clE (n := 6) (nIc 6) (by omega)]
          refine J_aload_n (nx := 49) dX12_now_48 rfl rfl ?_
          refine Jg_63_1 (nx := 52) dX12_now_49 rfl fl_X12_13 ?_
          refine J_bipush (nx := 54) (i := 7) (v := 7) (by decide) dX12_now_52 rfl ?_
          refine J_iload_n (nx := 55) dX12_now_54 rfl rfl ?_
          refine Jt_64 (nx := 56) dX12_now_55 rfl (vpE (n := 7) (nIc 7) (by omega) (by decide)) ?_
          rw [clE (n := 7) (nIc 7) (by omega)]
          exact Jrv dX12_now_56 rfl (Nat.zero_le _) (Nat.zero_le _) (RXv.of (Or.inr ⟨HC, rfl⟩))
        · exact absurd (by decide) c_36
    · refine J_iconst (nx := 28) (i := 1) (v := 1) (by decide) dX12_now_27 rfl ?_
      refine J_goto (nx := 32) dX12_now_28 (by decide) ?_
      refine J_iconst (nx := 33) (i := 1) (v := 1) (by decide) dX12_now_32 rfl ?_
      refine J_thr (b := true) (nx := 36) dX12_now_33 rfl lk_X12_237 ⟨(Nat.le_of_ble_eq_true rfl), (Nat.le_of_ble_eq_true rfl)⟩ (Nat.le_of_ble_eq_true rfl) (fun b_33 => ?_) (fun b_33 => ?_)
      · refine J_if_eq (nx := 39) (tgt := 40) dX12_now_36 rfl (by decide) (fun c_36 => ?_) (fun c_36 => ?_)
        · exact absurd c_36 (by decide)
        · exact Jrv dX12_now_39 rfl (Nat.zero_le _) (Nat.zero_le _) (RXv.of (Or.inl ⟨_, (by simp only [bI_is0, bI_is1, Bool.not_eq_true', Bool.not_eq_false'] at c_13 c_24; simp only [mxC, c_13, c_24, Bool.and_true, Bool.true_and, Bool.false_and, Bool.and_false, cond_true, cond_false]), rfl⟩))
      · exact absurd b_33 (by decide)

theorem aQ_7 (c : Nat) (h : aQ c = false) : a7 c = false := aJ_7 c (aQ_J c h)
set_option maxRecDepth 100000 in
set_option maxHeartbeats 4000000 in
theorem ct_m_goal (g : GS) (gl : List TxL) (rl : Nat → List TxL) (hM : MOK (gA g 64) gl rl) : Ct mX12_goal (rm 4 0 0) [.ref 63] (Wd g) (PQi g [] (fun x g2 => x = mGc (gA g 64) (gA g 64 6) gl ∧ QF g g2)) := by
  have hM2 := hM
  obtain ⟨⟨hG10, hG⟩, ⟨hT1, hT60, hT⟩, ⟨hR4, hR, hrl⟩, ⟨hN6, hN⟩, hgl, hgk⟩ := hM2
  refine Ct.of (by decide +kernel) (Nat.le_of_ble_eq_true rfl) ?_
  show J _ _ _ _ 0 [some (.ref 63)] [] _ 0 0
  refine J_aload_n (nx := 1) dX12_goal_0 rfl rfl ?_
  refine J_iconst (nx := 2) (i := 0) (v := 0) (by decide) dX12_goal_1 rfl ?_
  refine Jp_63_0 (nx := 5) dX12_goal_2 rfl fl_X12_3 ?_
  have HC : mxC [] = none := rfl
  refine J_aload_n (nx := 6) dX12_goal_5 rfl rfl ?_
  refine J_aload_n (nx := 7) dX12_goal_6 rfl rfl ?_
  refine Jg_63_1 (nx := 10) dX12_goal_7 rfl fl_X12_13 ?_
  refine J_bipush (nx := 12) (i := 6) (v := 6) (by decide) dX12_goal_10 rfl ?_
  refine Ja_64 (nx := 13) dX12_goal_12 rfl (vpE (n := 6) (nIc 6) (by omega) (by decide)) ?_
  rw [clE (n := 6) (nIc 6) (by omega)]
  refine JiV1 (R' := rm (3) 0 0) (nx := 16) dX12_goal_13 rfl ml_X12_goalIn lk_X12_279 iv_X12_goalIn rfl rfl ⟨(Nat.le_of_ble_eq_true rfl), (Nat.le_of_ble_eq_true rfl)⟩ (Nat.le_of_ble_eq_true rfl) ⟨rfl, rfl⟩ (ct_m_goalIn (sF g 63 0 0) (gA g 64 6) gl hgl hgk.fok) (fun x_13 g_13 p_13 => ?_)
  exact Jri dX12_goal_16 rfl (Nat.zero_le _) (Nat.zero_le _) (RXi.of (Or.inr ⟨HC, p_13.1.trans (mGw_c hgk), QF.of (p_13.2.mono fA_0 aQ_7)⟩))

set_option maxRecDepth 100000 in
set_option maxHeartbeats 4000000 in
theorem ct_m_lost (g : GS) (n : Int32) : Ct mX12_lost (rm 2 0 0) [.ref 63, .int n] (Wd g) (PQv g [(fIn n 0 9999, 1)] (fun g2 => g2 = wU (sF g 63 0 0) 8 n)) := by
  refine Ct.of (by decide +kernel) (Nat.le_of_ble_eq_true rfl) ?_
  show J _ _ _ _ 0 [some (.ref 63), some (.int n)] [] _ 0 0
  refine J_aload_n (nx := 1) dX12_lost_0 rfl rfl ?_
  refine J_iconst (nx := 2) (i := 0) (v := 0) (by decide) dX12_lost_1 rfl ?_
  refine Jp_63_0 (nx := 5) dX12_lost_2 rfl fl_X12_3 ?_
  refine J_aload_n (nx := 6) dX12_lost_5 rfl rfl ?_
  refine J_iload_n (nx := 7) dX12_lost_6 rfl rfl ?_
  refine J_iconst (nx := 8) (i := 0) (v := 0) (by decide) dX12_lost_7 rfl ?_
  refine J_sipush (nx := 11) (i := 9999) (v := 9999) (by decide) dX12_lost_8 rfl ?_
  refine JcS3 (R' := rm (0) 0 0) (nx := 14) dX12_lost_11 rfl ml_X12_in lk_X12_77 st_X12_in ⟨(Nat.le_of_ble_eq_true rfl), (Nat.le_of_ble_eq_true rfl)⟩ (Nat.le_of_ble_eq_true rfl) ⟨rfl, rfl⟩ (ct_m_in _ _ _ _) ?_
  refine J_if_ne (nx := 17) (tgt := 21) dX12_lost_14 rfl (by decide) (fun c_14 => ?_) (fun c_14 => ?_)
  · refine J_iconst (nx := 22) (i := 0) (v := 0) (by decide) dX12_lost_21 rfl ?_
    refine J_iconst (nx := 23) (i := 1) (v := 1) (by decide) dX12_lost_22 rfl ?_
    refine J_thr (b := false) (nx := 26) dX12_lost_23 rfl lk_X12_237 ⟨(Nat.le_of_ble_eq_true rfl), (Nat.le_of_ble_eq_true rfl)⟩ (Nat.le_of_ble_eq_true rfl) (fun b_23 => ?_) (fun b_23 => ?_)
    · exact absurd b_23 (by decide)
    · refine J_if_eq (nx := 29) (tgt := 30) dX12_lost_26 rfl (by decide) (fun c_26 => ?_) (fun c_26 => ?_)
      · have HC : mxC [(fIn n 0 9999, 1)] = none := (by simp only [bI_is0, bI_is1, Bool.not_eq_true', Bool.not_eq_false'] at c_14; simp only [mxC, c_14, Bool.and_true, Bool.true_and, Bool.false_and, Bool.and_false, cond_true, cond_false])
        have HG0 := HC
        obtain ⟨hk0, HG1⟩ := gd HG0
        have hk0_0 := hk0
        refine J_aload_n (nx := 31) dX12_lost_30 rfl rfl ?_
        refine Jg_63_1 (nx := 34) dX12_lost_31 rfl fl_X12_13 ?_
        refine J_bipush (nx := 36) (i := 8) (v := 8) (by decide) dX12_lost_34 rfl ?_
        refine J_iload_n (nx := 37) dX12_lost_36 rfl rfl ?_
        refine Jt_64 (nx := 38) dX12_lost_37 rfl (vpE (n := 8) (nIc 8) (by omega) (by decide)) ?_
        rw [clE (n := 8) (nIc 8) (by omega)]
        exact Jrv dX12_lost_38 rfl (Nat.zero_le _) (Nat.zero_le _) (RXv.of (Or.inr ⟨HC, rfl⟩))
      · exact absurd (by decide) c_26
  · refine J_iconst (nx := 18) (i := 1) (v := 1) (by decide) dX12_lost_17 rfl ?_
    refine J_goto (nx := 22) dX12_lost_18 (by decide) ?_
    refine J_iconst (nx := 23) (i := 1) (v := 1) (by decide) dX12_lost_22 rfl ?_
    refine J_thr (b := true) (nx := 26) dX12_lost_23 rfl lk_X12_237 ⟨(Nat.le_of_ble_eq_true rfl), (Nat.le_of_ble_eq_true rfl)⟩ (Nat.le_of_ble_eq_true rfl) (fun b_23 => ?_) (fun b_23 => ?_)
    · refine J_if_eq (nx := 29) (tgt := 30) dX12_lost_26 rfl (by decide) (fun c_26 => ?_) (fun c_26 => ?_)
      · exact absurd c_26 (by decide)
      · exact Jrv dX12_lost_29 rfl (Nat.zero_le _) (Nat.zero_le _) (RXv.of (Or.inl ⟨_, (by simp only [bI_is0, bI_is1, Bool.not_eq_true', Bool.not_eq_false'] at c_14; simp only [mxC, c_14, Bool.and_true, Bool.true_and, Bool.false_and, Bool.and_false, cond_true, cond_false]), rfl⟩))
    · exact absurd b_23 (by decide)

set_option maxRecDepth 100000 in
set_option maxHeartbeats 4000000 in
theorem ct_m_horizon (g : GS) (n : Int32) : Ct mX12_horizon (rm 2 0 0) [.ref 63, .int n] (Wd g) (PQv g [(fIn n 1 60, 1)] (fun g2 => g2 = wU (sF g 63 0 0) 5 n)) := by
  refine Ct.of (by decide +kernel) (Nat.le_of_ble_eq_true rfl) ?_
  show J _ _ _ _ 0 [some (.ref 63), some (.int n)] [] _ 0 0
  refine J_aload_n (nx := 1) dX12_horizon_0 rfl rfl ?_
  refine J_iconst (nx := 2) (i := 0) (v := 0) (by decide) dX12_horizon_1 rfl ?_
  refine Jp_63_0 (nx := 5) dX12_horizon_2 rfl fl_X12_3 ?_
  refine J_aload_n (nx := 6) dX12_horizon_5 rfl rfl ?_
  refine J_iload_n (nx := 7) dX12_horizon_6 rfl rfl ?_
  refine J_iconst (nx := 8) (i := 1) (v := 1) (by decide) dX12_horizon_7 rfl ?_
  refine J_bipush (nx := 10) (i := 60) (v := 60) (by decide) dX12_horizon_8 rfl ?_
  refine JcS3 (R' := rm (0) 0 0) (nx := 13) dX12_horizon_10 rfl ml_X12_in lk_X12_77 st_X12_in ⟨(Nat.le_of_ble_eq_true rfl), (Nat.le_of_ble_eq_true rfl)⟩ (Nat.le_of_ble_eq_true rfl) ⟨rfl, rfl⟩ (ct_m_in _ _ _ _) ?_
  refine J_if_ne (nx := 16) (tgt := 20) dX12_horizon_13 rfl (by decide) (fun c_13 => ?_) (fun c_13 => ?_)
  · refine J_iconst (nx := 21) (i := 0) (v := 0) (by decide) dX12_horizon_20 rfl ?_
    refine J_iconst (nx := 22) (i := 1) (v := 1) (by decide) dX12_horizon_21 rfl ?_
    refine J_thr (b := false) (nx := 25) dX12_horizon_22 rfl lk_X12_237 ⟨(Nat.le_of_ble_eq_true rfl), (Nat.le_of_ble_eq_true rfl)⟩ (Nat.le_of_ble_eq_true rfl) (fun b_22 => ?_) (fun b_22 => ?_)
    · exact absurd b_22 (by decide)
    · refine J_if_eq (nx := 28) (tgt := 29) dX12_horizon_25 rfl (by decide) (fun c_25 => ?_) (fun c_25 => ?_)
      · have HC : mxC [(fIn n 1 60, 1)] = none := (by simp only [bI_is0, bI_is1, Bool.not_eq_true', Bool.not_eq_false'] at c_13; simp only [mxC, c_13, Bool.and_true, Bool.true_and, Bool.false_and, Bool.and_false, cond_true, cond_false])
        have HG0 := HC
        obtain ⟨hk0, HG1⟩ := gd HG0
        have hk0_0 := hk0
        refine J_aload_n (nx := 30) dX12_horizon_29 rfl rfl ?_
        refine Jg_63_1 (nx := 33) dX12_horizon_30 rfl fl_X12_13 ?_
        refine J_iconst (nx := 34) (i := 5) (v := 5) (by decide) dX12_horizon_33 rfl ?_
        refine J_iload_n (nx := 35) dX12_horizon_34 rfl rfl ?_
        refine Jt_64 (nx := 36) dX12_horizon_35 rfl (vpE (n := 5) (nIc 5) (by omega) (by decide)) ?_
        rw [clE (n := 5) (nIc 5) (by omega)]
        exact Jrv dX12_horizon_36 rfl (Nat.zero_le _) (Nat.zero_le _) (RXv.of (Or.inr ⟨HC, rfl⟩))
      · exact absurd (by decide) c_25
  · refine J_iconst (nx := 17) (i := 1) (v := 1) (by decide) dX12_horizon_16 rfl ?_
    refine J_goto (nx := 21) dX12_horizon_17 (by decide) ?_
    refine J_iconst (nx := 22) (i := 1) (v := 1) (by decide) dX12_horizon_21 rfl ?_
    refine J_thr (b := true) (nx := 25) dX12_horizon_22 rfl lk_X12_237 ⟨(Nat.le_of_ble_eq_true rfl), (Nat.le_of_ble_eq_true rfl)⟩ (Nat.le_of_ble_eq_true rfl) (fun b_22 => ?_) (fun b_22 => ?_)
    · refine J_if_eq (nx := 28) (tgt := 29) dX12_horizon_25 rfl (by decide) (fun c_25 => ?_) (fun c_25 => ?_)
      · exact absurd c_25 (by decide)
      · exact Jrv dX12_horizon_28 rfl (Nat.zero_le _) (Nat.zero_le _) (RXv.of (Or.inl ⟨_, (by simp only [bI_is0, bI_is1, Bool.not_eq_true', Bool.not_eq_false'] at c_13; simp only [mxC, c_13, Bool.and_true, Bool.true_and, Bool.false_and, Bool.and_false, cond_true, cond_false]), rfl⟩))
    · exact absurd b_22 (by decide)

set_option maxRecDepth 100000 in
set_option maxHeartbeats 4000000 in
theorem ct_m_grace (g : GS) (n : Int32) : Ct mX12_grace (rm 2 0 0) [.ref 63, .int n] (Wd g) (PQv g [(fIn n 0 10, 1)] (fun g2 => g2 = wU (sF g 63 0 0) 4 n)) := by
  refine Ct.of (by decide +kernel) (Nat.le_of_ble_eq_true rfl) ?_
  show J _ _ _ _ 0 [some (.ref 63), some (.int n)] [] _ 0 0
  refine J_aload_n (nx := 1) dX12_grace_0 rfl rfl ?_
  refine J_iconst (nx := 2) (i := 0) (v := 0) (by decide) dX12_grace_1 rfl ?_
  refine Jp_63_0 (nx := 5) dX12_grace_2 rfl fl_X12_3 ?_
  refine J_aload_n (nx := 6) dX12_grace_5 rfl rfl ?_
  refine J_iload_n (nx := 7) dX12_grace_6 rfl rfl ?_
  refine J_iconst (nx := 8) (i := 0) (v := 0) (by decide) dX12_grace_7 rfl ?_
  refine J_bipush (nx := 10) (i := 10) (v := 10) (by decide) dX12_grace_8 rfl ?_
  refine JcS3 (R' := rm (0) 0 0) (nx := 13) dX12_grace_10 rfl ml_X12_in lk_X12_77 st_X12_in ⟨(Nat.le_of_ble_eq_true rfl), (Nat.le_of_ble_eq_true rfl)⟩ (Nat.le_of_ble_eq_true rfl) ⟨rfl, rfl⟩ (ct_m_in _ _ _ _) ?_
  refine J_if_ne (nx := 16) (tgt := 20) dX12_grace_13 rfl (by decide) (fun c_13 => ?_) (fun c_13 => ?_)
  · refine J_iconst (nx := 21) (i := 0) (v := 0) (by decide) dX12_grace_20 rfl ?_
    refine J_iconst (nx := 22) (i := 1) (v := 1) (by decide) dX12_grace_21 rfl ?_
    refine J_thr (b := false) (nx := 25) dX12_grace_22 rfl lk_X12_237 ⟨(Nat.le_of_ble_eq_true rfl), (Nat.le_of_ble_eq_true rfl)⟩ (Nat.le_of_ble_eq_true rfl) (fun b_22 => ?_) (fun b_22 => ?_)
    · exact absurd b_22 (by decide)
    · refine J_if_eq (nx := 28) (tgt := 29) dX12_grace_25 rfl (by decide) (fun c_25 => ?_) (fun c_25 => ?_)
      · have HC : mxC [(fIn n 0 10, 1)] = none := (by simp only [bI_is0, bI_is1, Bool.not_eq_true', Bool.not_eq_false'] at c_13; simp only [mxC, c_13, Bool.and_true, Bool.true_and, Bool.false_and, Bool.and_false, cond_true, cond_false])
        have HG0 := HC
        obtain ⟨hk0, HG1⟩ := gd HG0
        have hk0_0 := hk0
        refine J_aload_n (nx := 30) dX12_grace_29 rfl rfl ?_
        refine Jg_63_1 (nx := 33) dX12_grace_30 rfl fl_X12_13 ?_
        refine J_iconst (nx := 34) (i := 4) (v := 4) (by decide) dX12_grace_33 rfl ?_
        refine J_iload_n (nx := 35) dX12_grace_34 rfl rfl ?_
        refine Jt_64 (nx := 36) dX12_grace_35 rfl (vpE (n := 4) (nIc 4) (by omega) (by decide)) ?_
        rw [clE (n := 4) (nIc 4) (by omega)]
        exact Jrv dX12_grace_36 rfl (Nat.zero_le _) (Nat.zero_le _) (RXv.of (Or.inr ⟨HC, rfl⟩))
      · exact absurd (by decide) c_25
  · refine J_iconst (nx := 17) (i := 1) (v := 1) (by decide) dX12_grace_16 rfl ?_
    refine J_goto (nx := 21) dX12_grace_17 (by decide) ?_
    refine J_iconst (nx := 22) (i := 1) (v := 1) (by decide) dX12_grace_21 rfl ?_
    refine J_thr (b := true) (nx := 25) dX12_grace_22 rfl lk_X12_237 ⟨(Nat.le_of_ble_eq_true rfl), (Nat.le_of_ble_eq_true rfl)⟩ (Nat.le_of_ble_eq_true rfl) (fun b_22 => ?_) (fun b_22 => ?_)
    · refine J_if_eq (nx := 28) (tgt := 29) dX12_grace_25 rfl (by decide) (fun c_25 => ?_) (fun c_25 => ?_)
      · exact absurd c_25 (by decide)
      · exact Jrv dX12_grace_28 rfl (Nat.zero_le _) (Nat.zero_le _) (RXv.of (Or.inl ⟨_, (by simp only [bI_is0, bI_is1, Bool.not_eq_true', Bool.not_eq_false'] at c_13; simp only [mxC, c_13, Bool.and_true, Bool.true_and, Bool.false_and, Bool.and_false, cond_true, cond_false]), rfl⟩))
    · exact absurd b_22 (by decide)

set_option maxRecDepth 100000 in
set_option maxHeartbeats 4000000 in
theorem ct_m_patience (g : GS) (n : Int32) : Ct mX12_patience (rm 2 0 0) [.ref 63, .int n] (Wd g) (PQv g [(fIn n 0 99, 1)] (fun g2 => g2 = wU (sF g 63 0 0) 9 n)) := by
  refine Ct.of (by decide +kernel) (Nat.le_of_ble_eq_true rfl) ?_
  show J _ _ _ _ 0 [some (.ref 63), some (.int n)] [] _ 0 0
  refine J_aload_n (nx := 1) dX12_patience_0 rfl rfl ?_
  refine J_iconst (nx := 2) (i := 0) (v := 0) (by decide) dX12_patience_1 rfl ?_
  refine Jp_63_0 (nx := 5) dX12_patience_2 rfl fl_X12_3 ?_
  refine J_aload_n (nx := 6) dX12_patience_5 rfl rfl ?_
  refine J_iload_n (nx := 7) dX12_patience_6 rfl rfl ?_
  refine J_iconst (nx := 8) (i := 0) (v := 0) (by decide) dX12_patience_7 rfl ?_
  refine J_bipush (nx := 10) (i := 99) (v := 99) (by decide) dX12_patience_8 rfl ?_
  refine JcS3 (R' := rm (0) 0 0) (nx := 13) dX12_patience_10 rfl ml_X12_in lk_X12_77 st_X12_in ⟨(Nat.le_of_ble_eq_true rfl), (Nat.le_of_ble_eq_true rfl)⟩ (Nat.le_of_ble_eq_true rfl) ⟨rfl, rfl⟩ (ct_m_in _ _ _ _) ?_
  refine J_if_ne (nx := 16) (tgt := 20) dX12_patience_13 rfl (by decide) (fun c_13 => ?_) (fun c_13 => ?_)
  · refine J_iconst (nx := 21) (i := 0) (v := 0) (by decide) dX12_patience_20 rfl ?_
    refine J_iconst (nx := 22) (i := 1) (v := 1) (by decide) dX12_patience_21 rfl ?_
    refine J_thr (b := false) (nx := 25) dX12_patience_22 rfl lk_X12_237 ⟨(Nat.le_of_ble_eq_true rfl), (Nat.le_of_ble_eq_true rfl)⟩ (Nat.le_of_ble_eq_true rfl) (fun b_22 => ?_) (fun b_22 => ?_)
    · exact absurd b_22 (by decide)
    · refine J_if_eq (nx := 28) (tgt := 29) dX12_patience_25 rfl (by decide) (fun c_25 => ?_) (fun c_25 => ?_)
      · have HC : mxC [(fIn n 0 99, 1)] = none := (by simp only [bI_is0, bI_is1, Bool.not_eq_true', Bool.not_eq_false'] at c_13; simp only [mxC, c_13, Bool.and_true, Bool.true_and, Bool.false_and, Bool.and_false, cond_true, cond_false])
        have HG0 := HC
        obtain ⟨hk0, HG1⟩ := gd HG0
        have hk0_0 := hk0
        refine J_aload_n (nx := 30) dX12_patience_29 rfl rfl ?_
        refine Jg_63_1 (nx := 33) dX12_patience_30 rfl fl_X12_13 ?_
        refine J_bipush (nx := 35) (i := 9) (v := 9) (by decide) dX12_patience_33 rfl ?_
        refine J_iload_n (nx := 36) dX12_patience_35 rfl rfl ?_
        refine Jt_64 (nx := 37) dX12_patience_36 rfl (vpE (n := 9) (nIc 9) (by omega) (by decide)) ?_
        rw [clE (n := 9) (nIc 9) (by omega)]
        exact Jrv dX12_patience_37 rfl (Nat.zero_le _) (Nat.zero_le _) (RXv.of (Or.inr ⟨HC, rfl⟩))
      · exact absurd (by decide) c_25
  · refine J_iconst (nx := 17) (i := 1) (v := 1) (by decide) dX12_patience_16 rfl ?_
    refine J_goto (nx := 21) dX12_patience_17 (by decide) ?_
    refine J_iconst (nx := 22) (i := 1) (v := 1) (by decide) dX12_patience_21 rfl ?_
    refine J_thr (b := true) (nx := 25) dX12_patience_22 rfl lk_X12_237 ⟨(Nat.le_of_ble_eq_true rfl), (Nat.le_of_ble_eq_true rfl)⟩ (Nat.le_of_ble_eq_true rfl) (fun b_22 => ?_) (fun b_22 => ?_)
    · refine J_if_eq (nx := 28) (tgt := 29) dX12_patience_25 rfl (by decide) (fun c_25 => ?_) (fun c_25 => ?_)
      · exact absurd c_25 (by decide)
      · exact Jrv dX12_patience_28 rfl (Nat.zero_le _) (Nat.zero_le _) (RXv.of (Or.inl ⟨_, (by simp only [bI_is0, bI_is1, Bool.not_eq_true', Bool.not_eq_false'] at c_13; simp only [mxC, c_13, Bool.and_true, Bool.true_and, Bool.false_and, Bool.and_false, cond_true, cond_false]), rfl⟩))
    · exact absurd b_22 (by decide)

set_option maxRecDepth 100000 in
set_option maxHeartbeats 4000000 in
theorem ct_m_worth (g : GS) (gl : List TxL) (rl : Nat → List TxL) (hM : MOK (gA g 64) gl rl) (s : Int32) (t : Int32) : Ct mX12_worth (rm 5 0 0) [.ref 63, .int s, .int t] (Wd g) (PQl g [(fIn s 0 31, 1), (fIn t 0 60, 2)] (fun x g2 => x = mLT (gA g 64) (mGc (gA g 64) (gA g 64 6) gl) (nN t) (nN s) ∧ QF g g2)) := by
  have hM2 := hM
  obtain ⟨⟨hG10, hG⟩, ⟨hT1, hT60, hT⟩, ⟨hR4, hR, hrl⟩, ⟨hN6, hN⟩, hgl, hgk⟩ := hM2
  refine Ct.of (by decide +kernel) (Nat.le_of_ble_eq_true rfl) ?_
  show J _ _ _ _ 0 [some (.ref 63), some (.int s), some (.int t)] [] _ 0 0
  refine J_aload_n (nx := 1) dX12_worth_0 rfl rfl ?_
  refine J_iconst (nx := 2) (i := 0) (v := 0) (by decide) dX12_worth_1 rfl ?_
  refine Jp_63_0 (nx := 5) dX12_worth_2 rfl fl_X12_3 ?_
  refine J_aload_n (nx := 6) dX12_worth_5 rfl rfl ?_
  refine J_iload_n (nx := 7) dX12_worth_6 rfl rfl ?_
  refine JcS1 (R' := rm (1) 0 0) (nx := 10) dX12_worth_7 rfl ml_X12_noState lk_X12_245 st_X12_noState ⟨(Nat.le_of_ble_eq_true rfl), (Nat.le_of_ble_eq_true rfl)⟩ (Nat.le_of_ble_eq_true rfl) ⟨rfl, rfl⟩ (ct_m_noState _ _) ?_
  refine J_iconst (nx := 11) (i := 1) (v := 1) (by decide) dX12_worth_10 rfl ?_
  refine J_thr (nx := 14) dX12_worth_11 rfl lk_X12_237 ⟨(Nat.le_of_ble_eq_true rfl), (Nat.le_of_ble_eq_true rfl)⟩ (Nat.le_of_ble_eq_true rfl) (fun b_11 => ?_) (fun b_11 => ?_)
  · refine J_if_ne (nx := 17) (tgt := 40) dX12_worth_14 rfl (by decide) (fun c_14 => ?_) (fun c_14 => ?_)
    · refine J_lconst (nx := 41) (i := 0) (v := 0) (by decide) dX12_worth_40 rfl ?_
      exact Jrl dX12_worth_41 rfl (Nat.zero_le _) (Nat.zero_le _) (RXl.of (Or.inl ⟨_, (by simp only [bI_is0, bI_is1, Bool.not_eq_true', Bool.not_eq_false'] at b_11; simp only [mxC, b_11, Bool.and_true, Bool.true_and, Bool.false_and, Bool.and_false, cond_true, cond_false]), rfl, rfl⟩))
    · exact absurd c_14 (by decide)
  · refine J_if_ne (nx := 17) (tgt := 40) dX12_worth_14 rfl (by decide) (fun c_14 => ?_) (fun c_14 => ?_)
    · exact absurd (by decide) c_14
    · refine J_aload_n (nx := 18) dX12_worth_17 rfl rfl ?_
      refine J_iload_n (nx := 19) dX12_worth_18 rfl rfl ?_
      refine J_iconst (nx := 20) (i := 0) (v := 0) (by decide) dX12_worth_19 rfl ?_
      refine J_bipush (nx := 22) (i := 60) (v := 60) (by decide) dX12_worth_20 rfl ?_
      refine JcS3 (R' := rm (0) 0 0) (nx := 25) dX12_worth_22 rfl ml_X12_in lk_X12_77 st_X12_in ⟨(Nat.le_of_ble_eq_true rfl), (Nat.le_of_ble_eq_true rfl)⟩ (Nat.le_of_ble_eq_true rfl) ⟨rfl, rfl⟩ (ct_m_in _ _ _ _) ?_
      refine J_if_ne (nx := 28) (tgt := 32) dX12_worth_25 rfl (by decide) (fun c_25 => ?_) (fun c_25 => ?_)
      · refine J_iconst (nx := 33) (i := 0) (v := 0) (by decide) dX12_worth_32 rfl ?_
        refine J_iconst (nx := 34) (i := 2) (v := 2) (by decide) dX12_worth_33 rfl ?_
        refine J_thr (b := false) (nx := 37) dX12_worth_34 rfl lk_X12_237 ⟨(Nat.le_of_ble_eq_true rfl), (Nat.le_of_ble_eq_true rfl)⟩ (Nat.le_of_ble_eq_true rfl) (fun b_34 => ?_) (fun b_34 => ?_)
        · exact absurd b_34 (by decide)
        · refine J_if_eq (nx := 40) (tgt := 42) dX12_worth_37 rfl (by decide) (fun c_37 => ?_) (fun c_37 => ?_)
          · have HC : mxC [(fIn s 0 31, 1), (fIn t 0 60, 2)] = none := (by simp only [bI_is0, bI_is1, Bool.not_eq_true', Bool.not_eq_false'] at b_11 c_25; simp only [mxC, b_11, c_25, Bool.and_true, Bool.true_and, Bool.false_and, Bool.and_false, cond_true, cond_false])
            have HG0 := HC
            obtain ⟨hk0, HG1⟩ := gd HG0
            have hk0_0 := hk0
            obtain ⟨qs, hqs, rfl⟩ := fIn_nat (n := 31) (by omega) hk0_0
            try rw [nN_nI (n := qs) (by omega)]
            obtain ⟨hk1, HG2⟩ := gd HG1
            have hk1_0 := hk1
            obtain ⟨qt, hqt, rfl⟩ := fIn_nat (n := 60) (by omega) hk1_0
            try rw [nN_nI (n := qt) (by omega)]
            refine J_aload_n (nx := 43) dX12_worth_42 rfl rfl ?_
            refine J_aload_n (nx := 44) dX12_worth_43 rfl rfl ?_
            refine Jg_63_1 (nx := 47) dX12_worth_44 rfl fl_X12_13 ?_
            refine J_bipush (nx := 49) (i := 6) (v := 6) (by decide) dX12_worth_47 rfl ?_
            refine Ja_64 (nx := 50) dX12_worth_49 rfl (vpE (n := 6) (nIc 6) (by omega) (by decide)) ?_
            rw [clE (n := 6) (nIc 6) (by omega)]
            refine JvV1 (R' := rm (4) 0 0) (nx := 53) dX12_worth_50 rfl ml_X12_letsOn lk_X12_296 iv_X12_letsOn rfl rfl ⟨(Nat.le_of_ble_eq_true rfl), (Nat.le_of_ble_eq_true rfl)⟩ (Nat.le_of_ble_eq_true rfl) ⟨rfl, rfl⟩ (ct_m_letsOn (sF g 63 0 0) (gA g 64) (gA g 64 6) gl rfl hgl hgk) (fun g_50 p_50 => ?_)
            refine J_aload_n (nx := 54) dX12_worth_53 rfl rfl ?_
            refine Jg_63_19 (nx := 57) dX12_worth_54 rfl fl_X12_42 ?_
            refine J_bipush (nx := 59) (i := 32) (v := 32) (by decide) dX12_worth_57 rfl ?_
            refine J_iload_n (nx := 60) dX12_worth_59 rfl rfl ?_
            refine J_imul (nx := 61) dX12_worth_60 rfl ?_
            refine J_iload_n (nx := 62) dX12_worth_61 rfl rfl ?_
            refine J_iadd (nx := 63) dX12_worth_62 rfl ?_
            refine Ja_72 (nx := 64) dX12_worth_63 rfl (vpE (n := ((32 * qt) + qs)) (nIa (nIm (nIc 32) (Eq.refl (nI (qt)))) (Eq.refl (nI (qs)))) (by omega) (by decide)) ?_
            rw [clE (n := ((32 * qt) + qs)) (nIa (nIm (nIc 32) (Eq.refl (nI (qt)))) (Eq.refl (nI (qs)))) (by omega)]
            exact Jrl dX12_worth_64 rfl (Nat.zero_le _) (Nat.zero_le _) (RXl.of (Or.inr ⟨HC, (LOK.ls (show gA (sF g 63 0 0) 64 = gA g 64 from rfl) p_50).2.2.2 qt qs (by omega) (by omega), QF.of (Fr.rf.LO p_50.1)⟩))
          · exact absurd (by decide) c_37
      · refine J_iconst (nx := 29) (i := 1) (v := 1) (by decide) dX12_worth_28 rfl ?_
        refine J_goto (nx := 33) dX12_worth_29 (by decide) ?_
        refine J_iconst (nx := 34) (i := 2) (v := 2) (by decide) dX12_worth_33 rfl ?_
        refine J_thr (b := true) (nx := 37) dX12_worth_34 rfl lk_X12_237 ⟨(Nat.le_of_ble_eq_true rfl), (Nat.le_of_ble_eq_true rfl)⟩ (Nat.le_of_ble_eq_true rfl) (fun b_34 => ?_) (fun b_34 => ?_)
        · refine J_if_eq (nx := 40) (tgt := 42) dX12_worth_37 rfl (by decide) (fun c_37 => ?_) (fun c_37 => ?_)
          · exact absurd c_37 (by decide)
          · refine J_lconst (nx := 41) (i := 0) (v := 0) (by decide) dX12_worth_40 rfl ?_
            exact Jrl dX12_worth_41 rfl (Nat.zero_le _) (Nat.zero_le _) (RXl.of (Or.inl ⟨_, (by simp only [bI_is0, bI_is1, Bool.not_eq_true', Bool.not_eq_false'] at b_11 c_25; simp only [mxC, b_11, c_25, Bool.and_true, Bool.true_and, Bool.false_and, Bool.and_false, cond_true, cond_false]), rfl, rfl⟩))
        · exact absurd b_34 (by decide)

set_option maxRecDepth 100000 in
set_option maxHeartbeats 4000000 in
theorem ct_m_stop (g : GS) (gl : List TxL) (rl : Nat → List TxL) (hM : MOK (gA g 64) gl rl) (k : Int32) (z : Int32) (after : Bool) : Ct mX12_stop (rm 4 0 0) [.ref 63, .int k, .int z, .int (bI after)] (Wd g) (PQi g [(wMs (gA g 64) k && fIn z 0 7, 1)] (fun x g2 => x = (bif after then wAf (gA g 64) (nN k) (wTo (gA g 64) (nN k)) else wSw (gA g 64) (nN k) (nN z) (wTo (gA g 64) (nN k))) ∧ QF g g2)) := by
  have hM2 := hM
  obtain ⟨⟨hG10, hG⟩, ⟨hT1, hT60, hT⟩, ⟨hR4, hR, hrl⟩, ⟨hN6, hN⟩, hgl, hgk⟩ := hM2
  refine Ct.of (by decide +kernel) (Nat.le_of_ble_eq_true rfl) ?_
  show J _ _ _ _ 0 [some (.ref 63), some (.int k), some (.int z), some (.int (bI after))] [] _ 0 0
  refine J_aload_n (nx := 1) dX12_stop_0 rfl rfl ?_
  refine J_iconst (nx := 2) (i := 0) (v := 0) (by decide) dX12_stop_1 rfl ?_
  refine Jp_63_0 (nx := 5) dX12_stop_2 rfl fl_X12_3 ?_
  refine J_aload_n (nx := 6) dX12_stop_5 rfl rfl ?_
  refine J_aload_n (nx := 7) dX12_stop_6 rfl rfl ?_
  refine J_iload_n (nx := 8) dX12_stop_7 rfl rfl ?_
  refine JcV1 (R' := rm (1) 0 0) (nx := 11) dX12_stop_8 rfl ml_X12_noSort lk_X12_317 iv_X12_noSort rfl rfl ⟨(Nat.le_of_ble_eq_true rfl), (Nat.le_of_ble_eq_true rfl)⟩ (Nat.le_of_ble_eq_true rfl) ⟨rfl, rfl⟩ (ct_m_noSortW (sF g 63 0 0) (gA g 64) rfl _) ?_
  refine J_if_ne (nx := 14) (tgt := 21) dX12_stop_11 rfl (by decide) (fun c_11 => ?_) (fun c_11 => ?_)
  · refine J_iconst (nx := 22) (i := 1) (v := 1) (by decide) dX12_stop_21 rfl ?_
    refine J_goto (nx := 26) dX12_stop_22 (by decide) ?_
    refine J_iconst (nx := 27) (i := 1) (v := 1) (by decide) dX12_stop_26 rfl ?_
    refine J_thr (b := true) (nx := 30) dX12_stop_27 rfl lk_X12_237 ⟨(Nat.le_of_ble_eq_true rfl), (Nat.le_of_ble_eq_true rfl)⟩ (Nat.le_of_ble_eq_true rfl) (fun b_27 => ?_) (fun b_27 => ?_)
    · refine J_if_eq (nx := 33) (tgt := 35) dX12_stop_30 rfl (by decide) (fun c_30 => ?_) (fun c_30 => ?_)
      · exact absurd c_30 (by decide)
      · refine J_iconst (nx := 34) (i := 0) (v := 0) (by decide) dX12_stop_33 rfl ?_
        exact Jri dX12_stop_34 rfl (Nat.zero_le _) (Nat.zero_le _) (RXi.of (Or.inl ⟨_, (by simp only [bI_is0, bI_is1, Bool.not_eq_true', Bool.not_eq_false'] at c_11; simp only [mxC, c_11, Bool.and_true, Bool.true_and, Bool.false_and, Bool.and_false, cond_true, cond_false]), rfl, rfl⟩))
    · exact absurd b_27 (by decide)
  · refine J_iload_n (nx := 15) dX12_stop_14 rfl rfl ?_
    refine JcS1 (R' := rm (1) 0 0) (nx := 18) dX12_stop_15 rfl ml_X12_noZone lk_X12_254 st_X12_noZone ⟨(Nat.le_of_ble_eq_true rfl), (Nat.le_of_ble_eq_true rfl)⟩ (Nat.le_of_ble_eq_true rfl) ⟨rfl, rfl⟩ (ct_m_noZone _ _) ?_
    refine J_if_eq (nx := 21) (tgt := 25) dX12_stop_18 rfl (by decide) (fun c_18 => ?_) (fun c_18 => ?_)
    · refine J_iconst (nx := 26) (i := 0) (v := 0) (by decide) dX12_stop_25 rfl ?_
      refine J_iconst (nx := 27) (i := 1) (v := 1) (by decide) dX12_stop_26 rfl ?_
      refine J_thr (b := false) (nx := 30) dX12_stop_27 rfl lk_X12_237 ⟨(Nat.le_of_ble_eq_true rfl), (Nat.le_of_ble_eq_true rfl)⟩ (Nat.le_of_ble_eq_true rfl) (fun b_27 => ?_) (fun b_27 => ?_)
      · exact absurd b_27 (by decide)
      · refine J_if_eq (nx := 33) (tgt := 35) dX12_stop_30 rfl (by decide) (fun c_30 => ?_) (fun c_30 => ?_)
        · have HC : mxC [(wMs (gA g 64) k && fIn z 0 7, 1)] = none := (by simp only [bI_is0, bI_is1, Bool.not_eq_true', Bool.not_eq_false'] at c_11 c_18; simp only [mxC, c_11, c_18, Bool.and_true, Bool.true_and, Bool.false_and, Bool.and_false, cond_true, cond_false])
          have HG0 := HC
          obtain ⟨hk0, HG1⟩ := gd HG0
          simp only [Bool.and_eq_true] at hk0
          obtain ⟨hk0_0, hk0_1⟩ := hk0
          obtain ⟨qk, hqk, rfl⟩ := wMs_nat hM hk0_0
          try rw [nN_nI (n := qk) (by omega)]
          obtain ⟨qz, hqz, rfl⟩ := fIn_nat (n := 7) (by omega) hk0_1
          try rw [nN_nI (n := qz) (by omega)]
          refine J_aload_n (nx := 36) dX12_stop_35 rfl rfl ?_
          refine J_iload_n (nx := 37) dX12_stop_36 rfl rfl ?_
          refine J_iload_n (nx := 38) dX12_stop_37 rfl rfl ?_
          refine J_aload_n (nx := 39) dX12_stop_38 rfl rfl ?_
          refine J_iload_n (nx := 40) dX12_stop_39 rfl rfl ?_
          refine JcV1 (R' := rm (1) 0 0) (nx := 43) dX12_stop_40 rfl ml_X12_toldCard lk_X12_320 iv_X12_toldCard rfl rfl ⟨(Nat.le_of_ble_eq_true rfl), (Nat.le_of_ble_eq_true rfl)⟩ (Nat.le_of_ble_eq_true rfl) ⟨rfl, rfl⟩ (ct_m_toldCard _ (qk) (by omega)) ?_
          rw [show mSo (sF g 63 0 0) qk 0 = wTo (gA g 64) qk from rfl]
          refine JcV3 (R' := rm (3) 0 0) (nx := 46) dX12_stop_43 rfl ml_X12_fouls lk_X12_323 iv_X12_fouls rfl rfl ⟨(Nat.le_of_ble_eq_true rfl), (Nat.le_of_ble_eq_true rfl)⟩ (Nat.le_of_ble_eq_true rfl) ⟨rfl, rfl⟩ (ct_m_fouls _ (qk) (qz) (by omega) (by omega) _) ?_
          have hF := FSt.Fo (W := gA g 64) (g := (sF g 63 0 0)) (k := qk) (z := qz) (told := wTo (gA g 64) qk) rfl
          refine J_iload_n (nx := 47) dX12_stop_46 rfl rfl ?_
          refine J_if_eq (nx := 50) (tgt := 57) dX12_stop_47 rfl (by decide) (fun c_47 => ?_) (fun c_47 => ?_)
          · refine J_aload_n (nx := 58) dX12_stop_57 rfl rfl ?_
            refine Jg_63_22 (nx := 61) dX12_stop_58 rfl fl_X12_308 ?_
            exact Jri dX12_stop_61 rfl (Nat.zero_le _) (Nat.zero_le _) (RXi.of (Or.inr ⟨HC, by first | (rw [bI_0.mp c_47]; exact hF.1) | (rw [bI_n0.mp c_47]; exact hF.2.1), QF.of (Fr.mFo Fr.rf)⟩))
          · refine J_aload_n (nx := 51) dX12_stop_50 rfl rfl ?_
            refine Jg_63_23 (nx := 54) dX12_stop_51 rfl fl_X12_311 ?_
            refine J_goto (nx := 61) dX12_stop_54 (by decide) ?_
            exact Jri dX12_stop_61 rfl (Nat.zero_le _) (Nat.zero_le _) (RXi.of (Or.inr ⟨HC, by first | (rw [bI_0.mp c_47]; exact hF.1) | (rw [bI_n0.mp c_47]; exact hF.2.1), QF.of (Fr.mFo Fr.rf)⟩))
        · exact absurd (by decide) c_30
    · refine J_iconst (nx := 22) (i := 1) (v := 1) (by decide) dX12_stop_21 rfl ?_
      refine J_goto (nx := 26) dX12_stop_22 (by decide) ?_
      refine J_iconst (nx := 27) (i := 1) (v := 1) (by decide) dX12_stop_26 rfl ?_
      refine J_thr (b := true) (nx := 30) dX12_stop_27 rfl lk_X12_237 ⟨(Nat.le_of_ble_eq_true rfl), (Nat.le_of_ble_eq_true rfl)⟩ (Nat.le_of_ble_eq_true rfl) (fun b_27 => ?_) (fun b_27 => ?_)
      · refine J_if_eq (nx := 33) (tgt := 35) dX12_stop_30 rfl (by decide) (fun c_30 => ?_) (fun c_30 => ?_)
        · exact absurd c_30 (by decide)
        · refine J_iconst (nx := 34) (i := 0) (v := 0) (by decide) dX12_stop_33 rfl ?_
          exact Jri dX12_stop_34 rfl (Nat.zero_le _) (Nat.zero_le _) (RXi.of (Or.inl ⟨_, (by simp only [bI_is0, bI_is1, Bool.not_eq_true', Bool.not_eq_false'] at c_11 c_18; simp only [mxC, c_11, c_18, Bool.and_true, Bool.true_and, Bool.false_and, Bool.and_false, cond_true, cond_false]), rfl, rfl⟩))
      · exact absurd b_27 (by decide)

set_option maxRecDepth 100000 in
set_option maxHeartbeats 4000000 in
theorem ct_m_judge (g : GS) (gl : List TxL) (rl : Nat → List TxL) (hM : MOK (gA g 64) gl rl) (jd : Int32) (b : Int32) (k : Int32) (z : Int32) (s : Int32) (j : Int32) : Ct mX12_judge (rm 6 0 0) [.ref 63, .int jd, .int b, .int k, .int z, .int s, .int j] (Wd g) (PQl g [(wMj (gA g 64) jd && wMs (gA g 64) k && fIn z 0 7 && fIn s 0 31, 1), (fIn j 0 (gA g 64 4) && fMb jd b, 2)] (fun x g2 => x = jw (mJP (gA g 64) gl rl (gA g 64 6) (nN k) (nN z) (wTo (gA g 64) (nN k)) jd b (mG (gA g 64))) (nN j) (nN s) ∧ QF g g2)) := by
  have hM2 := hM
  obtain ⟨⟨hG10, hG⟩, ⟨hT1, hT60, hT⟩, ⟨hR4, hR, hrl⟩, ⟨hN6, hN⟩, hgl, hgk⟩ := hM2
  refine Ct.of (by decide +kernel) (Nat.le_of_ble_eq_true rfl) ?_
  show J _ _ _ _ 0 [some (.ref 63), some (.int jd), some (.int b), some (.int k), some (.int z), some (.int s), some (.int j)] [] _ 0 0
  refine J_aload_n (nx := 1) dX12_judge_0 rfl rfl ?_
  refine J_iconst (nx := 2) (i := 0) (v := 0) (by decide) dX12_judge_1 rfl ?_
  refine Jp_63_0 (nx := 5) dX12_judge_2 rfl fl_X12_3 ?_
  refine J_aload_n (nx := 6) dX12_judge_5 rfl rfl ?_
  refine J_aload_n (nx := 7) dX12_judge_6 rfl rfl ?_
  refine J_iload_n (nx := 8) dX12_judge_7 rfl rfl ?_
  refine J_iload_n (nx := 9) dX12_judge_8 rfl rfl ?_
  refine J_iload (nx := 11) dX12_judge_9 rfl rfl ?_
  refine JcV3 (R' := rm (2) 0 0) (nx := 14) dX12_judge_11 rfl ml_X12_isNoFoul lk_X12_341 iv_X12_isNoFoul rfl rfl ⟨(Nat.le_of_ble_eq_true rfl), (Nat.le_of_ble_eq_true rfl)⟩ (Nat.le_of_ble_eq_true rfl) ⟨rfl, rfl⟩ (ct_m_isNoFoul (sF g 63 0 0) (gA g 64) rfl _ _ _) ?_
  refine J_if_ne (nx := 17) (tgt := 25) dX12_judge_14 rfl (by decide) (fun c_14 => ?_) (fun c_14 => ?_)
  · refine J_iconst (nx := 26) (i := 1) (v := 1) (by decide) dX12_judge_25 rfl ?_
    refine J_goto (nx := 30) dX12_judge_26 (by decide) ?_
    refine J_iconst (nx := 31) (i := 1) (v := 1) (by decide) dX12_judge_30 rfl ?_
    refine J_thr (b := true) (nx := 34) dX12_judge_31 rfl lk_X12_237 ⟨(Nat.le_of_ble_eq_true rfl), (Nat.le_of_ble_eq_true rfl)⟩ (Nat.le_of_ble_eq_true rfl) (fun b_31 => ?_) (fun b_31 => ?_)
    · refine J_if_ne (nx := 37) (tgt := 74) dX12_judge_34 rfl (by decide) (fun c_34 => ?_) (fun c_34 => ?_)
      · refine J_lconst (nx := 75) (i := 0) (v := 0) (by decide) dX12_judge_74 rfl ?_
        exact Jrl dX12_judge_75 rfl (Nat.zero_le _) (Nat.zero_le _) (RXl.of (Or.inl ⟨_, (by simp only [bI_is0, bI_is1, Bool.not_eq_true', Bool.not_eq_false'] at c_14; simp only [mxC, c_14, Bool.and_true, Bool.true_and, Bool.false_and, Bool.and_false, cond_true, cond_false]), rfl, rfl⟩))
      · exact absurd c_34 (by decide)
    · exact absurd b_31 (by decide)
  · refine J_iload (nx := 19) dX12_judge_17 rfl rfl ?_
    refine JcS1 (R' := rm (1) 0 0) (nx := 22) dX12_judge_19 rfl ml_X12_noState lk_X12_245 st_X12_noState ⟨(Nat.le_of_ble_eq_true rfl), (Nat.le_of_ble_eq_true rfl)⟩ (Nat.le_of_ble_eq_true rfl) ⟨rfl, rfl⟩ (ct_m_noState _ _) ?_
    refine J_if_eq (nx := 25) (tgt := 29) dX12_judge_22 rfl (by decide) (fun c_22 => ?_) (fun c_22 => ?_)
    · refine J_iconst (nx := 30) (i := 0) (v := 0) (by decide) dX12_judge_29 rfl ?_
      refine J_iconst (nx := 31) (i := 1) (v := 1) (by decide) dX12_judge_30 rfl ?_
      refine J_thr (b := false) (nx := 34) dX12_judge_31 rfl lk_X12_237 ⟨(Nat.le_of_ble_eq_true rfl), (Nat.le_of_ble_eq_true rfl)⟩ (Nat.le_of_ble_eq_true rfl) (fun b_31 => ?_) (fun b_31 => ?_)
      · exact absurd b_31 (by decide)
      · refine J_if_ne (nx := 37) (tgt := 74) dX12_judge_34 rfl (by decide) (fun c_34 => ?_) (fun c_34 => ?_)
        · exact absurd (by decide) c_34
        · refine J_aload_n (nx := 38) dX12_judge_37 rfl rfl ?_
          refine J_iload (nx := 40) dX12_judge_38 rfl rfl ?_
          refine J_iconst (nx := 41) (i := 0) (v := 0) (by decide) dX12_judge_40 rfl ?_
          refine J_aload_n (nx := 42) dX12_judge_41 rfl rfl ?_
          refine Jg_63_1 (nx := 45) dX12_judge_42 rfl fl_X12_13 ?_
          refine J_iconst (nx := 46) (i := 4) (v := 4) (by decide) dX12_judge_45 rfl ?_
          refine Ja_64 (nx := 47) dX12_judge_46 rfl (vpE (n := 4) (nIc 4) (by omega) (by decide)) ?_
          rw [clE (n := 4) (nIc 4) (by omega)]
          rw [show gA (sF g 63 0 0) 64 4 = gA g 64 4 from rfl]
          refine JcS3 (R' := rm (0) 0 0) (nx := 50) dX12_judge_47 rfl ml_X12_in lk_X12_77 st_X12_in ⟨(Nat.le_of_ble_eq_true rfl), (Nat.le_of_ble_eq_true rfl)⟩ (Nat.le_of_ble_eq_true rfl) ⟨rfl, rfl⟩ (ct_m_in _ _ _ _) ?_
          refine J_if_eq (nx := 53) (tgt := 62) dX12_judge_50 rfl (by decide) (fun c_50 => ?_) (fun c_50 => ?_)
          · refine J_iconst (nx := 63) (i := 1) (v := 1) (by decide) dX12_judge_62 rfl ?_
            refine J_goto (nx := 67) dX12_judge_63 (by decide) ?_
            refine J_iconst (nx := 68) (i := 2) (v := 2) (by decide) dX12_judge_67 rfl ?_
            refine J_thr (b := true) (nx := 71) dX12_judge_68 rfl lk_X12_237 ⟨(Nat.le_of_ble_eq_true rfl), (Nat.le_of_ble_eq_true rfl)⟩ (Nat.le_of_ble_eq_true rfl) (fun b_68 => ?_) (fun b_68 => ?_)
            · refine J_if_eq (nx := 74) (tgt := 76) dX12_judge_71 rfl (by decide) (fun c_71 => ?_) (fun c_71 => ?_)
              · exact absurd c_71 (by decide)
              · refine J_lconst (nx := 75) (i := 0) (v := 0) (by decide) dX12_judge_74 rfl ?_
                exact Jrl dX12_judge_75 rfl (Nat.zero_le _) (Nat.zero_le _) (RXl.of (Or.inl ⟨_, (by simp only [bI_is0, bI_is1, Bool.not_eq_true', Bool.not_eq_false'] at c_14 c_22 c_50; simp only [mxC, c_14, c_22, c_50, Bool.and_true, Bool.true_and, Bool.false_and, Bool.and_false, cond_true, cond_false]), rfl, rfl⟩))
            · exact absurd b_68 (by decide)
          · refine J_aload_n (nx := 54) dX12_judge_53 rfl rfl ?_
            refine J_iload_n (nx := 55) dX12_judge_54 rfl rfl ?_
            refine J_iload_n (nx := 56) dX12_judge_55 rfl rfl ?_
            refine JcV2 (R' := rm (1) 0 0) (nx := 59) dX12_judge_56 rfl ml_X12_badBar lk_X12_344 iv_X12_badBar rfl rfl ⟨(Nat.le_of_ble_eq_true rfl), (Nat.le_of_ble_eq_true rfl)⟩ (Nat.le_of_ble_eq_true rfl) ⟨rfl, rfl⟩ (ct_m_badBar _ _ _) ?_
            refine J_if_eq (nx := 62) (tgt := 66) dX12_judge_59 rfl (by decide) (fun c_59 => ?_) (fun c_59 => ?_)
            · refine J_iconst (nx := 67) (i := 0) (v := 0) (by decide) dX12_judge_66 rfl ?_
              refine J_iconst (nx := 68) (i := 2) (v := 2) (by decide) dX12_judge_67 rfl ?_
              refine J_thr (b := false) (nx := 71) dX12_judge_68 rfl lk_X12_237 ⟨(Nat.le_of_ble_eq_true rfl), (Nat.le_of_ble_eq_true rfl)⟩ (Nat.le_of_ble_eq_true rfl) (fun b_68 => ?_) (fun b_68 => ?_)
              · exact absurd b_68 (by decide)
              · refine J_if_eq (nx := 74) (tgt := 76) dX12_judge_71 rfl (by decide) (fun c_71 => ?_) (fun c_71 => ?_)
                · have HC : mxC [(wMj (gA g 64) jd && wMs (gA g 64) k && fIn z 0 7 && fIn s 0 31, 1), (fIn j 0 (gA g 64 4) && fMb jd b, 2)] = none := (by simp only [bI_is0, bI_is1, Bool.not_eq_true', Bool.not_eq_false'] at c_14 c_22 c_50 c_59; simp only [mxC, c_14, c_22, c_50, c_59, Bool.and_true, Bool.true_and, Bool.false_and, Bool.and_false, cond_true, cond_false])
                  have HG0 := HC
                  obtain ⟨hk0, HG1⟩ := gd HG0
                  simp only [Bool.and_eq_true] at hk0
                  obtain ⟨⟨⟨hk0_0, hk0_1⟩, hk0_2⟩, hk0_3⟩ := hk0
                  have hjjd := wMj_ok hM hk0_0
                  obtain ⟨qk, hqk, rfl⟩ := wMs_nat hM hk0_1
                  try rw [nN_nI (n := qk) (by omega)]
                  obtain ⟨qz, hqz, rfl⟩ := fIn_nat (n := 7) (by omega) hk0_2
                  try rw [nN_nI (n := qz) (by omega)]
                  obtain ⟨qs, hqs, rfl⟩ := fIn_nat (n := 31) (by omega) hk0_3
                  try rw [nN_nI (n := qs) (by omega)]
                  obtain ⟨hk1, HG2⟩ := gd HG1
                  simp only [Bool.and_eq_true] at hk1
                  obtain ⟨hk1_0, hk1_1⟩ := hk1
                  rw [hG] at hk1_0
                  obtain ⟨qj, hqj, rfl⟩ := fIn_nat (n := mG (gA g 64)) (by omega) hk1_0
                  try rw [nN_nI (n := qj) (by omega)]
                  refine J_aload_n (nx := 77) dX12_judge_76 rfl rfl ?_
                  refine J_iload_n (nx := 78) dX12_judge_77 rfl rfl ?_
                  refine J_iload_n (nx := 79) dX12_judge_78 rfl rfl ?_
                  refine J_iload_n (nx := 80) dX12_judge_79 rfl rfl ?_
                  refine J_iload (nx := 82) dX12_judge_80 rfl rfl ?_
                  refine JvV4 (R' := rm (5) 0 0) (nx := 85) dX12_judge_82 rfl ml_X12_asks lk_X12_347 iv_X12_asks rfl rfl ⟨(Nat.le_of_ble_eq_true rfl), (Nat.le_of_ble_eq_true rfl)⟩ (Nat.le_of_ble_eq_true rfl) ⟨rfl, rfl⟩ (ct_m_asks (sF g 63 0 0) (gA g 64) gl rl rfl hM jd b qk qz (by omega) (by omega) hjjd) (fun g_82 p_82 => ?_)
                  refine J_aload_n (nx := 86) dX12_judge_85 rfl rfl ?_
                  refine Jg_63_26 (nx := 89) dX12_judge_86 rfl fl_X12_46 ?_
                  refine J_bipush (nx := 91) (i := 32) (v := 32) (by decide) dX12_judge_89 rfl ?_
                  refine J_iload (nx := 93) dX12_judge_91 rfl rfl ?_
                  refine J_imul (nx := 94) dX12_judge_93 rfl ?_
                  refine J_iload (nx := 96) dX12_judge_94 rfl rfl ?_
                  refine J_iadd (nx := 97) dX12_judge_96 rfl ?_
                  refine Ja_73 (nx := 98) dX12_judge_97 rfl (vpE (n := ((32 * qj) + qs)) (nIa (nIm (nIc 32) (Eq.refl (nI (qj)))) (Eq.refl (nI (qs)))) (by omega) (by decide)) ?_
                  rw [clE (n := ((32 * qj) + qs)) (nIa (nIm (nIc 32) (Eq.refl (nI (qj)))) (Eq.refl (nI (qs)))) (by omega)]
                  exact Jrl dX12_judge_98 rfl (Nat.zero_le _) (Nat.zero_le _) (RXl.of (Or.inr ⟨HC, p_82.2.w (by omega) (by omega), QF.of p_82.1⟩))
                · exact absurd (by decide) c_71
            · refine J_iconst (nx := 63) (i := 1) (v := 1) (by decide) dX12_judge_62 rfl ?_
              refine J_goto (nx := 67) dX12_judge_63 (by decide) ?_
              refine J_iconst (nx := 68) (i := 2) (v := 2) (by decide) dX12_judge_67 rfl ?_
              refine J_thr (b := true) (nx := 71) dX12_judge_68 rfl lk_X12_237 ⟨(Nat.le_of_ble_eq_true rfl), (Nat.le_of_ble_eq_true rfl)⟩ (Nat.le_of_ble_eq_true rfl) (fun b_68 => ?_) (fun b_68 => ?_)
              · refine J_if_eq (nx := 74) (tgt := 76) dX12_judge_71 rfl (by decide) (fun c_71 => ?_) (fun c_71 => ?_)
                · exact absurd c_71 (by decide)
                · refine J_lconst (nx := 75) (i := 0) (v := 0) (by decide) dX12_judge_74 rfl ?_
                  exact Jrl dX12_judge_75 rfl (Nat.zero_le _) (Nat.zero_le _) (RXl.of (Or.inl ⟨_, (by simp only [bI_is0, bI_is1, Bool.not_eq_true', Bool.not_eq_false'] at c_14 c_22 c_50 c_59; simp only [mxC, c_14, c_22, c_50, c_59, Bool.and_true, Bool.true_and, Bool.false_and, Bool.and_false, cond_true, cond_false]), rfl, rfl⟩))
              · exact absurd b_68 (by decide)
    · refine J_iconst (nx := 26) (i := 1) (v := 1) (by decide) dX12_judge_25 rfl ?_
      refine J_goto (nx := 30) dX12_judge_26 (by decide) ?_
      refine J_iconst (nx := 31) (i := 1) (v := 1) (by decide) dX12_judge_30 rfl ?_
      refine J_thr (b := true) (nx := 34) dX12_judge_31 rfl lk_X12_237 ⟨(Nat.le_of_ble_eq_true rfl), (Nat.le_of_ble_eq_true rfl)⟩ (Nat.le_of_ble_eq_true rfl) (fun b_31 => ?_) (fun b_31 => ?_)
      · refine J_if_ne (nx := 37) (tgt := 74) dX12_judge_34 rfl (by decide) (fun c_34 => ?_) (fun c_34 => ?_)
        · refine J_lconst (nx := 75) (i := 0) (v := 0) (by decide) dX12_judge_74 rfl ?_
          exact Jrl dX12_judge_75 rfl (Nat.zero_le _) (Nat.zero_le _) (RXl.of (Or.inl ⟨_, (by simp only [bI_is0, bI_is1, Bool.not_eq_true', Bool.not_eq_false'] at c_14 c_22; simp only [mxC, c_14, c_22, Bool.and_true, Bool.true_and, Bool.false_and, Bool.and_false, cond_true, cond_false]), rfl, rfl⟩))
        · exact absurd c_34 (by decide)
      · exact absurd b_31 (by decide)

set_option maxRecDepth 100000 in
set_option maxHeartbeats 4000000 in
theorem ct_m_does (g : GS) (gl : List TxL) (rl : Nat → List TxL) (hM : MOK (gA g 64) gl rl) (jd : Int32) (b : Int32) (k : Int32) (z : Int32) (s : Int32) (j : Int32) : Ct mX12_does (rm 6 0 0) [.ref 63, .int jd, .int b, .int k, .int z, .int s, .int j] (Wd g) (PQi g [(wMj (gA g 64) jd && wMs (gA g 64) k && fIn z 0 7 && fIn s 0 31, 1), (fIn j 0 (gA g 64 4) && fMb jd b, 2)] (fun x g2 => x = ja (mJP (gA g 64) gl rl (gA g 64 6) (nN k) (nN z) (wTo (gA g 64) (nN k)) jd b (mG (gA g 64))) (nN j) (nN s) ∧ QF g g2)) := by
  have hM2 := hM
  obtain ⟨⟨hG10, hG⟩, ⟨hT1, hT60, hT⟩, ⟨hR4, hR, hrl⟩, ⟨hN6, hN⟩, hgl, hgk⟩ := hM2
  refine Ct.of (by decide +kernel) (Nat.le_of_ble_eq_true rfl) ?_
  show J _ _ _ _ 0 [some (.ref 63), some (.int jd), some (.int b), some (.int k), some (.int z), some (.int s), some (.int j)] [] _ 0 0
  refine J_aload_n (nx := 1) dX12_does_0 rfl rfl ?_
  refine J_iconst (nx := 2) (i := 0) (v := 0) (by decide) dX12_does_1 rfl ?_
  refine Jp_63_0 (nx := 5) dX12_does_2 rfl fl_X12_3 ?_
  refine J_aload_n (nx := 6) dX12_does_5 rfl rfl ?_
  refine J_aload_n (nx := 7) dX12_does_6 rfl rfl ?_
  refine J_iload_n (nx := 8) dX12_does_7 rfl rfl ?_
  refine J_iload_n (nx := 9) dX12_does_8 rfl rfl ?_
  refine J_iload (nx := 11) dX12_does_9 rfl rfl ?_
  refine JcV3 (R' := rm (2) 0 0) (nx := 14) dX12_does_11 rfl ml_X12_isNoFoul lk_X12_341 iv_X12_isNoFoul rfl rfl ⟨(Nat.le_of_ble_eq_true rfl), (Nat.le_of_ble_eq_true rfl)⟩ (Nat.le_of_ble_eq_true rfl) ⟨rfl, rfl⟩ (ct_m_isNoFoul (sF g 63 0 0) (gA g 64) rfl _ _ _) ?_
  refine J_if_ne (nx := 17) (tgt := 25) dX12_does_14 rfl (by decide) (fun c_14 => ?_) (fun c_14 => ?_)
  · refine J_iconst (nx := 26) (i := 1) (v := 1) (by decide) dX12_does_25 rfl ?_
    refine J_goto (nx := 30) dX12_does_26 (by decide) ?_
    refine J_iconst (nx := 31) (i := 1) (v := 1) (by decide) dX12_does_30 rfl ?_
    refine J_thr (b := true) (nx := 34) dX12_does_31 rfl lk_X12_237 ⟨(Nat.le_of_ble_eq_true rfl), (Nat.le_of_ble_eq_true rfl)⟩ (Nat.le_of_ble_eq_true rfl) (fun b_31 => ?_) (fun b_31 => ?_)
    · refine J_if_ne (nx := 37) (tgt := 74) dX12_does_34 rfl (by decide) (fun c_34 => ?_) (fun c_34 => ?_)
      · refine J_iconst (nx := 75) (i := 0) (v := 0) (by decide) dX12_does_74 rfl ?_
        exact Jri dX12_does_75 rfl (Nat.zero_le _) (Nat.zero_le _) (RXi.of (Or.inl ⟨_, (by simp only [bI_is0, bI_is1, Bool.not_eq_true', Bool.not_eq_false'] at c_14; simp only [mxC, c_14, Bool.and_true, Bool.true_and, Bool.false_and, Bool.and_false, cond_true, cond_false]), rfl, rfl⟩))
      · exact absurd c_34 (by decide)
    · exact absurd b_31 (by decide)
  · refine J_iload (nx := 19) dX12_does_17 rfl rfl ?_
    refine JcS1 (R' := rm (1) 0 0) (nx := 22) dX12_does_19 rfl ml_X12_noState lk_X12_245 st_X12_noState ⟨(Nat.le_of_ble_eq_true rfl), (Nat.le_of_ble_eq_true rfl)⟩ (Nat.le_of_ble_eq_true rfl) ⟨rfl, rfl⟩ (ct_m_noState _ _) ?_
    refine J_if_eq (nx := 25) (tgt := 29) dX12_does_22 rfl (by decide) (fun c_22 => ?_) (fun c_22 => ?_)
    · refine J_iconst (nx := 30) (i := 0) (v := 0) (by decide) dX12_does_29 rfl ?_
      refine J_iconst (nx := 31) (i := 1) (v := 1) (by decide) dX12_does_30 rfl ?_
      refine J_thr (b := false) (nx := 34) dX12_does_31 rfl lk_X12_237 ⟨(Nat.le_of_ble_eq_true rfl), (Nat.le_of_ble_eq_true rfl)⟩ (Nat.le_of_ble_eq_true rfl) (fun b_31 => ?_) (fun b_31 => ?_)
      · exact absurd b_31 (by decide)
      · refine J_if_ne (nx := 37) (tgt := 74) dX12_does_34 rfl (by decide) (fun c_34 => ?_) (fun c_34 => ?_)
        · exact absurd (by decide) c_34
        · refine J_aload_n (nx := 38) dX12_does_37 rfl rfl ?_
          refine J_iload (nx := 40) dX12_does_38 rfl rfl ?_
          refine J_iconst (nx := 41) (i := 0) (v := 0) (by decide) dX12_does_40 rfl ?_
          refine J_aload_n (nx := 42) dX12_does_41 rfl rfl ?_
          refine Jg_63_1 (nx := 45) dX12_does_42 rfl fl_X12_13 ?_
          refine J_iconst (nx := 46) (i := 4) (v := 4) (by decide) dX12_does_45 rfl ?_
          refine Ja_64 (nx := 47) dX12_does_46 rfl (vpE (n := 4) (nIc 4) (by omega) (by decide)) ?_
          rw [clE (n := 4) (nIc 4) (by omega)]
          rw [show gA (sF g 63 0 0) 64 4 = gA g 64 4 from rfl]
          refine JcS3 (R' := rm (0) 0 0) (nx := 50) dX12_does_47 rfl ml_X12_in lk_X12_77 st_X12_in ⟨(Nat.le_of_ble_eq_true rfl), (Nat.le_of_ble_eq_true rfl)⟩ (Nat.le_of_ble_eq_true rfl) ⟨rfl, rfl⟩ (ct_m_in _ _ _ _) ?_
          refine J_if_eq (nx := 53) (tgt := 62) dX12_does_50 rfl (by decide) (fun c_50 => ?_) (fun c_50 => ?_)
          · refine J_iconst (nx := 63) (i := 1) (v := 1) (by decide) dX12_does_62 rfl ?_
            refine J_goto (nx := 67) dX12_does_63 (by decide) ?_
            refine J_iconst (nx := 68) (i := 2) (v := 2) (by decide) dX12_does_67 rfl ?_
            refine J_thr (b := true) (nx := 71) dX12_does_68 rfl lk_X12_237 ⟨(Nat.le_of_ble_eq_true rfl), (Nat.le_of_ble_eq_true rfl)⟩ (Nat.le_of_ble_eq_true rfl) (fun b_68 => ?_) (fun b_68 => ?_)
            · refine J_if_eq (nx := 74) (tgt := 76) dX12_does_71 rfl (by decide) (fun c_71 => ?_) (fun c_71 => ?_)
              · exact absurd c_71 (by decide)
              · refine J_iconst (nx := 75) (i := 0) (v := 0) (by decide) dX12_does_74 rfl ?_
                exact Jri dX12_does_75 rfl (Nat.zero_le _) (Nat.zero_le _) (RXi.of (Or.inl ⟨_, (by simp only [bI_is0, bI_is1, Bool.not_eq_true', Bool.not_eq_false'] at c_14 c_22 c_50; simp only [mxC, c_14, c_22, c_50, Bool.and_true, Bool.true_and, Bool.false_and, Bool.and_false, cond_true, cond_false]), rfl, rfl⟩))
            · exact absurd b_68 (by decide)
          · refine J_aload_n (nx := 54) dX12_does_53 rfl rfl ?_
            refine J_iload_n (nx := 55) dX12_does_54 rfl rfl ?_
            refine J_iload_n (nx := 56) dX12_does_55 rfl rfl ?_
            refine JcV2 (R' := rm (1) 0 0) (nx := 59) dX12_does_56 rfl ml_X12_badBar lk_X12_344 iv_X12_badBar rfl rfl ⟨(Nat.le_of_ble_eq_true rfl), (Nat.le_of_ble_eq_true rfl)⟩ (Nat.le_of_ble_eq_true rfl) ⟨rfl, rfl⟩ (ct_m_badBar _ _ _) ?_
            refine J_if_eq (nx := 62) (tgt := 66) dX12_does_59 rfl (by decide) (fun c_59 => ?_) (fun c_59 => ?_)
            · refine J_iconst (nx := 67) (i := 0) (v := 0) (by decide) dX12_does_66 rfl ?_
              refine J_iconst (nx := 68) (i := 2) (v := 2) (by decide) dX12_does_67 rfl ?_
              refine J_thr (b := false) (nx := 71) dX12_does_68 rfl lk_X12_237 ⟨(Nat.le_of_ble_eq_true rfl), (Nat.le_of_ble_eq_true rfl)⟩ (Nat.le_of_ble_eq_true rfl) (fun b_68 => ?_) (fun b_68 => ?_)
              · exact absurd b_68 (by decide)
              · refine J_if_eq (nx := 74) (tgt := 76) dX12_does_71 rfl (by decide) (fun c_71 => ?_) (fun c_71 => ?_)
                · have HC : mxC [(wMj (gA g 64) jd && wMs (gA g 64) k && fIn z 0 7 && fIn s 0 31, 1), (fIn j 0 (gA g 64 4) && fMb jd b, 2)] = none := (by simp only [bI_is0, bI_is1, Bool.not_eq_true', Bool.not_eq_false'] at c_14 c_22 c_50 c_59; simp only [mxC, c_14, c_22, c_50, c_59, Bool.and_true, Bool.true_and, Bool.false_and, Bool.and_false, cond_true, cond_false])
                  have HG0 := HC
                  obtain ⟨hk0, HG1⟩ := gd HG0
                  simp only [Bool.and_eq_true] at hk0
                  obtain ⟨⟨⟨hk0_0, hk0_1⟩, hk0_2⟩, hk0_3⟩ := hk0
                  have hjjd := wMj_ok hM hk0_0
                  obtain ⟨qk, hqk, rfl⟩ := wMs_nat hM hk0_1
                  try rw [nN_nI (n := qk) (by omega)]
                  obtain ⟨qz, hqz, rfl⟩ := fIn_nat (n := 7) (by omega) hk0_2
                  try rw [nN_nI (n := qz) (by omega)]
                  obtain ⟨qs, hqs, rfl⟩ := fIn_nat (n := 31) (by omega) hk0_3
                  try rw [nN_nI (n := qs) (by omega)]
                  obtain ⟨hk1, HG2⟩ := gd HG1
                  simp only [Bool.and_eq_true] at hk1
                  obtain ⟨hk1_0, hk1_1⟩ := hk1
                  rw [hG] at hk1_0
                  obtain ⟨qj, hqj, rfl⟩ := fIn_nat (n := mG (gA g 64)) (by omega) hk1_0
                  try rw [nN_nI (n := qj) (by omega)]
                  refine J_aload_n (nx := 77) dX12_does_76 rfl rfl ?_
                  refine J_iload_n (nx := 78) dX12_does_77 rfl rfl ?_
                  refine J_iload_n (nx := 79) dX12_does_78 rfl rfl ?_
                  refine J_iload_n (nx := 80) dX12_does_79 rfl rfl ?_
                  refine J_iload (nx := 82) dX12_does_80 rfl rfl ?_
                  refine JvV4 (R' := rm (5) 0 0) (nx := 85) dX12_does_82 rfl ml_X12_asks lk_X12_347 iv_X12_asks rfl rfl ⟨(Nat.le_of_ble_eq_true rfl), (Nat.le_of_ble_eq_true rfl)⟩ (Nat.le_of_ble_eq_true rfl) ⟨rfl, rfl⟩ (ct_m_asks (sF g 63 0 0) (gA g 64) gl rl rfl hM jd b qk qz (by omega) (by omega) hjjd) (fun g_82 p_82 => ?_)
                  refine J_aload_n (nx := 86) dX12_does_85 rfl rfl ?_
                  refine Jg_63_27 (nx := 89) dX12_does_86 rfl fl_X12_49 ?_
                  refine J_bipush (nx := 91) (i := 32) (v := 32) (by decide) dX12_does_89 rfl ?_
                  refine J_iload (nx := 93) dX12_does_91 rfl rfl ?_
                  refine J_imul (nx := 94) dX12_does_93 rfl ?_
                  refine J_iload (nx := 96) dX12_does_94 rfl rfl ?_
                  refine J_iadd (nx := 97) dX12_does_96 rfl ?_
                  refine Ja_74 (nx := 98) dX12_does_97 rfl (vpE (n := ((32 * qj) + qs)) (nIa (nIm (nIc 32) (Eq.refl (nI (qj)))) (Eq.refl (nI (qs)))) (by omega) (by decide)) ?_
                  rw [clE (n := ((32 * qj) + qs)) (nIa (nIm (nIc 32) (Eq.refl (nI (qj)))) (Eq.refl (nI (qs)))) (by omega)]
                  exact Jri dX12_does_98 rfl (Nat.zero_le _) (Nat.zero_le _) (RXi.of (Or.inr ⟨HC, p_82.2.a (by omega) (by omega), QF.of p_82.1⟩))
                · exact absurd (by decide) c_71
            · refine J_iconst (nx := 63) (i := 1) (v := 1) (by decide) dX12_does_62 rfl ?_
              refine J_goto (nx := 67) dX12_does_63 (by decide) ?_
              refine J_iconst (nx := 68) (i := 2) (v := 2) (by decide) dX12_does_67 rfl ?_
              refine J_thr (b := true) (nx := 71) dX12_does_68 rfl lk_X12_237 ⟨(Nat.le_of_ble_eq_true rfl), (Nat.le_of_ble_eq_true rfl)⟩ (Nat.le_of_ble_eq_true rfl) (fun b_68 => ?_) (fun b_68 => ?_)
              · refine J_if_eq (nx := 74) (tgt := 76) dX12_does_71 rfl (by decide) (fun c_71 => ?_) (fun c_71 => ?_)
                · exact absurd c_71 (by decide)
                · refine J_iconst (nx := 75) (i := 0) (v := 0) (by decide) dX12_does_74 rfl ?_
                  exact Jri dX12_does_75 rfl (Nat.zero_le _) (Nat.zero_le _) (RXi.of (Or.inl ⟨_, (by simp only [bI_is0, bI_is1, Bool.not_eq_true', Bool.not_eq_false'] at c_14 c_22 c_50 c_59; simp only [mxC, c_14, c_22, c_50, c_59, Bool.and_true, Bool.true_and, Bool.false_and, Bool.and_false, cond_true, cond_false]), rfl, rfl⟩))
              · exact absurd b_68 (by decide)
    · refine J_iconst (nx := 26) (i := 1) (v := 1) (by decide) dX12_does_25 rfl ?_
      refine J_goto (nx := 30) dX12_does_26 (by decide) ?_
      refine J_iconst (nx := 31) (i := 1) (v := 1) (by decide) dX12_does_30 rfl ?_
      refine J_thr (b := true) (nx := 34) dX12_does_31 rfl lk_X12_237 ⟨(Nat.le_of_ble_eq_true rfl), (Nat.le_of_ble_eq_true rfl)⟩ (Nat.le_of_ble_eq_true rfl) (fun b_31 => ?_) (fun b_31 => ?_)
      · refine J_if_ne (nx := 37) (tgt := 74) dX12_does_34 rfl (by decide) (fun c_34 => ?_) (fun c_34 => ?_)
        · refine J_iconst (nx := 75) (i := 0) (v := 0) (by decide) dX12_does_74 rfl ?_
          exact Jri dX12_does_75 rfl (Nat.zero_le _) (Nat.zero_le _) (RXi.of (Or.inl ⟨_, (by simp only [bI_is0, bI_is1, Bool.not_eq_true', Bool.not_eq_false'] at c_14 c_22; simp only [mxC, c_14, c_22, Bool.and_true, Bool.true_and, Bool.false_and, Bool.and_false, cond_true, cond_false]), rfl, rfl⟩))
        · exact absurd c_34 (by decide)
      · exact absurd b_31 (by decide)

set_option maxRecDepth 100000 in
set_option maxHeartbeats 4000000 in
theorem ct_m_waits (g : GS) (gl : List TxL) (rl : Nat → List TxL) (hM : MOK (gA g 64) gl rl) (k : Int32) (z : Int32) (s : Int32) : Ct mX12_waits (rm 6 0 0) [.ref 63, .int k, .int z, .int s] (Wd g) (PQl g [(wMs (gA g 64) k && fIn z 0 7 && fIn s 0 31, 1)] (fun x g2 => x = jw (mJP (gA g 64) gl rl (gA g 64 6) (nN k) (nN z) (wTo (gA g 64) (nN k)) 3 0 (mG (gA g 64))) 0 (nN s) - jw (mJP (gA g 64) gl rl (gA g 64 6) (nN k) (nN z) (wTo (gA g 64) (nN k)) 3 0 0) 0 (nN s) ∧ QF g g2)) := by
  have hM2 := hM
  obtain ⟨⟨hG10, hG⟩, ⟨hT1, hT60, hT⟩, ⟨hR4, hR, hrl⟩, ⟨hN6, hN⟩, hgl, hgk⟩ := hM2
  refine Ct.of (by decide +kernel) (Nat.le_of_ble_eq_true rfl) ?_
  show J _ _ _ _ 0 [some (.ref 63), some (.int k), some (.int z), some (.int s)] [] _ 0 0
  refine J_aload_n (nx := 1) dX12_waits_0 rfl rfl ?_
  refine J_iconst (nx := 2) (i := 0) (v := 0) (by decide) dX12_waits_1 rfl ?_
  refine Jp_63_0 (nx := 5) dX12_waits_2 rfl fl_X12_3 ?_
  refine J_aload_n (nx := 6) dX12_waits_5 rfl rfl ?_
  refine J_aload_n (nx := 7) dX12_waits_6 rfl rfl ?_
  refine J_iload_n (nx := 8) dX12_waits_7 rfl rfl ?_
  refine JcV1 (R' := rm (1) 0 0) (nx := 11) dX12_waits_8 rfl ml_X12_noSort lk_X12_317 iv_X12_noSort rfl rfl ⟨(Nat.le_of_ble_eq_true rfl), (Nat.le_of_ble_eq_true rfl)⟩ (Nat.le_of_ble_eq_true rfl) ⟨rfl, rfl⟩ (ct_m_noSortW (sF g 63 0 0) (gA g 64) rfl _) ?_
  refine J_if_ne (nx := 14) (tgt := 28) dX12_waits_11 rfl (by decide) (fun c_11 => ?_) (fun c_11 => ?_)
  · refine J_iconst (nx := 29) (i := 1) (v := 1) (by decide) dX12_waits_28 rfl ?_
    refine J_goto (nx := 33) dX12_waits_29 (by decide) ?_
    refine J_iconst (nx := 34) (i := 1) (v := 1) (by decide) dX12_waits_33 rfl ?_
    refine J_thr (b := true) (nx := 37) dX12_waits_34 rfl lk_X12_237 ⟨(Nat.le_of_ble_eq_true rfl), (Nat.le_of_ble_eq_true rfl)⟩ (Nat.le_of_ble_eq_true rfl) (fun b_34 => ?_) (fun b_34 => ?_)
    · refine J_if_eq (nx := 40) (tgt := 42) dX12_waits_37 rfl (by decide) (fun c_37 => ?_) (fun c_37 => ?_)
      · exact absurd c_37 (by decide)
      · refine J_lconst (nx := 41) (i := 0) (v := 0) (by decide) dX12_waits_40 rfl ?_
        exact Jrl dX12_waits_41 rfl (Nat.zero_le _) (Nat.zero_le _) (RXl.of (Or.inl ⟨_, (by simp only [bI_is0, bI_is1, Bool.not_eq_true', Bool.not_eq_false'] at c_11; simp only [mxC, c_11, Bool.and_true, Bool.true_and, Bool.false_and, Bool.and_false, cond_true, cond_false]), rfl, rfl⟩))
    · exact absurd b_34 (by decide)
  · refine J_iload_n (nx := 15) dX12_waits_14 rfl rfl ?_
    refine JcS1 (R' := rm (1) 0 0) (nx := 18) dX12_waits_15 rfl ml_X12_noZone lk_X12_254 st_X12_noZone ⟨(Nat.le_of_ble_eq_true rfl), (Nat.le_of_ble_eq_true rfl)⟩ (Nat.le_of_ble_eq_true rfl) ⟨rfl, rfl⟩ (ct_m_noZone _ _) ?_
    refine J_if_ne (nx := 21) (tgt := 28) dX12_waits_18 rfl (by decide) (fun c_18 => ?_) (fun c_18 => ?_)
    · refine J_iconst (nx := 29) (i := 1) (v := 1) (by decide) dX12_waits_28 rfl ?_
      refine J_goto (nx := 33) dX12_waits_29 (by decide) ?_
      refine J_iconst (nx := 34) (i := 1) (v := 1) (by decide) dX12_waits_33 rfl ?_
      refine J_thr (b := true) (nx := 37) dX12_waits_34 rfl lk_X12_237 ⟨(Nat.le_of_ble_eq_true rfl), (Nat.le_of_ble_eq_true rfl)⟩ (Nat.le_of_ble_eq_true rfl) (fun b_34 => ?_) (fun b_34 => ?_)
      · refine J_if_eq (nx := 40) (tgt := 42) dX12_waits_37 rfl (by decide) (fun c_37 => ?_) (fun c_37 => ?_)
        · exact absurd c_37 (by decide)
        · refine J_lconst (nx := 41) (i := 0) (v := 0) (by decide) dX12_waits_40 rfl ?_
          exact Jrl dX12_waits_41 rfl (Nat.zero_le _) (Nat.zero_le _) (RXl.of (Or.inl ⟨_, (by simp only [bI_is0, bI_is1, Bool.not_eq_true', Bool.not_eq_false'] at c_11 c_18; simp only [mxC, c_11, c_18, Bool.and_true, Bool.true_and, Bool.false_and, Bool.and_false, cond_true, cond_false]), rfl, rfl⟩))
      · exact absurd b_34 (by decide)
    · refine J_iload_n (nx := 22) dX12_waits_21 rfl rfl ?_
      refine JcS1 (R' := rm (1) 0 0) (nx := 25) dX12_waits_22 rfl ml_X12_noState lk_X12_245 st_X12_noState ⟨(Nat.le_of_ble_eq_true rfl), (Nat.le_of_ble_eq_true rfl)⟩ (Nat.le_of_ble_eq_true rfl) ⟨rfl, rfl⟩ (ct_m_noState _ _) ?_
      refine J_if_eq (nx := 28) (tgt := 32) dX12_waits_25 rfl (by decide) (fun c_25 => ?_) (fun c_25 => ?_)
      · refine J_iconst (nx := 33) (i := 0) (v := 0) (by decide) dX12_waits_32 rfl ?_
        refine J_iconst (nx := 34) (i := 1) (v := 1) (by decide) dX12_waits_33 rfl ?_
        refine J_thr (b := false) (nx := 37) dX12_waits_34 rfl lk_X12_237 ⟨(Nat.le_of_ble_eq_true rfl), (Nat.le_of_ble_eq_true rfl)⟩ (Nat.le_of_ble_eq_true rfl) (fun b_34 => ?_) (fun b_34 => ?_)
        · exact absurd b_34 (by decide)
        · refine J_if_eq (nx := 40) (tgt := 42) dX12_waits_37 rfl (by decide) (fun c_37 => ?_) (fun c_37 => ?_)
          · have HC : mxC [(wMs (gA g 64) k && fIn z 0 7 && fIn s 0 31, 1)] = none := (by simp only [bI_is0, bI_is1, Bool.not_eq_true', Bool.not_eq_false'] at c_11 c_18 c_25; simp only [mxC, c_11, c_18, c_25, Bool.and_true, Bool.true_and, Bool.false_and, Bool.and_false, cond_true, cond_false])
            have HG0 := HC
            obtain ⟨hk0, HG1⟩ := gd HG0
            simp only [Bool.and_eq_true] at hk0
            obtain ⟨⟨hk0_0, hk0_1⟩, hk0_2⟩ := hk0
            obtain ⟨qk, hqk, rfl⟩ := wMs_nat hM hk0_0
            try rw [nN_nI (n := qk) (by omega)]
            obtain ⟨qz, hqz, rfl⟩ := fIn_nat (n := 7) (by omega) hk0_1
            try rw [nN_nI (n := qz) (by omega)]
            obtain ⟨qs, hqs, rfl⟩ := fIn_nat (n := 31) (by omega) hk0_2
            try rw [nN_nI (n := qs) (by omega)]
            refine J_aload_n (nx := 43) dX12_waits_42 rfl rfl ?_
            refine J_iload_n (nx := 44) dX12_waits_43 rfl rfl ?_
            refine J_iload_n (nx := 45) dX12_waits_44 rfl rfl ?_
            refine J_iload_n (nx := 46) dX12_waits_45 rfl rfl ?_
            refine J_aload_n (nx := 47) dX12_waits_46 rfl rfl ?_
            refine Jg_63_1 (nx := 50) dX12_waits_47 rfl fl_X12_13 ?_
            refine J_iconst (nx := 51) (i := 4) (v := 4) (by decide) dX12_waits_50 rfl ?_
            refine Ja_64 (nx := 52) dX12_waits_51 rfl (vpE (n := 4) (nIc 4) (by omega) (by decide)) ?_
            rw [clE (n := 4) (nIc 4) (by omega)]
            rw [show gA (sF g 63 0 0) 64 4 = nI (mG (gA g 64)) from hG]
            refine JlV4 (R' := rm (5) 0 0) (nx := 55) dX12_waits_52 rfl ml_X12_bestBy lk_X12_351 iv_X12_bestBy rfl rfl ⟨(Nat.le_of_ble_eq_true rfl), (Nat.le_of_ble_eq_true rfl)⟩ (Nat.le_of_ble_eq_true rfl) ⟨rfl, rfl⟩ (ct_m_bestBy (sF g 63 0 0) (gA g 64) gl rl rfl hM qk qz qs (mG (gA g 64)) (by omega) (by omega) (by omega) hG10) (fun x_52 g_52 p_52 => ?_)
            refine J_aload_n (nx := 56) dX12_waits_55 rfl rfl ?_
            refine J_iload_n (nx := 57) dX12_waits_56 rfl rfl ?_
            refine J_iload_n (nx := 58) dX12_waits_57 rfl rfl ?_
            refine J_iload_n (nx := 59) dX12_waits_58 rfl rfl ?_
            refine J_iconst (nx := 60) (i := 0) (v := 0) (by decide) dX12_waits_59 rfl ?_
            refine JlV4 (R' := rm (5) 0 0) (nx := 63) dX12_waits_60 rfl ml_X12_bestBy lk_X12_351 iv_X12_bestBy rfl rfl ⟨(Nat.le_of_ble_eq_true rfl), (Nat.le_of_ble_eq_true rfl)⟩ (Nat.le_of_ble_eq_true rfl) ⟨rfl, rfl⟩ (ct_m_bestBy g_52 (gA g 64) gl rl (p_52.2.2.1 64 rfl) hM qk qz qs 0 (by omega) (by omega) (by omega) (by omega)) (fun x_60 g_60 p_60 => ?_)
            refine J_lsub (nx := 64) dX12_waits_63 rfl ?_
            exact Jrl dX12_waits_64 rfl (Nat.zero_le _) (Nat.zero_le _) (RXl.of (Or.inr ⟨HC, by rw [p_52.1, p_60.1], QF.of (p_52.2.tr p_60.2)⟩))
          · exact absurd (by decide) c_37
      · refine J_iconst (nx := 29) (i := 1) (v := 1) (by decide) dX12_waits_28 rfl ?_
        refine J_goto (nx := 33) dX12_waits_29 (by decide) ?_
        refine J_iconst (nx := 34) (i := 1) (v := 1) (by decide) dX12_waits_33 rfl ?_
        refine J_thr (b := true) (nx := 37) dX12_waits_34 rfl lk_X12_237 ⟨(Nat.le_of_ble_eq_true rfl), (Nat.le_of_ble_eq_true rfl)⟩ (Nat.le_of_ble_eq_true rfl) (fun b_34 => ?_) (fun b_34 => ?_)
        · refine J_if_eq (nx := 40) (tgt := 42) dX12_waits_37 rfl (by decide) (fun c_37 => ?_) (fun c_37 => ?_)
          · exact absurd c_37 (by decide)
          · refine J_lconst (nx := 41) (i := 0) (v := 0) (by decide) dX12_waits_40 rfl ?_
            exact Jrl dX12_waits_41 rfl (Nat.zero_le _) (Nat.zero_le _) (RXl.of (Or.inl ⟨_, (by simp only [bI_is0, bI_is1, Bool.not_eq_true', Bool.not_eq_false'] at c_11 c_18 c_25; simp only [mxC, c_11, c_18, c_25, Bool.and_true, Bool.true_and, Bool.false_and, Bool.and_false, cond_true, cond_false]), rfl, rfl⟩))
        · exact absurd b_34 (by decide)

def enF (f : Nat → Int64) : Nat → Nat → Nat
  | 0, q => q
  | k + 1, q => if lg_cmp (f q) (f 10) = 0 then q else enF f k (q + 1)
theorem lg_cmp_self (a : Int64) : lg_cmp a a = 0 := by unfold lg_cmp; rw [if_neg (fun z => absurd (Int64.lt_iff_toInt_lt.mp z) (by omega))]; exact if_pos rfl
set_option maxRecDepth 100000 in
set_option maxHeartbeats 4000000 in
theorem lp_m_enough (g : GS) (gl : List TxL) (rl : Nat → List TxL) (hM : MOK (gA g 64) gl rl) (qk qz qs : Nat) (hk : qk < 6) (hz : qz < 8) (hs : qs < 32) (n0 : Nat) : ∀ (k : Nat) (q : Nat) (gc : GS), q + k = 10 → Fr fA aQ (sF g 63 0 0) gc → J mX12_enough (rm 6 0 0) (RXi (fun x g2 => x = nI (enF (fun q => jw (mJP (gA g 64) gl rl (gA g 64 6) qk qz (wTo (gA g 64) qk) 3 0 q) 0 qs) k q) ∧ Fr fA aQ (sF g 63 0 0) g2)) n0 56 [some (.ref 63), some (.int (nI (qk))), some (.int (nI (qz))), some (.int (nI (qs))), some (.long ((fun q => jw (mJP (gA g 64) gl rl (gA g 64 6) qk qz (wTo (gA g 64) qk) 3 0 q) 0 qs) 10)), none, some (.int (nI (q)))] [] (Wd gc) 0 0 := by
  intro k
  induction k with
  | zero =>
    intro q gc hk hfr
    refine J_aload_n (nx := 57) dX12_enough_56 rfl rfl ?_
    refine J_iload_n (nx := 58) dX12_enough_57 rfl rfl ?_
    refine J_iload_n (nx := 59) dX12_enough_58 rfl rfl ?_
    refine J_iload_n (nx := 60) dX12_enough_59 rfl rfl ?_
    refine J_iload (nx := 62) dX12_enough_60 rfl rfl ?_
    refine JlV4 (R' := rm (5) 0 0) (nx := 65) dX12_enough_62 rfl ml_X12_bestBy lk_X12_351 iv_X12_bestBy rfl rfl ⟨(Nat.le_of_ble_eq_true rfl), (Nat.le_of_ble_eq_true rfl)⟩ (Nat.le_of_ble_eq_true rfl) ⟨rfl, rfl⟩ (ct_m_bestBy gc (gA g 64) gl rl (hfr.2.1 64 rfl) hM qk qz qs q (by omega) (by omega) (by omega) (by omega)) (fun x_62 g_62 p_62 => ?_)
    refine J_lload (nx := 67) dX12_enough_65 rfl rfl ?_
    refine J_lcmp (nx := 68) dX12_enough_67 rfl ?_
    refine J_if_eq (nx := 71) (tgt := 77) dX12_enough_68 rfl (by decide) (fun c_68 => ?_) (fun c_68 => ?_)
    · refine J_iload (nx := 79) dX12_enough_77 rfl rfl ?_
      exact Jri dX12_enough_79 rfl (Nat.zero_le _) (Nat.zero_le _) (RXi.of ⟨rfl, hfr.tr p_62.2⟩)
    · rw [p_62.1, show q = 10 by omega] at c_68
      exact absurd (lg_cmp_self _) c_68
  | succ k ih =>
    intro q gc hk hfr
    refine J_aload_n (nx := 57) dX12_enough_56 rfl rfl ?_
    refine J_iload_n (nx := 58) dX12_enough_57 rfl rfl ?_
    refine J_iload_n (nx := 59) dX12_enough_58 rfl rfl ?_
    refine J_iload_n (nx := 60) dX12_enough_59 rfl rfl ?_
    refine J_iload (nx := 62) dX12_enough_60 rfl rfl ?_
    refine JlV4 (R' := rm (5) 0 0) (nx := 65) dX12_enough_62 rfl ml_X12_bestBy lk_X12_351 iv_X12_bestBy rfl rfl ⟨(Nat.le_of_ble_eq_true rfl), (Nat.le_of_ble_eq_true rfl)⟩ (Nat.le_of_ble_eq_true rfl) ⟨rfl, rfl⟩ (ct_m_bestBy gc (gA g 64) gl rl (hfr.2.1 64 rfl) hM qk qz qs q (by omega) (by omega) (by omega) (by omega)) (fun x_62 g_62 p_62 => ?_)
    refine J_lload (nx := 67) dX12_enough_65 rfl rfl ?_
    refine J_lcmp (nx := 68) dX12_enough_67 rfl ?_
    refine J_if_eq (nx := 71) (tgt := 77) dX12_enough_68 rfl (by decide) (fun c_68 => ?_) (fun c_68 => ?_)
    · refine J_iload (nx := 79) dX12_enough_77 rfl rfl ?_
      exact Jri dX12_enough_79 rfl (Nat.zero_le _) (Nat.zero_le _) (RXi.of ⟨by rw [show enF (fun q => jw (mJP (gA g 64) gl rl (gA g 64 6) qk qz (wTo (gA g 64) qk) 3 0 q) 0 qs) (k + 1) q = q from if_pos (by rw [p_62.1] at c_68; exact c_68)], hfr.tr p_62.2⟩)
    · refine J_iinc (nx := 74) dX12_enough_71 rfl rfl rfl (Nat.le_of_ble_eq_true rfl) ?_
      refine J_goto (nx := 56) dX12_enough_74 (by decide) ?_
      rw [show (nI (q) + Int32.ofInt 1) = nI (q + 1) from (show nI (q) + Int32.ofInt 1 = nI (q + 1) from nI_add (q) 1), show enF (fun q => jw (mJP (gA g 64) gl rl (gA g 64 6) qk qz (wTo (gA g 64) qk) 3 0 q) 0 qs) (k + 1) q = enF (fun q => jw (mJP (gA g 64) gl rl (gA g 64 6) qk qz (wTo (gA g 64) qk) 3 0 q) 0 qs) k (q + 1) from if_neg (by rw [p_62.1] at c_68; exact c_68)]
      exact ih (q + 1) g_62 (by omega) (hfr.tr p_62.2)

