
/-! the Model: things read -/
def MLq (n : Nat) (C : Nat → Int32) (b : Nat) (g : GS) : Prop := ∃ p, MPt n C p g ∧ sk n C p = b
theorem sk_sk {n : Nat} {C : Nat → Int32} {p : Nat} (hn : n ≤ 400) (hp : p ≤ n) : sk n C (sk n C p) = sk n C p := by
  have h1 := sk_le n C p hp
  rcases Nat.lt_or_ge (sk n C p) n with h | h
  · refine sk_thing h (fun e => ?_)
    have h2 := rnN_end n C isB 400 p (by omega) h
    have h3 : isB (C (sk n C p)) = true := by unfold isB; rw [if_pos e]
    have h4 : isB (C (sk n C p)) = false := h2
    rw [h3] at h4; cases h4
  · rw [show sk n C p = n by omega]; exact sk_end
theorem MLq.at {n : Nat} {C : Nat → Int32} {p : Nat} {g : GS} (h : MPt n C p g) : MLq n C (sk n C p) g := ⟨p, h, rfl⟩
theorem MLq.le {n : Nat} {C : Nat → Int32} {b : Nat} {g : GS} (h : MLq n C b g) : b ≤ n ∧ n ≤ 400 ∧ sk n C b = b := by
  obtain ⟨p, h1, h2⟩ := h
  rw [← h2]
  exact ⟨(sk_le n C p h1.2.2.2.2).2, h1.2.1, sk_sk h1.2.1 h1.2.2.2.2⟩
theorem wrd_in {n : Nat} {C : Nat → Int32} {b j : Nat} (hj : 1 ≤ j) (h : obWrd n C b = j) : b < n ∧ isL (C b) = true := by
  by_cases c : b < n ∧ isL (C b) = true
  · exact c
  · have : obWrd n C b = 0 := if_neg c
    omega
theorem leN_nx {n : Nat} {C : Nat → Int32} {b j : Nat} {g : GS} (hn : n ≤ 400) (hj : 1 ≤ j) (h : obWrd n C b = j) (hm : MPt n C (leN n C b) g) : MLq n C (obNxt n C b) g := by
  obtain ⟨h1, h2⟩ := wrd_in hj h
  rw [leN_te hn h1 h2] at hm
  exact ⟨_, hm, rfl⟩
theorem sgn_at {n : Nat} {C : Nat → Int32} {b : Nat} {c : Int32} (hL : isL c = false) (hD : isD c = false) (h0 : ¬ c = 0) : atP n C b c c = decide (obSgn n C b = c) := by
  rw [atP_1]
  unfold obSgn
  by_cases hb : b < n
  · rw [if_pos hb]
    by_cases e : C b = c
    · rw [if_pos e, if_pos ⟨hb, by rw [e]; exact hD, by rw [e]; exact hL⟩, decide_eq_true e]
    · rw [if_neg e]
      symm
      refine decide_eq_false (fun z => ?_)
      by_cases q : b < n ∧ isD (C b) = false ∧ isL (C b) = false
      · rw [if_pos q] at z; exact e z
      · rw [if_neg q] at z; exact h0 z.symm
  · rw [if_neg hb, if_neg (fun z => hb z.1)]
    symm
    exact decide_eq_false (fun z => h0 z.symm)
theorem sgn_in {n : Nat} {C : Nat → Int32} {b : Nat} {c : Int32} (h0 : ¬ c = 0) (h : obSgn n C b = c) : b < n ∧ teN n C b = b + 1 := by
  unfold obSgn at h
  by_cases q : b < n ∧ isD (C b) = false ∧ isL (C b) = false
  · refine ⟨q.1, ?_⟩
    unfold teN
    rw [if_neg (by rw [q.2.2]; decide), if_neg (by rw [q.2.1]; decide)]
  · rw [if_neg q] at h; exact absurd h.symm h0
theorem leN_le {n : Nat} {C : Nat → Int32} {b : Nat} (h : b ≤ n) : b ≤ leN n C b ∧ leN n C b ≤ n := rnN_le n C isL 400 b h

set_option maxRecDepth 100000 in
set_option maxHeartbeats 4000000 in
theorem ct_m_passes (g : GS) (n : Nat) (C : Nat → Int32) (b : Nat) (hQ : MLq n C b g) (j : Nat) (hj : j < 23) (hj1 : 1 ≤ j) : Ct mX12_passes (rm 5 0 0) [.ref 63, .ref (CST + 24 + j)] (Wd g) (RXi (fun x g2 => Fr fB aNo g g2 ∧ gF g2 63 8 = nI b ∧ ((obWrd n C b = j ∧ x = 1 ∧ MLq n C (obNxt n C b) g2) ∨ (¬ obWrd n C b = j ∧ x = 0 ∧ MLq n C b g2)))) := by
  refine Ct.of (by decide +kernel) (Nat.le_of_ble_eq_true rfl) ?_
  show J _ _ _ _ 0 [some (.ref 63), some (.ref (CST + 24 + j))] [] _ 0 0
  obtain ⟨p, h, rfl⟩ := hQ
  have hn4 := h.2.1
  have hp4 := h.2.2.2.2
  have hsk := sk_le n C p hp4
  have hlel := leN_le (C := C) hsk.2
  refine J_aload_n (nx := 1) dX12_passes_0 rfl rfl ?_
  refine JvV0 (R' := rm (2) 0 0) (nx := 4) dX12_passes_1 rfl ml_X12_letters lk_X12_110 iv_X12_letters rfl rfl ⟨(Nat.le_of_ble_eq_true rfl), (Nat.le_of_ble_eq_true rfl)⟩ (Nat.le_of_ble_eq_true rfl) ⟨rfl, rfl⟩ (ct_m_letters g n C p h) (fun g_1 p_1 => ?_)
  refine J_aload_n (nx := 5) dX12_passes_4 rfl rfl ?_
  refine J_aload_n (nx := 6) dX12_passes_5 rfl rfl ?_
  refine JcV1 (R' := rm (4) 0 0) (nx := 9) dX12_passes_6 rfl ml_X12_isWord lk_X12_113 iv_X12_isWord rfl rfl ⟨(Nat.le_of_ble_eq_true rfl), (Nat.le_of_ble_eq_true rfl)⟩ (Nat.le_of_ble_eq_true rfl) ⟨rfl, rfl⟩ (ct_m_isWord g_1 n C (leN n C (sk n C p)) (sk n C p) j p_1.2.1 p_1.2.2 hlel.1 hj) ?_
  rw [iw_wrd hn4 hj hj1]
  refine J_if_eq (nx := 12) (tgt := 14) dX12_passes_9 rfl (by decide) (fun c_9 => ?_) (fun c_9 => ?_)
  · refine J_aload_n (nx := 15) dX12_passes_14 rfl rfl ?_
    refine J_aload_n (nx := 16) dX12_passes_15 rfl rfl ?_
    refine Jg_63_8 (nx := 19) dX12_passes_16 rfl fl_X12_94 ?_
    refine Jp_63_6 (nx := 22) dX12_passes_19 rfl fl_X12_84 ?_
    refine J.gen (fun g_19 hg_19 => ?_)
    refine J_iconst (nx := 23) (i := 0) (v := 0) (by decide) dX12_passes_22 rfl ?_
    exact Jrz dX12_passes_23 rfl (by decide) (Nat.zero_le _) (Nat.zero_le _) (RXi.of ⟨by rw [hg_19]; exact Fr.sF p_1.1 rfl, by rw [hg_19]; exact p_1.2.2, Or.inr ⟨of_decide_eq_false (bI_0.mp c_9), rfl, (sk n C p), (p_1.2.1.mv (by rw [hg_19]; exact Fr.sF Fr.rf rfl) (by rw [hg_19]; exact p_1.2.2) hsk.2), sk_sk hn4 hp4⟩⟩)
  · refine J_iconst (nx := 13) (i := 1) (v := 1) (by decide) dX12_passes_12 rfl ?_
    exact Jrz dX12_passes_13 rfl (by decide) (Nat.zero_le _) (Nat.zero_le _) (RXi.of ⟨p_1.1, p_1.2.2, Or.inl ⟨of_decide_eq_true (bI_n0.mp c_9), rfl, leN_nx hn4 hj1 (of_decide_eq_true (bI_n0.mp c_9)) p_1.2.1⟩⟩)

set_option maxRecDepth 100000 in
set_option maxHeartbeats 4000000 in
theorem ct_m_sign (g : GS) (n : Nat) (C : Nat → Int32) (b : Nat) (hQ : MLq n C b g) (c : Int32) (hL : isL c = false) (hD : isD c = false) (h0 : ¬ c = 0) : Ct mX12_sign (rm 2 0 0) [.ref 63, .int c] (Wd g) (RXi (fun x g2 => Fr fB aNo g g2 ∧ gF g2 63 8 = nI b ∧ ((obSgn n C b = c ∧ x = 1 ∧ MLq n C (obNxt n C b) g2) ∨ (¬ obSgn n C b = c ∧ x = 0 ∧ MLq n C b g2)))) := by
  refine Ct.of (by decide +kernel) (Nat.le_of_ble_eq_true rfl) ?_
  show J _ _ _ _ 0 [some (.ref 63), some (.int c)] [] _ 0 0
  obtain ⟨p, h, rfl⟩ := hQ
  have hn4 := h.2.1
  have hp4 := h.2.2.2.2
  have hsk := sk_le n C p hp4
  have hlel := leN_le (C := C) hsk.2
  refine J_aload_n (nx := 1) dX12_sign_0 rfl rfl ?_
  refine JvV0 (R' := rm (1) 0 0) (nx := 4) dX12_sign_1 rfl ml_X12_blanks lk_X12_97 iv_X12_blanks rfl rfl ⟨(Nat.le_of_ble_eq_true rfl), (Nat.le_of_ble_eq_true rfl)⟩ (Nat.le_of_ble_eq_true rfl) ⟨rfl, rfl⟩ (ct_m_blanks g n C p h) (fun g_1 p_1 => ?_)
  refine J_aload_n (nx := 5) dX12_sign_4 rfl rfl ?_
  refine J_iload_n (nx := 6) dX12_sign_5 rfl rfl ?_
  refine J_iload_n (nx := 7) dX12_sign_6 rfl rfl ?_
  refine JcV2 (R' := rm (0) 0 0) (nx := 10) dX12_sign_7 rfl ml_X12_isAt lk_X12_90 iv_X12_isAt rfl rfl ⟨(Nat.le_of_ble_eq_true rfl), (Nat.le_of_ble_eq_true rfl)⟩ (Nat.le_of_ble_eq_true rfl) ⟨rfl, rfl⟩ (ct_m_isAt g_1 n C (sk n C p) p_1.2.1 c c) ?_
  rw [sgn_at hL hD h0]
  refine J_if_ne (nx := 13) (tgt := 15) dX12_sign_10 rfl (by decide) (fun c_10 => ?_) (fun c_10 => ?_)
  · refine J_aload_n (nx := 16) dX12_sign_15 rfl rfl ?_
    refine J_dup (nx := 17) rfl dX12_sign_16 rfl ?_
    refine Jg_63_6 (nx := 20) dX12_sign_17 rfl fl_X12_84 ?_
    refine J_iconst (nx := 21) (i := 1) (v := 1) (by decide) dX12_sign_20 rfl ?_
    refine J_iadd (nx := 22) dX12_sign_21 rfl ?_
    refine Jp_63_6 (nx := 25) dX12_sign_22 rfl fl_X12_84 ?_
    refine J.gen (fun g_22 hg_22 => ?_)
    refine J_iconst (nx := 26) (i := 1) (v := 1) (by decide) dX12_sign_25 rfl ?_
    have hs := sgn_in h0 (of_decide_eq_true (bI_n0.mp c_10))
    exact Jrz dX12_sign_26 rfl (by decide) (Nat.zero_le _) (Nat.zero_le _) (RXi.of ⟨by rw [hg_22]; exact Fr.sF p_1.1 rfl, by rw [hg_22]; exact p_1.2.2, Or.inl ⟨of_decide_eq_true (bI_n0.mp c_10), rfl, (sk n C p) + 1, (p_1.2.1.mv (by rw [hg_22]; exact Fr.sF Fr.rf rfl) (by rw [hg_22]; exact (congrArg (· + 1) p_1.2.1.2.2.2.1).trans (nI_add _ 1)) (by omega)), by unfold obNxt; rw [hs.2]⟩⟩)
  · refine J_iconst (nx := 14) (i := 0) (v := 0) (by decide) dX12_sign_13 rfl ?_
    exact Jrz dX12_sign_14 rfl (by decide) (Nat.zero_le _) (Nat.zero_le _) (RXi.of ⟨p_1.1, p_1.2.2, Or.inr ⟨of_decide_eq_false (bI_0.mp c_10), rfl, (sk n C p), p_1.2.1, sk_sk hn4 hp4⟩⟩)

set_option maxRecDepth 100000 in
set_option maxHeartbeats 4000000 in
theorem ct_m_hasIf (g : GS) (n : Nat) (C : Nat → Int32) (b : Nat) (hQ : MLq n C b g) : Ct mX12_hasIf (rm 5 0 0) [.ref 63] (Wd g) (RXi (fun x g2 => Fr fB aNo g g2 ∧ gF g2 63 8 = nI b ∧ ((obWrd n C b = 8 ∧ x = 1 ∧ MLq n C (obNxt n C b) g2) ∨ (¬ obWrd n C b = 8 ∧ x = 0)))) := by
  refine Ct.of (by decide +kernel) (Nat.le_of_ble_eq_true rfl) ?_
  show J _ _ _ _ 0 [some (.ref 63)] [] _ 0 0
  obtain ⟨p, h, rfl⟩ := hQ
  have hn4 := h.2.1
  have hp4 := h.2.2.2.2
  have hsk := sk_le n C p hp4
  have hlel := leN_le (C := C) hsk.2
  refine J_aload_n (nx := 1) dX12_hasIf_0 rfl rfl ?_
  refine JvV0 (R' := rm (2) 0 0) (nx := 4) dX12_hasIf_1 rfl ml_X12_letters lk_X12_110 iv_X12_letters rfl rfl ⟨(Nat.le_of_ble_eq_true rfl), (Nat.le_of_ble_eq_true rfl)⟩ (Nat.le_of_ble_eq_true rfl) ⟨rfl, rfl⟩ (ct_m_letters g n C p h) (fun g_1 p_1 => ?_)
  refine J_aload_n (nx := 5) dX12_hasIf_4 rfl rfl ?_
  refine J_ldcS (nx := 7) (j := 8) dX12_hasIf_5 rfl rfl (by decide) (by decide) ?_
  refine JcV1 (R' := rm (4) 0 0) (nx := 10) dX12_hasIf_7 rfl ml_X12_isWord lk_X12_113 iv_X12_isWord rfl rfl ⟨(Nat.le_of_ble_eq_true rfl), (Nat.le_of_ble_eq_true rfl)⟩ (Nat.le_of_ble_eq_true rfl) ⟨rfl, rfl⟩ (ct_m_isWord g_1 n C (leN n C (sk n C p)) (sk n C p) 8 p_1.2.1 p_1.2.2 hlel.1 (by decide)) ?_
  rw [iw_wrd hn4 (by decide) (by decide)]
  exact Jrz dX12_hasIf_10 rfl (bI_nar _) (Nat.zero_le _) (Nat.zero_le _) (RXi.of ⟨p_1.1, p_1.2.2, by cases hw : decide (obWrd n C (sk n C p) = 8) with | true => exact Or.inl ⟨of_decide_eq_true hw, rfl, leN_nx hn4 (by decide) (of_decide_eq_true hw) p_1.2.1⟩ | false => exact Or.inr ⟨of_decide_eq_false hw, rfl⟩⟩)

theorem nuN_snoc (C : Nat → Int32) : ∀ (k i : Nat) (v : Int32), nuN C (k + 1) i v = 10 * nuN C k i v + C (i + k) - 48 := by
  intro k
  induction k with
  | zero => intro i v; rfl
  | succ k ih =>
    intro i v
    show nuN C (k + 1) (i + 1) (10 * v + C i - 48) = 10 * nuN C k (i + 1) (10 * v + C i - 48) + C (i + (k + 1)) - 48
    rw [ih, show i + 1 + k = i + (k + 1) by omega]
theorem dgN_le {n : Nat} {C : Nat → Int32} {b : Nat} (h : b ≤ n) : b ≤ dgN n C b ∧ dgN n C b ≤ n := rnN_le n C isD 400 b h
theorem dgN_te {n : Nat} {C : Nat → Int32} {b : Nat} (hn : n ≤ 400) (hb : b < n) (hd : isD (C b) = true) : dgN n C b = teN n C b := by
  unfold dgN teN
  rw [if_neg (by rw [not_isL_of_isD hd]; decide), if_pos hd, rnN_step, if_pos hb, if_pos hd]
  exact rnN_fuel n C isD 399 400 (b + 1) (by omega) (by omega) (by omega)
theorem dgN_no {n : Nat} {C : Nat → Int32} {b : Nat} (h : ¬ (b < n ∧ isD (C b) = true)) : dgN n C b = b := by
  unfold dgN
  rw [rnN_step]
  by_cases hb : b < n
  · rw [if_pos hb, if_neg (fun z => h ⟨hb, z⟩)]
  · rw [if_neg hb]
def numV (C : Nat → Int32) (b e : Nat) : Int32 := nuN C (if e - b < 4 then e - b else 4) b 0
theorem numV_s {C : Nat → Int32} {b e : Nat} (hb : b ≤ e) (h : e - b < 4) : numV C b (e + 1) = 10 * numV C b e + C e - 48 := by
  unfold numV
  rw [if_pos h, show (if e + 1 - b < 4 then e + 1 - b else 4) = e - b + 1 by split <;> omega, nuN_snoc, show b + (e - b) = e by omega]
theorem numV_k {C : Nat → Int32} {b e : Nat} (hb : b ≤ e) (h : ¬ e - b < 4) : numV C b (e + 1) = numV C b e := by
  unfold numV
  rw [if_neg h, if_neg (by omega)]
def nmV (n : Nat) (C : Nat → Int32) (b : Nat) (high : Int32) : Int32 := if dgN n C b = b then -1 else if 4 < dgN n C b - b then -1 else if high < numV C b (dgN n C b) then -1 else numV C b (dgN n C b)
theorem obNum_v {n : Nat} {C : Nat → Int32} {b : Nat} (hn : n ≤ 400) (hb : b ≤ n) : (dgN n C b = b → obNum n C b = -1) ∧ (4 < dgN n C b - b → obNum n C b = -1) ∧ (¬ dgN n C b = b → ¬ 4 < dgN n C b - b → obNum n C b = numV C b (dgN n C b) ∧ obNxt n C b = sk n C (dgN n C b) ∧ ∃ v, v ≤ 9999 ∧ obNum n C b = nI v) := by
  by_cases h : b < n ∧ isD (C b) = true
  · have e := dgN_te hn h.1 h.2
    have hl := teN_le n C b h.1
    refine ⟨fun z => by omega, fun z => if_neg (fun q => by omega), fun z1 z2 => ?_⟩
    have e1 : obNum n C b = nuN C (teN n C b - b) b 0 := if_pos ⟨h.1, h.2, by omega⟩
    refine ⟨?_, by unfold obNxt; rw [e], ?_⟩
    · rw [e1, e]
      unfold numV
      congr 1
      split <;> omega
    · rcases obNum_or n C b with z | z
      · exfalso
        have h9 : 10 ^ (teN n C b - b) ≤ 10000 := Nat.pow_le_pow_right (n := 10) (j := 4) (by decide) (by omega)
        obtain ⟨w, h1, -, h3⟩ := nuN_nI C (teN n C b - b) b 0 (by omega) (fun q h1 h2 => teN_dig (n := n) h.2 q h1 (by omega))
        rw [e1, show (0 : Int32) = nI 0 from rfl, h3] at z
        have := congrArg Int32.toInt z
        rw [nI_toInt (by omega)] at this
        exact absurd this (by rw [show (-1 : Int32).toInt = -1 from rfl]; omega)
      · exact z
  · have e := dgN_no h
    have e1 : obNum n C b = -1 := if_neg (fun q => h ⟨q.1, q.2.1⟩)
    exact ⟨fun _ => e1, fun _ => e1, fun z => absurd e z⟩
theorem nge_lt {a b : Nat} (ha : a < 2 ^ 31) (hb : b < 2 ^ 31) (h : ¬ nI a ≤ nI b) : b < a := by
  rcases Nat.lt_or_ge b a with z | z
  · exact z
  · exact absurd (nI_le_n z hb) h
set_option maxRecDepth 100000 in
set_option maxHeartbeats 4000000 in
theorem lp_m_number (g0 : GS) (n : Nat) (C : Nat → Int32) (b : Nat) (hi : Int32) (n0 : Nat) : ∀ (k : Nat) (p : Nat) (g : GS) (r : Nat), n ≤ p + k → b ≤ p → Fr f6 aNo g0 g → MPt n C p g → gF g 63 8 = nI b → r = rnN n C isD k p → J mX12_number (rm 2 0 0) (RXi (fun x g2 => x = (if r = b then -1 else if 4 < r - b then -1 else if hi < numV C b r then -1 else numV C b r) ∧ Fr f6 aNo g0 g2 ∧ MPt n C r g2 ∧ gF g2 63 8 = nI b)) n0 6 [some (.ref 63), some (.int hi), some (.int (numV C b p))] [] (Wd g) 0 0 := by
  intro k
  induction k with
  | zero =>
    intro p g r hk hbp hfr h hb hr
    refine J_aload_n (nx := 7) dX12_number_6 rfl rfl ?_
    refine J_bipush (nx := 9) (i := 48) (v := 48) (by decide) dX12_number_7 rfl ?_
    refine J_bipush (nx := 11) (i := 57) (v := 57) (by decide) dX12_number_9 rfl ?_
    refine JcV2 (R' := rm (0) 0 0) (nx := 14) dX12_number_11 rfl ml_X12_isAt lk_X12_90 iv_X12_isAt rfl rfl ⟨(Nat.le_of_ble_eq_true rfl), (Nat.le_of_ble_eq_true rfl)⟩ (Nat.le_of_ble_eq_true rfl) ⟨rfl, rfl⟩ (ct_m_isAt g n C p h 48 57) ?_
    refine J_if_eq (nx := 17) (tgt := 65) dX12_number_14 rfl (by decide) (fun c_14 => ?_) (fun c_14 => ?_)
    · have hn4 := h.2.1
      have hp4 := h.2.2.2.2
      have e : r = p := by
        rw [hr]
        first
          | rfl
          | (rw [rnN_step]
             rw [atP_D] at c_14
             by_cases hp : p < n
             · rw [if_pos hp] at c_14
               rw [if_pos hp, if_neg (by rw [bI_0.mp c_14]; decide)]
             · rw [if_neg hp])
      refine J_aload_n (nx := 66) dX12_number_65 rfl rfl ?_
      refine Jg_63_6 (nx := 69) dX12_number_66 rfl fl_X12_84 ?_
      rw [h.2.2.2.1]
      refine J_aload_n (nx := 70) dX12_number_69 rfl rfl ?_
      refine Jg_63_8 (nx := 73) dX12_number_70 rfl fl_X12_94 ?_
      rw [hb]
      refine J_icmp_eq (nx := 76) (tgt := 94) dX12_number_73 rfl (by decide) (fun c_73 => ?_) (fun c_73 => ?_)
      · refine J_iconst (nx := 95) (i := -1) (v := -1) (by decide) dX12_number_94 rfl ?_
        refine J_goto (nx := 99) dX12_number_95 (by decide) ?_
        exact Jri dX12_number_99 rfl (Nat.zero_le _) (Nat.zero_le _) (RXi.of ⟨by
  show _ = (if r = b then -1 else if 4 < r - b then -1 else if hi < numV C b r then -1 else numV C b r)
  rw [e]
  first
    | exact (if_pos (nI_inj (by omega) (by omega) c_73)).symm
    | (rw [if_neg (fun z => c_73 (by rw [z]))]
       first
         | exact (if_pos (nI_ltd (a := 4) (b := p - b) (by omega) (by omega) c_86)).symm
         | (rw [if_neg (fun z => c_86 (nI_lt (a := 4) (b := p - b) z (by omega)))]
            first
              | rw [if_pos (nle_lt c_91)]
              | rw [if_neg (fun z => lt_nle z c_91)])), hfr, by rw [e]; exact h, hb⟩)
      · refine J_aload_n (nx := 77) dX12_number_76 rfl rfl ?_
        refine Jg_63_6 (nx := 80) dX12_number_77 rfl fl_X12_84 ?_
        rw [h.2.2.2.1]
        refine J_aload_n (nx := 81) dX12_number_80 rfl rfl ?_
        refine Jg_63_8 (nx := 84) dX12_number_81 rfl fl_X12_94 ?_
        rw [hb]
        refine J_isub (nx := 85) dX12_number_84 rfl ?_
        rw [show (nI (p) - nI (b)) = nI ((p - b)) from (nIs (by omega) (Eq.refl (nI (p))) (Eq.refl (nI (b))))]
        refine J_iconst (nx := 86) (i := 4) (v := 4) (by decide) dX12_number_85 rfl ?_
        refine J_icmp_gt (nx := 89) (tgt := 94) dX12_number_86 rfl (by decide) (fun c_86 => ?_) (fun c_86 => ?_)
        · refine J_iconst (nx := 95) (i := -1) (v := -1) (by decide) dX12_number_94 rfl ?_
          refine J_goto (nx := 99) dX12_number_95 (by decide) ?_
          exact Jri dX12_number_99 rfl (Nat.zero_le _) (Nat.zero_le _) (RXi.of ⟨by
  show _ = (if r = b then -1 else if 4 < r - b then -1 else if hi < numV C b r then -1 else numV C b r)
  rw [e]
  first
    | exact (if_pos (nI_inj (by omega) (by omega) c_73)).symm
    | (rw [if_neg (fun z => c_73 (by rw [z]))]
       first
         | exact (if_pos (nI_ltd (a := 4) (b := p - b) (by omega) (by omega) c_86)).symm
         | (rw [if_neg (fun z => c_86 (nI_lt (a := 4) (b := p - b) z (by omega)))]
            first
              | rw [if_pos (nle_lt c_91)]
              | rw [if_neg (fun z => lt_nle z c_91)])), hfr, by rw [e]; exact h, hb⟩)
        · refine J_iload_n (nx := 90) dX12_number_89 rfl rfl ?_
          refine J_iload_n (nx := 91) dX12_number_90 rfl rfl ?_
          refine J_icmp_le (nx := 94) (tgt := 98) dX12_number_91 rfl (by decide) (fun c_91 => ?_) (fun c_91 => ?_)
          · refine J_iload_n (nx := 99) dX12_number_98 rfl rfl ?_
            exact Jri dX12_number_99 rfl (Nat.zero_le _) (Nat.zero_le _) (RXi.of ⟨by
  show _ = (if r = b then -1 else if 4 < r - b then -1 else if hi < numV C b r then -1 else numV C b r)
  rw [e]
  first
    | exact (if_pos (nI_inj (by omega) (by omega) c_73)).symm
    | (rw [if_neg (fun z => c_73 (by rw [z]))]
       first
         | exact (if_pos (nI_ltd (a := 4) (b := p - b) (by omega) (by omega) c_86)).symm
         | (rw [if_neg (fun z => c_86 (nI_lt (a := 4) (b := p - b) z (by omega)))]
            first
              | rw [if_pos (nle_lt c_91)]
              | rw [if_neg (fun z => lt_nle z c_91)])), hfr, by rw [e]; exact h, hb⟩)
          · refine J_iconst (nx := 95) (i := -1) (v := -1) (by decide) dX12_number_94 rfl ?_
            refine J_goto (nx := 99) dX12_number_95 (by decide) ?_
            exact Jri dX12_number_99 rfl (Nat.zero_le _) (Nat.zero_le _) (RXi.of ⟨by
  show _ = (if r = b then -1 else if 4 < r - b then -1 else if hi < numV C b r then -1 else numV C b r)
  rw [e]
  first
    | exact (if_pos (nI_inj (by omega) (by omega) c_73)).symm
    | (rw [if_neg (fun z => c_73 (by rw [z]))]
       first
         | exact (if_pos (nI_ltd (a := 4) (b := p - b) (by omega) (by omega) c_86)).symm
         | (rw [if_neg (fun z => c_86 (nI_lt (a := 4) (b := p - b) z (by omega)))]
            first
              | rw [if_pos (nle_lt c_91)]
              | rw [if_neg (fun z => lt_nle z c_91)])), hfr, by rw [e]; exact h, hb⟩)
    · exact absurd (show bI (atP n C p 48 57) = 0 from by rw [atP_D, if_neg (by omega)]; rfl) c_14
  | succ k ih =>
    intro p g r hk hbp hfr h hb hr
    refine J_aload_n (nx := 7) dX12_number_6 rfl rfl ?_
    refine J_bipush (nx := 9) (i := 48) (v := 48) (by decide) dX12_number_7 rfl ?_
    refine J_bipush (nx := 11) (i := 57) (v := 57) (by decide) dX12_number_9 rfl ?_
    refine JcV2 (R' := rm (0) 0 0) (nx := 14) dX12_number_11 rfl ml_X12_isAt lk_X12_90 iv_X12_isAt rfl rfl ⟨(Nat.le_of_ble_eq_true rfl), (Nat.le_of_ble_eq_true rfl)⟩ (Nat.le_of_ble_eq_true rfl) ⟨rfl, rfl⟩ (ct_m_isAt g n C p h 48 57) ?_
    refine J_if_eq (nx := 17) (tgt := 65) dX12_number_14 rfl (by decide) (fun c_14 => ?_) (fun c_14 => ?_)
    · have hn4 := h.2.1
      have hp4 := h.2.2.2.2
      have e : r = p := by
        rw [hr]
        first
          | rfl
          | (rw [rnN_step]
             rw [atP_D] at c_14
             by_cases hp : p < n
             · rw [if_pos hp] at c_14
               rw [if_pos hp, if_neg (by rw [bI_0.mp c_14]; decide)]
             · rw [if_neg hp])
      refine J_aload_n (nx := 66) dX12_number_65 rfl rfl ?_
      refine Jg_63_6 (nx := 69) dX12_number_66 rfl fl_X12_84 ?_
      rw [h.2.2.2.1]
      refine J_aload_n (nx := 70) dX12_number_69 rfl rfl ?_
      refine Jg_63_8 (nx := 73) dX12_number_70 rfl fl_X12_94 ?_
      rw [hb]
      refine J_icmp_eq (nx := 76) (tgt := 94) dX12_number_73 rfl (by decide) (fun c_73 => ?_) (fun c_73 => ?_)
      · refine J_iconst (nx := 95) (i := -1) (v := -1) (by decide) dX12_number_94 rfl ?_
        refine J_goto (nx := 99) dX12_number_95 (by decide) ?_
        exact Jri dX12_number_99 rfl (Nat.zero_le _) (Nat.zero_le _) (RXi.of ⟨by
  show _ = (if r = b then -1 else if 4 < r - b then -1 else if hi < numV C b r then -1 else numV C b r)
  rw [e]
  first
    | exact (if_pos (nI_inj (by omega) (by omega) c_73)).symm
    | (rw [if_neg (fun z => c_73 (by rw [z]))]
       first
         | exact (if_pos (nI_ltd (a := 4) (b := p - b) (by omega) (by omega) c_86)).symm
         | (rw [if_neg (fun z => c_86 (nI_lt (a := 4) (b := p - b) z (by omega)))]
            first
              | rw [if_pos (nle_lt c_91)]
              | rw [if_neg (fun z => lt_nle z c_91)])), hfr, by rw [e]; exact h, hb⟩)
      · refine J_aload_n (nx := 77) dX12_number_76 rfl rfl ?_
        refine Jg_63_6 (nx := 80) dX12_number_77 rfl fl_X12_84 ?_
        rw [h.2.2.2.1]
        refine J_aload_n (nx := 81) dX12_number_80 rfl rfl ?_
        refine Jg_63_8 (nx := 84) dX12_number_81 rfl fl_X12_94 ?_
        rw [hb]
        refine J_isub (nx := 85) dX12_number_84 rfl ?_
        rw [show (nI (p) - nI (b)) = nI ((p - b)) from (nIs (by omega) (Eq.refl (nI (p))) (Eq.refl (nI (b))))]
        refine J_iconst (nx := 86) (i := 4) (v := 4) (by decide) dX12_number_85 rfl ?_
        refine J_icmp_gt (nx := 89) (tgt := 94) dX12_number_86 rfl (by decide) (fun c_86 => ?_) (fun c_86 => ?_)
        · refine J_iconst (nx := 95) (i := -1) (v := -1) (by decide) dX12_number_94 rfl ?_
          refine J_goto (nx := 99) dX12_number_95 (by decide) ?_
          exact Jri dX12_number_99 rfl (Nat.zero_le _) (Nat.zero_le _) (RXi.of ⟨by
  show _ = (if r = b then -1 else if 4 < r - b then -1 else if hi < numV C b r then -1 else numV C b r)
  rw [e]
  first
    | exact (if_pos (nI_inj (by omega) (by omega) c_73)).symm
    | (rw [if_neg (fun z => c_73 (by rw [z]))]
       first
         | exact (if_pos (nI_ltd (a := 4) (b := p - b) (by omega) (by omega) c_86)).symm
         | (rw [if_neg (fun z => c_86 (nI_lt (a := 4) (b := p - b) z (by omega)))]
            first
              | rw [if_pos (nle_lt c_91)]
              | rw [if_neg (fun z => lt_nle z c_91)])), hfr, by rw [e]; exact h, hb⟩)
        · refine J_iload_n (nx := 90) dX12_number_89 rfl rfl ?_
          refine J_iload_n (nx := 91) dX12_number_90 rfl rfl ?_
          refine J_icmp_le (nx := 94) (tgt := 98) dX12_number_91 rfl (by decide) (fun c_91 => ?_) (fun c_91 => ?_)
          · refine J_iload_n (nx := 99) dX12_number_98 rfl rfl ?_
            exact Jri dX12_number_99 rfl (Nat.zero_le _) (Nat.zero_le _) (RXi.of ⟨by
  show _ = (if r = b then -1 else if 4 < r - b then -1 else if hi < numV C b r then -1 else numV C b r)
  rw [e]
  first
    | exact (if_pos (nI_inj (by omega) (by omega) c_73)).symm
    | (rw [if_neg (fun z => c_73 (by rw [z]))]
       first
         | exact (if_pos (nI_ltd (a := 4) (b := p - b) (by omega) (by omega) c_86)).symm
         | (rw [if_neg (fun z => c_86 (nI_lt (a := 4) (b := p - b) z (by omega)))]
            first
              | rw [if_pos (nle_lt c_91)]
              | rw [if_neg (fun z => lt_nle z c_91)])), hfr, by rw [e]; exact h, hb⟩)
          · refine J_iconst (nx := 95) (i := -1) (v := -1) (by decide) dX12_number_94 rfl ?_
            refine J_goto (nx := 99) dX12_number_95 (by decide) ?_
            exact Jri dX12_number_99 rfl (Nat.zero_le _) (Nat.zero_le _) (RXi.of ⟨by
  show _ = (if r = b then -1 else if 4 < r - b then -1 else if hi < numV C b r then -1 else numV C b r)
  rw [e]
  first
    | exact (if_pos (nI_inj (by omega) (by omega) c_73)).symm
    | (rw [if_neg (fun z => c_73 (by rw [z]))]
       first
         | exact (if_pos (nI_ltd (a := 4) (b := p - b) (by omega) (by omega) c_86)).symm
         | (rw [if_neg (fun z => c_86 (nI_lt (a := 4) (b := p - b) z (by omega)))]
            first
              | rw [if_pos (nle_lt c_91)]
              | rw [if_neg (fun z => lt_nle z c_91)])), hfr, by rw [e]; exact h, hb⟩)
    · have hpn : p < n ∧ isD (C p) = true := by
        rw [atP_D] at c_14
        by_cases hp : p < n
        · rw [if_pos hp] at c_14; exact ⟨hp, bI_n0.mp c_14⟩
        · rw [if_neg hp] at c_14; exact absurd rfl c_14
      have hn4 := h.2.1
      refine J_aload_n (nx := 18) dX12_number_17 rfl rfl ?_
      refine Jg_63_6 (nx := 21) dX12_number_18 rfl fl_X12_84 ?_
      rw [h.2.2.2.1]
      refine J_aload_n (nx := 22) dX12_number_21 rfl rfl ?_
      refine Jg_63_8 (nx := 25) dX12_number_22 rfl fl_X12_94 ?_
      rw [hb]
      refine J_isub (nx := 26) dX12_number_25 rfl ?_
      rw [show (nI (p) - nI (b)) = nI ((p - b)) from (nIs (by omega) (Eq.refl (nI (p))) (Eq.refl (nI (b))))]
      refine J_iconst (nx := 27) (i := 4) (v := 4) (by decide) dX12_number_26 rfl ?_
      refine J_icmp_ge (nx := 30) (tgt := 50) dX12_number_27 rfl (by decide) (fun c_27 => ?_) (fun c_27 => ?_)
      · refine J_iload_n (nx := 51) dX12_number_50 rfl rfl ?_
        refine J_istore_n (nx := 52) dX12_number_51 rfl rfl (Nat.le_of_ble_eq_true rfl) ?_
        refine J_aload_n (nx := 53) dX12_number_52 rfl rfl ?_
        refine J_dup (nx := 54) rfl dX12_number_53 rfl ?_
        refine Jg_63_6 (nx := 57) dX12_number_54 rfl fl_X12_84 ?_
        refine J_iconst (nx := 58) (i := 1) (v := 1) (by decide) dX12_number_57 rfl ?_
        refine J_iadd (nx := 59) dX12_number_58 rfl ?_
        refine Jp_63_6 (nx := 62) dX12_number_59 rfl fl_X12_84 ?_
        refine J.gen (fun g_59 hg_59 => ?_)
        refine J_goto (nx := 6) dX12_number_62 (by decide) ?_
        refine J.lv (fun v => [some (.ref 63), some (.int hi), some (.int (v))]) (y := numV C b (p + 1)) ?_ (ih (p + 1) g_59 r (by omega) (by omega) (by rw [hg_59]; exact Fr.sF hfr rfl) (h.mv6 (by rw [hg_59]; exact Fr.sF Fr.rf rfl) (by rw [hg_59]; exact (congrArg (· + 1) h.2.2.2.1).trans (nI_add p 1)) (by omega)) (by rw [hg_59]; exact hb) (by rw [hr, rnN_step, if_pos hpn.1, if_pos hpn.2]))
        first
          | exact (numV_s hbp (nge_lt (a := 4) (b := p - b) (by omega) (by omega) c_27)).symm
          | exact (numV_k hbp (fun z => absurd (nI_led (a := 4) (b := p - b) (by omega) (by omega) c_27) (by omega))).symm
      · refine J_bipush (nx := 32) (i := 10) (v := 10) (by decide) dX12_number_30 rfl ?_
        refine J_iload_n (nx := 33) dX12_number_32 rfl rfl ?_
        refine J_imul (nx := 34) dX12_number_33 rfl ?_
        refine J_aload_n (nx := 35) dX12_number_34 rfl rfl ?_
        refine Jg_63_4 (nx := 38) dX12_number_35 rfl fl_X12_20 ?_
        refine J_aload_n (nx := 39) dX12_number_38 rfl rfl ?_
        refine Jg_63_6 (nx := 42) dX12_number_39 rfl fl_X12_84 ?_
        rw [h.2.2.2.1]
        refine Ja_66 (nx := 43) dX12_number_42 rfl (vpE (n := p) (Eq.refl (nI (p))) (by omega) (by decide)) ?_
        rw [clE (n := p) (Eq.refl (nI (p))) (by omega)]
        rw [show gA g 66 p = C p from congrFun h.2.2.1 p]
        refine J_iadd (nx := 44) dX12_number_43 rfl ?_
        refine J_bipush (nx := 46) (i := 48) (v := 48) (by decide) dX12_number_44 rfl ?_
        refine J_isub (nx := 47) dX12_number_46 rfl ?_
        refine J_goto (nx := 51) dX12_number_47 (by decide) ?_
        refine J_istore_n (nx := 52) dX12_number_51 rfl rfl (Nat.le_of_ble_eq_true rfl) ?_
        refine J_aload_n (nx := 53) dX12_number_52 rfl rfl ?_
        refine J_dup (nx := 54) rfl dX12_number_53 rfl ?_
        refine Jg_63_6 (nx := 57) dX12_number_54 rfl fl_X12_84 ?_
        refine J_iconst (nx := 58) (i := 1) (v := 1) (by decide) dX12_number_57 rfl ?_
        refine J_iadd (nx := 59) dX12_number_58 rfl ?_
        refine Jp_63_6 (nx := 62) dX12_number_59 rfl fl_X12_84 ?_
        refine J.gen (fun g_59 hg_59 => ?_)
        refine J_goto (nx := 6) dX12_number_62 (by decide) ?_
        refine J.lv (fun v => [some (.ref 63), some (.int hi), some (.int (v))]) (y := numV C b (p + 1)) ?_ (ih (p + 1) g_59 r (by omega) (by omega) (by rw [hg_59]; exact Fr.sF hfr rfl) (h.mv6 (by rw [hg_59]; exact Fr.sF Fr.rf rfl) (by rw [hg_59]; exact (congrArg (· + 1) h.2.2.2.1).trans (nI_add p 1)) (by omega)) (by rw [hg_59]; exact hb) (by rw [hr, rnN_step, if_pos hpn.1, if_pos hpn.2]))
        first
          | exact (numV_s hbp (nge_lt (a := 4) (b := p - b) (by omega) (by omega) c_27)).symm
          | exact (numV_k hbp (fun z => absurd (nI_led (a := 4) (b := p - b) (by omega) (by omega) c_27) (by omega))).symm

