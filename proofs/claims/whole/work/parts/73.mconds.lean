
/-! the Model: conditions -/
theorem pLoop_no {n : Nat} {C : Nat → Int32} {item : Nat → List Int32 → PR} {w : Nat} {op : Int32} {k b : Nat} {cs : List Int32} (h : ¬ obWrd n C b = w) : pLoop (obT n C) item w op k b cs = .inr (b, cs) := by
  cases k with
  | zero => rfl
  | succ k => exact if_neg h
theorem pLoop_e {n : Nat} {C : Nat → Int32} {item : Nat → List Int32 → PR} {w : Nat} {op : Int32} {k b e : Nat} {cs : List Int32} (h : obWrd n C b = w) (he : item (obNxt n C b) cs = .inl e) : pLoop (obT n C) item w op (k + 1) b cs = .inl e := by
  show (if obWrd n C b = w then (match item (obNxt n C b) cs with | .inl e => (Sum.inl e : PR) | .inr q => pLoop (obT n C) item w op k q.1 (q.2 ++ [op])) else Sum.inr (b, cs) : PR) = _
  rw [if_pos h, he]
theorem pLoop_y {n : Nat} {C : Nat → Int32} {item : Nat → List Int32 → PR} {w : Nat} {op : Int32} {k b : Nat} {cs : List Int32} {q : Nat × List Int32} (h : obWrd n C b = w) (he : item (obNxt n C b) cs = .inr q) : pLoop (obT n C) item w op (k + 1) b cs = pLoop (obT n C) item w op k q.1 (q.2 ++ [op]) := by
  show (if obWrd n C b = w then (match item (obNxt n C b) cs with | .inl e => (Sum.inl e : PR) | .inr q => pLoop (obT n C) item w op k q.1 (q.2 ++ [op])) else Sum.inr (b, cs) : PR) = _
  rw [if_pos h, he]
theorem pSeq_e {n : Nat} {C : Nat → Int32} {item : Nat → List Int32 → PR} {w : Nat} {op : Int32} {b e : Nat} {cs : List Int32} (he : item b cs = .inl e) : pSeq (obT n C) item w op b cs = .inl e := by
  unfold pSeq; rw [he]
theorem pSeq_y {n : Nat} {C : Nat → Int32} {item : Nat → List Int32 → PR} {w : Nat} {op : Int32} {b : Nat} {cs : List Int32} {q : Nat × List Int32} (he : item b cs = .inr q) : pSeq (obT n C) item w op b cs = pLoop (obT n C) item w op 400 q.1 q.2 := by
  unfold pSeq; rw [he]

set_option maxRecDepth 100000 in
set_option maxHeartbeats 4000000 in
theorem lp_m_readAllOf (n : Nat) (C : Nat → Int32) (rl : Bool) (d : Nat) (hI : ∀ (g : GS) (b : Nat) (cs : List Int32), RSt n C b cs rl g → cs.length < b → gF g 63 9 = nI (6 - d) → Ct mX12_readAtom (rm (8 + 3 * d) 0 0) [.ref 63] (Wd g) (RXi (PM n C g (pAtom (obT n C) rl d b cs)))) (g0 : GS) (hd0 : gF g0 63 9 = nI (6 - d)) (n0 : Nat) : ∀ (k : Nat) (b : Nat) (cs : List Int32) (g : GS) (r : PR), n ≤ b + k → RSt n C b cs rl g → cs.length < b → RFr g0 g → gF g 63 9 = gF g0 63 9 → r = pLoop (obT n C) (pAtom (obT n C) rl d) 13 10014 k b cs → J mX12_readAllOf (rm (9 + 3 * d) 0 0) (RXi (PM n C g0 r)) n0 9 [some (.ref 63)] [] (Wd g) 0 0 := by
  intro k
  induction k with
  | zero =>
    intro b cs g r hk hS hl hfr hd hr
    refine J_aload_n (nx := 10) dX12_readAllOf_9 rfl rfl ?_
    refine J_ldcS (nx := 12) (j := 13) dX12_readAllOf_10 rfl rfl (by decide) (by decide) ?_
    refine JiV1 (R' := rm (5) 0 0) (nx := 15) dX12_readAllOf_12 rfl ml_X12_passes lk_X12_167 iv_X12_passes rfl rfl (rm_room (by omega) (by decide)) (Nat.le_of_ble_eq_true rfl) ⟨rfl, rfl⟩ (ct_m_passes g n C b hS.1 13 (by decide) (by decide)) (fun x_12 g_12 p_12 => ?_)
    refine J_if_eq (nx := 18) (tgt := 37) dX12_readAllOf_15 rfl (by decide) (fun c_15 => ?_) (fun c_15 => ?_)
    · refine J_iconst (nx := 38) (i := 1) (v := 1) (by decide) dX12_readAllOf_37 rfl ?_
      have hs : ¬ obWrd n C b = 13 ∧ MLq n C b g_12 := by
        rcases p_12.2.2 with ⟨h1, h2, h3⟩ | ⟨h1, h2, h3⟩
        · rw [h2] at c_15; exact absurd c_15 (by decide)
        · exact ⟨h1, h3⟩
      exact Jrz dX12_readAllOf_38 rfl (by decide) (Nat.zero_le _) (Nat.zero_le _) (RXi.of (by rw [hr, pLoop_no hs.1]; exact PM.mkY (hfr.B p_12.1) hs.2 (hS.2.1.B p_12.1) ((p_12.1.1 63 9 rfl).trans hd)))
    · have hs : obWrd n C b = 13 ∧ MLq n C (obNxt n C b) g_12 := by
        rcases p_12.2.2 with ⟨h1, h2, h3⟩ | ⟨h1, h2, h3⟩
        · exact ⟨h1, h3⟩
        · exact absurd h2 c_15
      have hbn : b < n := (wrd_in (by decide) hs.1).1
      have hnx := obNxt_le n C b hbn
      have hn4 := hS.1.le.2.1
      have hS2 : RSt n C (obNxt n C b) cs rl g_12 := ⟨hs.2, hS.2.1.B p_12.1, (p_12.1.1 63 13 rfl).trans hS.2.2⟩
      have hd1 : gF g_12 63 9 = gF g0 63 9 := (p_12.1.1 63 9 rfl).trans hd
      have hd2 : gF g_12 63 9 = nI (6 - d) := hd1.trans hd0
      exact absurd hk (by omega)
  | succ k ih =>
    intro b cs g r hk hS hl hfr hd hr
    refine J_aload_n (nx := 10) dX12_readAllOf_9 rfl rfl ?_
    refine J_ldcS (nx := 12) (j := 13) dX12_readAllOf_10 rfl rfl (by decide) (by decide) ?_
    refine JiV1 (R' := rm (5) 0 0) (nx := 15) dX12_readAllOf_12 rfl ml_X12_passes lk_X12_167 iv_X12_passes rfl rfl (rm_room (by omega) (by decide)) (Nat.le_of_ble_eq_true rfl) ⟨rfl, rfl⟩ (ct_m_passes g n C b hS.1 13 (by decide) (by decide)) (fun x_12 g_12 p_12 => ?_)
    refine J_if_eq (nx := 18) (tgt := 37) dX12_readAllOf_15 rfl (by decide) (fun c_15 => ?_) (fun c_15 => ?_)
    · refine J_iconst (nx := 38) (i := 1) (v := 1) (by decide) dX12_readAllOf_37 rfl ?_
      have hs : ¬ obWrd n C b = 13 ∧ MLq n C b g_12 := by
        rcases p_12.2.2 with ⟨h1, h2, h3⟩ | ⟨h1, h2, h3⟩
        · rw [h2] at c_15; exact absurd c_15 (by decide)
        · exact ⟨h1, h3⟩
      exact Jrz dX12_readAllOf_38 rfl (by decide) (Nat.zero_le _) (Nat.zero_le _) (RXi.of (by rw [hr, pLoop_no hs.1]; exact PM.mkY (hfr.B p_12.1) hs.2 (hS.2.1.B p_12.1) ((p_12.1.1 63 9 rfl).trans hd)))
    · have hs : obWrd n C b = 13 ∧ MLq n C (obNxt n C b) g_12 := by
        rcases p_12.2.2 with ⟨h1, h2, h3⟩ | ⟨h1, h2, h3⟩
        · exact ⟨h1, h3⟩
        · exact absurd h2 c_15
      have hbn : b < n := (wrd_in (by decide) hs.1).1
      have hnx := obNxt_le n C b hbn
      have hn4 := hS.1.le.2.1
      have hS2 : RSt n C (obNxt n C b) cs rl g_12 := ⟨hs.2, hS.2.1.B p_12.1, (p_12.1.1 63 13 rfl).trans hS.2.2⟩
      have hd1 : gF g_12 63 9 = gF g0 63 9 := (p_12.1.1 63 9 rfl).trans hd
      have hd2 : gF g_12 63 9 = nI (6 - d) := hd1.trans hd0
      refine J_aload_n (nx := 19) dX12_readAllOf_18 rfl rfl ?_
      refine JiV0 (R' := rm ((8 + 3 * d)) 0 0) (nx := 22) dX12_readAllOf_19 rfl ml_X12_readAtom lk_X12_170 iv_X12_readAtom rfl rfl (rm_room (by omega) (by decide)) (Nat.le_of_ble_eq_true rfl) ⟨rfl, rfl⟩ (hI g_12 (obNxt n C b) cs hS2 (by omega) hd2) (fun x_19 g_19 p_19 => ?_)
      refine J_if_ne (nx := 25) (tgt := 27) dX12_readAllOf_22 rfl (by decide) (fun c_22 => ?_) (fun c_22 => ?_)
      · obtain ⟨q, he, hq1, hq2, hq3, hf⟩ := p_19.yes c_22
        have hok := pAtom_ok (obT_ok n C hn4) rl d (obNxt n C b) cs hnx.2
        rw [he] at hok
        obtain ⟨hk1, hk2, hk3⟩ := (show obNxt n C b < q.1 ∧ q.1 ≤ n ∧ q.2.length + obNxt n C b ≤ q.1 + cs.length from hok)
        refine J_aload_n (nx := 28) dX12_readAllOf_27 rfl rfl ?_
        refine J_bipush (nx := 30) (i := 13) (v := 13) (by decide) dX12_readAllOf_28 rfl ?_
        refine J_iconst (nx := 31) (i := 0) (v := 0) (by decide) dX12_readAllOf_30 rfl ?_
        refine JcV2 (R' := rm (1) 0 0) (nx := 34) dX12_readAllOf_31 rfl ml_X12_emits lk_X12_144 iv_X12_emits rfl rfl (rm_room (by omega) (by decide)) (Nat.le_of_ble_eq_true rfl) ⟨rfl, rfl⟩ (ct_m_emits g_19 q.2.length hq2.1 (by omega) _ _) ?_
        refine J_goto (nx := 9) dX12_readAllOf_34 (by decide) ?_
        refine ih q.1 (q.2 ++ [10014]) _ r (by omega) ⟨hq1.em, hq2.em2 (by decide) (by decide), (hf.1.1 63 13 rfl).trans hS2.2.2⟩ (by rw [List.length_append]; show q.2.length + 1 < _; omega) (((hfr.B p_12.1).tr hf).em) (hq3.trans hd1) ?_
        rw [hr, pLoop_y hs.1 he]
      · refine J_iconst (nx := 26) (i := 0) (v := 0) (by decide) dX12_readAllOf_25 rfl ?_
        obtain ⟨e, he, hb, hf⟩ := p_19.no c_22
        exact Jrz dX12_readAllOf_26 rfl (by decide) (Nat.zero_le _) (Nat.zero_le _) (RXi.of (by rw [hr, pLoop_e hs.1 he]; exact PM.mkN ((hfr.B p_12.1).tr hf) hb))

set_option maxRecDepth 100000 in
set_option maxHeartbeats 4000000 in
theorem ct_m_readAllOf (n : Nat) (C : Nat → Int32) (rl : Bool) (d : Nat) (hI : ∀ (g : GS) (b : Nat) (cs : List Int32), RSt n C b cs rl g → cs.length < b → gF g 63 9 = nI (6 - d) → Ct mX12_readAtom (rm (8 + 3 * d) 0 0) [.ref 63] (Wd g) (RXi (PM n C g (pAtom (obT n C) rl d b cs)))) (g : GS) (b : Nat) (cs : List Int32) (hS : RSt n C b cs rl g) (hl : cs.length < b) (hd : gF g 63 9 = nI (6 - d)) : Ct mX12_readAllOf (rm (9 + 3 * d) 0 0) [.ref 63] (Wd g) (RXi (PM n C g (pAll (obT n C) rl d b cs))) := by
  refine Ct.of (by decide +kernel) (Nat.le_of_ble_eq_true rfl) ?_
  show J _ _ _ _ 0 [some (.ref 63)] [] _ 0 0
  have hbn := hS.1.le
  refine J_aload_n (nx := 1) dX12_readAllOf_0 rfl rfl ?_
  refine JiV0 (R' := rm ((8 + 3 * d)) 0 0) (nx := 4) dX12_readAllOf_1 rfl ml_X12_readAtom lk_X12_170 iv_X12_readAtom rfl rfl (rm_room (by omega) (by decide)) (Nat.le_of_ble_eq_true rfl) ⟨rfl, rfl⟩ (hI g b cs hS hl hd) (fun x_1 g_1 p_1 => ?_)
  refine J_if_ne (nx := 7) (tgt := 9) dX12_readAllOf_4 rfl (by decide) (fun c_4 => ?_) (fun c_4 => ?_)
  · obtain ⟨q, he, hq1, hq2, hq3, hf⟩ := p_1.yes c_4
    have hok := pAtom_ok (obT_ok n C hbn.2.1) rl d b cs hbn.1
    rw [he] at hok
    obtain ⟨hk1, hk2, hk3⟩ := (show b < q.1 ∧ q.1 ≤ n ∧ q.2.length + b ≤ q.1 + cs.length from hok)
    exact lp_m_readAllOf n C rl d hI g hd _ 400 q.1 q.2 g_1 _ (by omega) ⟨hq1, hq2, (hf.1.1 63 13 rfl).trans hS.2.2⟩ (by omega) hf hq3 (show pAll (obT n C) rl d b cs = _ from pSeq_y he)
  · refine J_iconst (nx := 8) (i := 0) (v := 0) (by decide) dX12_readAllOf_7 rfl ?_
    obtain ⟨e, he, hb, hf⟩ := p_1.no c_4
    exact Jrz dX12_readAllOf_8 rfl (by decide) (Nat.zero_le _) (Nat.zero_le _) (RXi.of (by rw [show pAll (obT n C) rl d b cs = .inl e from pSeq_e he]; exact PM.mkN hf hb))

set_option maxRecDepth 100000 in
set_option maxHeartbeats 4000000 in
theorem lp_m_readCond (n : Nat) (C : Nat → Int32) (rl : Bool) (d : Nat) (hI : ∀ (g : GS) (b : Nat) (cs : List Int32), RSt n C b cs rl g → cs.length < b → gF g 63 9 = nI (6 - d) → Ct mX12_readAllOf (rm (9 + 3 * d) 0 0) [.ref 63] (Wd g) (RXi (PM n C g (pAll (obT n C) rl d b cs)))) (g0 : GS) (hd0 : gF g0 63 9 = nI (6 - d)) (n0 : Nat) : ∀ (k : Nat) (b : Nat) (cs : List Int32) (g : GS) (r : PR), n ≤ b + k → RSt n C b cs rl g → cs.length < b → RFr g0 g → gF g 63 9 = gF g0 63 9 → r = pLoop (obT n C) (pAll (obT n C) rl d) 12 10015 k b cs → J mX12_readCond (rm (10 + 3 * d) 0 0) (RXi (PM n C g0 r)) n0 9 [some (.ref 63)] [] (Wd g) 0 0 := by
  intro k
  induction k with
  | zero =>
    intro b cs g r hk hS hl hfr hd hr
    refine J_aload_n (nx := 10) dX12_readCond_9 rfl rfl ?_
    refine J_ldcS (nx := 12) (j := 12) dX12_readCond_10 rfl rfl (by decide) (by decide) ?_
    refine JiV1 (R' := rm (5) 0 0) (nx := 15) dX12_readCond_12 rfl ml_X12_passes lk_X12_167 iv_X12_passes rfl rfl (rm_room (by omega) (by decide)) (Nat.le_of_ble_eq_true rfl) ⟨rfl, rfl⟩ (ct_m_passes g n C b hS.1 12 (by decide) (by decide)) (fun x_12 g_12 p_12 => ?_)
    refine J_if_eq (nx := 18) (tgt := 37) dX12_readCond_15 rfl (by decide) (fun c_15 => ?_) (fun c_15 => ?_)
    · refine J_iconst (nx := 38) (i := 1) (v := 1) (by decide) dX12_readCond_37 rfl ?_
      have hs : ¬ obWrd n C b = 12 ∧ MLq n C b g_12 := by
        rcases p_12.2.2 with ⟨h1, h2, h3⟩ | ⟨h1, h2, h3⟩
        · rw [h2] at c_15; exact absurd c_15 (by decide)
        · exact ⟨h1, h3⟩
      exact Jrz dX12_readCond_38 rfl (by decide) (Nat.zero_le _) (Nat.zero_le _) (RXi.of (by rw [hr, pLoop_no hs.1]; exact PM.mkY (hfr.B p_12.1) hs.2 (hS.2.1.B p_12.1) ((p_12.1.1 63 9 rfl).trans hd)))
    · have hs : obWrd n C b = 12 ∧ MLq n C (obNxt n C b) g_12 := by
        rcases p_12.2.2 with ⟨h1, h2, h3⟩ | ⟨h1, h2, h3⟩
        · exact ⟨h1, h3⟩
        · exact absurd h2 c_15
      have hbn : b < n := (wrd_in (by decide) hs.1).1
      have hnx := obNxt_le n C b hbn
      have hn4 := hS.1.le.2.1
      have hS2 : RSt n C (obNxt n C b) cs rl g_12 := ⟨hs.2, hS.2.1.B p_12.1, (p_12.1.1 63 13 rfl).trans hS.2.2⟩
      have hd1 : gF g_12 63 9 = gF g0 63 9 := (p_12.1.1 63 9 rfl).trans hd
      have hd2 : gF g_12 63 9 = nI (6 - d) := hd1.trans hd0
      exact absurd hk (by omega)
  | succ k ih =>
    intro b cs g r hk hS hl hfr hd hr
    refine J_aload_n (nx := 10) dX12_readCond_9 rfl rfl ?_
    refine J_ldcS (nx := 12) (j := 12) dX12_readCond_10 rfl rfl (by decide) (by decide) ?_
    refine JiV1 (R' := rm (5) 0 0) (nx := 15) dX12_readCond_12 rfl ml_X12_passes lk_X12_167 iv_X12_passes rfl rfl (rm_room (by omega) (by decide)) (Nat.le_of_ble_eq_true rfl) ⟨rfl, rfl⟩ (ct_m_passes g n C b hS.1 12 (by decide) (by decide)) (fun x_12 g_12 p_12 => ?_)
    refine J_if_eq (nx := 18) (tgt := 37) dX12_readCond_15 rfl (by decide) (fun c_15 => ?_) (fun c_15 => ?_)
    · refine J_iconst (nx := 38) (i := 1) (v := 1) (by decide) dX12_readCond_37 rfl ?_
      have hs : ¬ obWrd n C b = 12 ∧ MLq n C b g_12 := by
        rcases p_12.2.2 with ⟨h1, h2, h3⟩ | ⟨h1, h2, h3⟩
        · rw [h2] at c_15; exact absurd c_15 (by decide)
        · exact ⟨h1, h3⟩
      exact Jrz dX12_readCond_38 rfl (by decide) (Nat.zero_le _) (Nat.zero_le _) (RXi.of (by rw [hr, pLoop_no hs.1]; exact PM.mkY (hfr.B p_12.1) hs.2 (hS.2.1.B p_12.1) ((p_12.1.1 63 9 rfl).trans hd)))
    · have hs : obWrd n C b = 12 ∧ MLq n C (obNxt n C b) g_12 := by
        rcases p_12.2.2 with ⟨h1, h2, h3⟩ | ⟨h1, h2, h3⟩
        · exact ⟨h1, h3⟩
        · exact absurd h2 c_15
      have hbn : b < n := (wrd_in (by decide) hs.1).1
      have hnx := obNxt_le n C b hbn
      have hn4 := hS.1.le.2.1
      have hS2 : RSt n C (obNxt n C b) cs rl g_12 := ⟨hs.2, hS.2.1.B p_12.1, (p_12.1.1 63 13 rfl).trans hS.2.2⟩
      have hd1 : gF g_12 63 9 = gF g0 63 9 := (p_12.1.1 63 9 rfl).trans hd
      have hd2 : gF g_12 63 9 = nI (6 - d) := hd1.trans hd0
      refine J_aload_n (nx := 19) dX12_readCond_18 rfl rfl ?_
      refine JiV0 (R' := rm ((9 + 3 * d)) 0 0) (nx := 22) dX12_readCond_19 rfl ml_X12_readAllOf lk_X12_180 iv_X12_readAllOf rfl rfl (rm_room (by omega) (by decide)) (Nat.le_of_ble_eq_true rfl) ⟨rfl, rfl⟩ (hI g_12 (obNxt n C b) cs hS2 (by omega) hd2) (fun x_19 g_19 p_19 => ?_)
      refine J_if_ne (nx := 25) (tgt := 27) dX12_readCond_22 rfl (by decide) (fun c_22 => ?_) (fun c_22 => ?_)
      · obtain ⟨q, he, hq1, hq2, hq3, hf⟩ := p_19.yes c_22
        have hok := pAll_ok (obT_ok n C hn4) rl d (obNxt n C b) cs hnx.2
        rw [he] at hok
        obtain ⟨hk1, hk2, hk3⟩ := (show obNxt n C b < q.1 ∧ q.1 ≤ n ∧ q.2.length + obNxt n C b ≤ q.1 + cs.length from hok)
        refine J_aload_n (nx := 28) dX12_readCond_27 rfl rfl ?_
        refine J_bipush (nx := 30) (i := 14) (v := 14) (by decide) dX12_readCond_28 rfl ?_
        refine J_iconst (nx := 31) (i := 0) (v := 0) (by decide) dX12_readCond_30 rfl ?_
        refine JcV2 (R' := rm (1) 0 0) (nx := 34) dX12_readCond_31 rfl ml_X12_emits lk_X12_144 iv_X12_emits rfl rfl (rm_room (by omega) (by decide)) (Nat.le_of_ble_eq_true rfl) ⟨rfl, rfl⟩ (ct_m_emits g_19 q.2.length hq2.1 (by omega) _ _) ?_
        refine J_goto (nx := 9) dX12_readCond_34 (by decide) ?_
        refine ih q.1 (q.2 ++ [10015]) _ r (by omega) ⟨hq1.em, hq2.em2 (by decide) (by decide), (hf.1.1 63 13 rfl).trans hS2.2.2⟩ (by rw [List.length_append]; show q.2.length + 1 < _; omega) (((hfr.B p_12.1).tr hf).em) (hq3.trans hd1) ?_
        rw [hr, pLoop_y hs.1 he]
      · refine J_iconst (nx := 26) (i := 0) (v := 0) (by decide) dX12_readCond_25 rfl ?_
        obtain ⟨e, he, hb, hf⟩ := p_19.no c_22
        exact Jrz dX12_readCond_26 rfl (by decide) (Nat.zero_le _) (Nat.zero_le _) (RXi.of (by rw [hr, pLoop_e hs.1 he]; exact PM.mkN ((hfr.B p_12.1).tr hf) hb))

set_option maxRecDepth 100000 in
set_option maxHeartbeats 4000000 in
theorem ct_m_readCond (n : Nat) (C : Nat → Int32) (rl : Bool) (d : Nat) (hI : ∀ (g : GS) (b : Nat) (cs : List Int32), RSt n C b cs rl g → cs.length < b → gF g 63 9 = nI (6 - d) → Ct mX12_readAllOf (rm (9 + 3 * d) 0 0) [.ref 63] (Wd g) (RXi (PM n C g (pAll (obT n C) rl d b cs)))) (g : GS) (b : Nat) (cs : List Int32) (hS : RSt n C b cs rl g) (hl : cs.length < b) (hd : gF g 63 9 = nI (6 - d)) : Ct mX12_readCond (rm (10 + 3 * d) 0 0) [.ref 63] (Wd g) (RXi (PM n C g (pCond (obT n C) rl d b cs))) := by
  refine Ct.of (by decide +kernel) (Nat.le_of_ble_eq_true rfl) ?_
  show J _ _ _ _ 0 [some (.ref 63)] [] _ 0 0
  have hbn := hS.1.le
  refine J_aload_n (nx := 1) dX12_readCond_0 rfl rfl ?_
  refine JiV0 (R' := rm ((9 + 3 * d)) 0 0) (nx := 4) dX12_readCond_1 rfl ml_X12_readAllOf lk_X12_180 iv_X12_readAllOf rfl rfl (rm_room (by omega) (by decide)) (Nat.le_of_ble_eq_true rfl) ⟨rfl, rfl⟩ (hI g b cs hS hl hd) (fun x_1 g_1 p_1 => ?_)
  refine J_if_ne (nx := 7) (tgt := 9) dX12_readCond_4 rfl (by decide) (fun c_4 => ?_) (fun c_4 => ?_)
  · obtain ⟨q, he, hq1, hq2, hq3, hf⟩ := p_1.yes c_4
    have hok := pAll_ok (obT_ok n C hbn.2.1) rl d b cs hbn.1
    rw [he] at hok
    obtain ⟨hk1, hk2, hk3⟩ := (show b < q.1 ∧ q.1 ≤ n ∧ q.2.length + b ≤ q.1 + cs.length from hok)
    exact lp_m_readCond n C rl d hI g hd _ 400 q.1 q.2 g_1 _ (by omega) ⟨hq1, hq2, (hf.1.1 63 13 rfl).trans hS.2.2⟩ (by omega) hf hq3 (show pCond (obT n C) rl d b cs = _ from pSeq_y he)
  · refine J_iconst (nx := 8) (i := 0) (v := 0) (by decide) dX12_readCond_7 rfl ?_
    obtain ⟨e, he, hb, hf⟩ := p_1.no c_4
    exact Jrz dX12_readCond_8 rfl (by decide) (Nat.zero_le _) (Nat.zero_le _) (RXi.of (by rw [show pCond (obT n C) rl d b cs = .inl e from pSeq_e he]; exact PM.mkN hf hb))

theorem pBase_s {n : Nat} {C : Nat → Int32} {rl : Bool} {b : Nat} {cs : List Int32} (h : ¬ (¬ bI rl = 0 ∧ obWrd n C b = 15)) : pBase (obT n C) rl b cs = (match pSum (obT n C) rl b cs with
  | .inl e => .inl e
  | .inr q => if obSgn n C q.1 = 60 then (match pSum (obT n C) rl (obNxt n C q.1) q.2 with
    | .inl e => .inl e
    | .inr r => .inr (r.1, r.2 ++ [10011])) else if obSgn n C q.1 = 62 then (match pSum (obT n C) rl (obNxt n C q.1) q.2 with
    | .inl e => .inl e
    | .inr r => .inr (r.1, r.2 ++ [10012])) else .inl q.1) := if_neg h
theorem pSum_lt {n : Nat} {C : Nat → Int32} {rl : Bool} {b : Nat} {cs : List Int32} {q : Nat × List Int32} (hn : n ≤ 400) (hb : b ≤ n) (h : pSum (obT n C) rl b cs = .inr q) : b < q.1 ∧ q.1 ≤ n ∧ q.2.length + b ≤ q.1 + cs.length := by
  have hok := pSum_ok (obT_ok n C hn) rl b cs hb
  rw [h] at hok
  exact hok
set_option maxRecDepth 100000 in
set_option maxHeartbeats 4000000 in
theorem sg_m_atS (n0 : Nat) (D : Nat) (hD : 8 ≤ D) (n : Nat) (C : Nat → Int32) (rl : Bool) (g0 g : GS) (b : Nat) (cs : List Int32) (hS : RSt n C b cs rl g) (hl : cs.length < b) (hfr : RFr g0 g) (hd : gF g 63 9 = gF g0 63 9) (hno : ¬ (¬ bI rl = 0 ∧ obWrd n C b = 15)) (r : PR) (hr : r = pBase (obT n C) rl b cs) : J mX12_readAtom (rm D 0 0) (RXi (PM n C g0 r)) n0 140 [some (.ref 63), none] [] (Wd g) 0 0 := by
  have hbn := hS.1.le
  refine J_aload_n (nx := 141) dX12_readAtom_140 rfl rfl ?_
  refine JiV0 (R' := rm (7) 0 0) (nx := 144) dX12_readAtom_141 rfl ml_X12_readSum lk_X12_175 iv_X12_readSum rfl rfl (rm_room (by omega) (by decide)) (Nat.le_of_ble_eq_true rfl) ⟨rfl, rfl⟩ (ct_m_readSum g n C b cs rl hS hl) (fun x_141 g_141 p_141 => ?_)
  refine J_if_ne (nx := 147) (tgt := 149) dX12_readAtom_144 rfl (by decide) (fun c_144 => ?_) (fun c_144 => ?_)
  · obtain ⟨q, he, hq1, hq2, hq3, hf⟩ := p_141.yes c_144
    have hlt := pSum_lt hbn.2.1 hbn.1 he
    have hd1 := hq3.trans hd
    refine J_aload_n (nx := 150) dX12_readAtom_149 rfl rfl ?_
    refine J_bipush (nx := 152) (i := 60) (v := 60) (by decide) dX12_readAtom_150 rfl ?_
    refine JiV1 (R' := rm (2) 0 0) (nx := 155) dX12_readAtom_152 rfl ml_X12_sign lk_X12_155 iv_X12_sign rfl rfl (rm_room (by omega) (by decide)) (Nat.le_of_ble_eq_true rfl) ⟨rfl, rfl⟩ (ct_m_sign g_141 n C q.1 hq1 60 (by decide) (by decide) (by decide)) (fun x_152 g_152 p_152 => ?_)
    refine J_istore_n (nx := 156) dX12_readAtom_155 rfl rfl (Nat.le_of_ble_eq_true rfl) ?_
    refine J_iload_n (nx := 157) dX12_readAtom_156 rfl rfl ?_
    refine J_if_ne (nx := 160) (tgt := 169) dX12_readAtom_157 rfl (by decide) (fun c_157 => ?_) (fun c_157 => ?_)
    · have hm : obSgn n C q.1 = 60 ∧ MLq n C (obNxt n C q.1) g_152 := by
        rcases p_152.2.2 with ⟨h1, h2, h3⟩ | ⟨h1, h2, h3⟩
        · exact ⟨h1, h3⟩
        · exact absurd h2 c_157
      have hqn : q.1 < n := (sgn_in (by decide) hm.1).1
      have hnx := obNxt_le n C q.1 hqn
      have hS2 : RSt n C (obNxt n C q.1) q.2 rl g_152 := ⟨hm.2, hq2.B p_152.1, (p_152.1.1 63 13 rfl).trans ((hf.1.1 63 13 rfl).trans hS.2.2)⟩
      refine J_aload_n (nx := 170) dX12_readAtom_169 rfl rfl ?_
      refine JiV0 (R' := rm (7) 0 0) (nx := 173) dX12_readAtom_170 rfl ml_X12_readSum lk_X12_175 iv_X12_readSum rfl rfl (rm_room (by omega) (by decide)) (Nat.le_of_ble_eq_true rfl) ⟨rfl, rfl⟩ (ct_m_readSum g_152 n C (obNxt n C q.1) q.2 rl hS2 (by omega)) (fun x_170 g_170 p_170 => ?_)
      refine J_if_ne (nx := 176) (tgt := 178) dX12_readAtom_173 rfl (by decide) (fun c_173 => ?_) (fun c_173 => ?_)
      · obtain ⟨q2, he2, hq21, hq22, hq23, hf2⟩ := p_170.yes c_173
        have hlt2 := pSum_lt hbn.2.1 hnx.2 he2
        refine J_aload_n (nx := 179) dX12_readAtom_178 rfl rfl ?_
        refine J_iload_n (nx := 180) dX12_readAtom_179 rfl rfl ?_
        refine J_if_eq (nx := 183) (tgt := 188) dX12_readAtom_180 rfl (by decide) (fun c_180 => ?_) (fun c_180 => ?_)
        · exact absurd c_180 c_157
        · refine J_bipush (nx := 185) (i := 10) (v := 10) (by decide) dX12_readAtom_183 rfl ?_
          refine J_goto (nx := 190) dX12_readAtom_185 (by decide) ?_
          refine J_iconst (nx := 191) (i := 0) (v := 0) (by decide) dX12_readAtom_190 rfl ?_
          refine JcV2 (R' := rm (1) 0 0) (nx := 194) dX12_readAtom_191 rfl ml_X12_emits lk_X12_144 iv_X12_emits rfl rfl (rm_room (by omega) (by decide)) (Nat.le_of_ble_eq_true rfl) ⟨rfl, rfl⟩ (ct_m_emits g_170 q2.2.length hq22.1 (by omega) 10 0) ?_
          refine J_iconst (nx := 195) (i := 1) (v := 1) (by decide) dX12_readAtom_194 rfl ?_
          exact Jrz dX12_readAtom_195 rfl (by decide) (Nat.zero_le _) (Nat.zero_le _) (RXi.of (by rw [hr, pBase_s hno, he]; show PM n C g0 (if obSgn n C q.1 = 60 then _ else _) 1 _; rw [if_pos hm.1, he2]; exact PM.mkY ((((hfr.tr hf).B p_152.1).tr hf2).em) hq21.em (hq22.em2 (by decide) (by decide)) (hq23.trans ((p_152.1.1 63 9 rfl).trans hd1))))
      · refine J_iconst (nx := 177) (i := 0) (v := 0) (by decide) dX12_readAtom_176 rfl ?_
        obtain ⟨e, he2, hb, hf2⟩ := p_170.no c_173
        exact Jrz dX12_readAtom_177 rfl (by decide) (Nat.zero_le _) (Nat.zero_le _) (RXi.of (by rw [hr, pBase_s hno, he]; show PM n C g0 (if obSgn n C q.1 = 60 then _ else _) 0 _; rw [if_pos hm.1, he2]; exact PM.mkN (((hfr.tr hf).B p_152.1).tr hf2) hb))
    · have hm0 : ¬ obSgn n C q.1 = 60 ∧ MLq n C q.1 g_152 := by
        rcases p_152.2.2 with ⟨h1, h2, h3⟩ | ⟨h1, h2, h3⟩
        · rw [h2] at c_157; exact absurd c_157 (by decide)
        · exact ⟨h1, h3⟩
      refine J_aload_n (nx := 161) dX12_readAtom_160 rfl rfl ?_
      refine J_bipush (nx := 163) (i := 62) (v := 62) (by decide) dX12_readAtom_161 rfl ?_
      refine JiV1 (R' := rm (2) 0 0) (nx := 166) dX12_readAtom_163 rfl ml_X12_sign lk_X12_155 iv_X12_sign rfl rfl (rm_room (by omega) (by decide)) (Nat.le_of_ble_eq_true rfl) ⟨rfl, rfl⟩ (ct_m_sign g_152 n C q.1 hm0.2 62 (by decide) (by decide) (by decide)) (fun x_163 g_163 p_163 => ?_)
      refine J_if_eq (nx := 169) (tgt := 176) dX12_readAtom_166 rfl (by decide) (fun c_166 => ?_) (fun c_166 => ?_)
      · refine J_iconst (nx := 177) (i := 0) (v := 0) (by decide) dX12_readAtom_176 rfl ?_
        have hm1 : ¬ obSgn n C q.1 = 62 ∧ MLq n C q.1 g_163 := by
          rcases p_163.2.2 with ⟨h1, h2, h3⟩ | ⟨h1, h2, h3⟩
          · rw [h2] at c_166; exact absurd c_166 (by decide)
          · exact ⟨h1, h3⟩
        exact Jrz dX12_readAtom_177 rfl (by decide) (Nat.zero_le _) (Nat.zero_le _) (RXi.of (by rw [hr, pBase_s hno, he]; show PM n C g0 (if obSgn n C q.1 = 60 then _ else _) 0 _; rw [if_neg hm0.1, if_neg hm1.1]; exact PM.mkN (((hfr.tr hf).B p_152.1).B p_163.1) p_163.2.1))
      · have hm : obSgn n C q.1 = 62 ∧ MLq n C (obNxt n C q.1) g_163 := by
          rcases p_163.2.2 with ⟨h1, h2, h3⟩ | ⟨h1, h2, h3⟩
          · exact ⟨h1, h3⟩
          · exact absurd h2 c_166
        have hqn : q.1 < n := (sgn_in (by decide) hm.1).1
        have hnx := obNxt_le n C q.1 hqn
        have hS2 : RSt n C (obNxt n C q.1) q.2 rl g_163 := ⟨hm.2, (hq2.B p_152.1).B p_163.1, (p_163.1.1 63 13 rfl).trans ((p_152.1.1 63 13 rfl).trans ((hf.1.1 63 13 rfl).trans hS.2.2))⟩
        refine J_aload_n (nx := 170) dX12_readAtom_169 rfl rfl ?_
        refine JiV0 (R' := rm (7) 0 0) (nx := 173) dX12_readAtom_170 rfl ml_X12_readSum lk_X12_175 iv_X12_readSum rfl rfl (rm_room (by omega) (by decide)) (Nat.le_of_ble_eq_true rfl) ⟨rfl, rfl⟩ (ct_m_readSum g_163 n C (obNxt n C q.1) q.2 rl hS2 (by omega)) (fun x_170 g_170 p_170 => ?_)
        refine J_if_ne (nx := 176) (tgt := 178) dX12_readAtom_173 rfl (by decide) (fun c_173 => ?_) (fun c_173 => ?_)
        · obtain ⟨q2, he2, hq21, hq22, hq23, hf2⟩ := p_170.yes c_173
          have hlt2 := pSum_lt hbn.2.1 hnx.2 he2
          refine J_aload_n (nx := 179) dX12_readAtom_178 rfl rfl ?_
          refine J_iload_n (nx := 180) dX12_readAtom_179 rfl rfl ?_
          refine J_if_eq (nx := 183) (tgt := 188) dX12_readAtom_180 rfl (by decide) (fun c_180 => ?_) (fun c_180 => ?_)
          · refine J_bipush (nx := 190) (i := 11) (v := 11) (by decide) dX12_readAtom_188 rfl ?_
            refine J_iconst (nx := 191) (i := 0) (v := 0) (by decide) dX12_readAtom_190 rfl ?_
            refine JcV2 (R' := rm (1) 0 0) (nx := 194) dX12_readAtom_191 rfl ml_X12_emits lk_X12_144 iv_X12_emits rfl rfl (rm_room (by omega) (by decide)) (Nat.le_of_ble_eq_true rfl) ⟨rfl, rfl⟩ (ct_m_emits g_170 q2.2.length hq22.1 (by omega) 11 0) ?_
            refine J_iconst (nx := 195) (i := 1) (v := 1) (by decide) dX12_readAtom_194 rfl ?_
            exact Jrz dX12_readAtom_195 rfl (by decide) (Nat.zero_le _) (Nat.zero_le _) (RXi.of (by rw [hr, pBase_s hno, he]; show PM n C g0 (if obSgn n C q.1 = 60 then _ else _) 1 _; rw [if_neg hm0.1, if_pos hm.1, he2]; exact PM.mkY (((((hfr.tr hf).B p_152.1).B p_163.1).tr hf2).em) hq21.em (hq22.em2 (by decide) (by decide)) (hq23.trans (((p_163.1.1 63 9 rfl).trans (p_152.1.1 63 9 rfl)).trans hd1))))
          · exact absurd (by first | exact c_157 | exact Decidable.of_not_not c_157) c_180
        · refine J_iconst (nx := 177) (i := 0) (v := 0) (by decide) dX12_readAtom_176 rfl ?_
          obtain ⟨e, he2, hb, hf2⟩ := p_170.no c_173
          exact Jrz dX12_readAtom_177 rfl (by decide) (Nat.zero_le _) (Nat.zero_le _) (RXi.of (by rw [hr, pBase_s hno, he]; show PM n C g0 (if obSgn n C q.1 = 60 then _ else _) 0 _; rw [if_neg hm0.1, if_pos hm.1, he2]; exact PM.mkN ((((hfr.tr hf).B p_152.1).B p_163.1).tr hf2) hb))
  · refine J_iconst (nx := 148) (i := 0) (v := 0) (by decide) dX12_readAtom_147 rfl ?_
    obtain ⟨e, he, hb, hf⟩ := p_141.no c_144
    exact Jrz dX12_readAtom_148 rfl (by decide) (Nat.zero_le _) (Nat.zero_le _) (RXi.of (by rw [hr, pBase_s hno, he]; exact PM.mkN (hfr.tr hf) hb))

