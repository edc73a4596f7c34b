
/-! drafts of a game -/
def DrE (d d' : Dr) : Prop := (∀ i, i < 1088 → d.1 i = d'.1 i) ∧ (∀ z, z < 8 → d.2.1 z = d'.2.1 z) ∧ d.2.2 = d'.2.2
theorem upd_cg {f f' : Nat → Int32} {n i : Nat} {v : Int32} (h : ∀ j, j < n → f j = f' j) : ∀ j, j < n → upd f i v j = upd f' i v j := fun j hj => by
  by_cases c : j = i
  · subst c; rw [upd_here, upd_here]
  · rw [upd_other c, upd_other c]; exact h j hj
theorem apE_E {d d' : Dr} (h : DrE d d') (e : Ed) : DrE (apE e d) (apE e d') := by
  unfold apE
  split
  · exact ⟨upd_cg h.1, h.2.1, h.2.2⟩
  · exact ⟨h.1, upd_cg h.2.1, h.2.2⟩
  · exact ⟨h.1, h.2.1, rfl⟩
theorem pText_rel {α β : Type} {o : Ob} {line : Nat → α → Nat ⊕ (Nat × α)} {line' : Nat → β → Nat ⊕ (Nat × β)} {R : α → β → Prop} (hl : ∀ b s s', R s s' → (∃ e, line b s = .inl e ∧ line' b s' = .inl e) ∨ ∃ q r r', line b s = .inr (q, r) ∧ line' b s' = .inr (q, r') ∧ R r r') : ∀ (k b : Nat) (s : α) (s' : β), R s s' → (∃ e, pText o line k b s = .inl e ∧ pText o line' k b s' = .inl e) ∨ ∃ r r', pText o line k b s = .inr r ∧ pText o line' k b s' = .inr r' ∧ R r r'
  | 0, b, s, s', _ => Or.inl ⟨b, rfl, rfl⟩
  | k + 1, b, s, s', hR => by
    unfold pText
    rcases hl b s s' hR with ⟨e, h1, h2⟩ | ⟨q, r, r', h1, h2, h3⟩
    · rw [h1, h2]; exact Or.inl ⟨e, rfl, rfl⟩
    · rw [h1, h2]
      dsimp only
      by_cases c : oN o ≤ q
      · rw [if_pos c, if_pos c]; exact Or.inr ⟨r, r', rfl, rfl, h3⟩
      · rw [if_neg c, if_neg c]
        by_cases d : oSgn o q = 59
        · rw [if_pos d, if_pos d]; exact pText_rel hl k _ r r' h3
        · rw [if_neg d, if_neg d]; exact Or.inl ⟨q, rfl, rfl⟩
theorem gaLine_rel {o : Ob} (b : Nat) (d d' : Dr) (h : DrE d d') : (∃ e, gaLine o b d = .inl e ∧ gaLine o b d' = .inl e) ∨ ∃ q r r', gaLine o b d = .inr (q, r) ∧ gaLine o b d' = .inr (q, r') ∧ DrE r r' := by
  unfold gaLine
  cases pGame o b with
  | inl e => exact Or.inl ⟨e, rfl, rfl⟩
  | inr q => exact Or.inr ⟨q.1, _, _, rfl, rfl, apE_E h q.2⟩
theorem game_rel {n : Nat} {C B : Nat → Int32} (ht : TpE n C B) {d d' : Dr} (h : DrE d d') : (∃ e, pRead (obT n B) (gaLine (obT n B)) (sk n B 0) d = .inl e ∧ pRead (obT n C) (gaLine (obT n C)) (sk n C 0) d' = .inl e) ∨ ∃ r r', pRead (obT n B) (gaLine (obT n B)) (sk n B 0) d = .inr r ∧ pRead (obT n C) (gaLine (obT n C)) (sk n C 0) d' = .inr r' ∧ DrE r r' := by
  rw [pRead_eq (tape_eq ht) (gaLine_eq (tape_eq ht)), sk_cg ht]
  unfold pRead
  by_cases c : oN (obT n B) ≤ sk n B 0
  · rw [if_pos c, if_pos c]; exact Or.inr ⟨d, d', rfl, rfl, h⟩
  · rw [if_neg c, if_neg c]; exact pText_rel (fun b s s' hR => gaLine_rel b s s' hR) 12 _ d d' h
theorem rule_same {n : Nat} {C B : Nat → Int32} (ht : TpE n C B) : pRead (obT n C) (hdLine (pRule (obT n C))) (sk n C 0) ([], []) = pRead (obT n B) (hdLine (pRule (obT n B))) (sk n B 0) ([], []) := by
  rw [pRead_eq (tape_eq ht) (hdRule_eq (tape_eq ht)), sk_cg ht]
theorem goal_same {n : Nat} {C B : Nat → Int32} (ht : TpE n C B) : pRead (obT n C) (hdLine (pGoal (obT n C))) (sk n C 0) ([], []) = pRead (obT n B) (hdLine (pGoal (obT n B))) (sk n B 0) ([], []) := by
  rw [pRead_eq (tape_eq ht) (hdGoal_eq (tape_eq ht)), sk_cg ht]
/-! a draft in its bounds -/
def DrB (d : Dr) : Prop := (∀ i, i < 1088 → 0 ≤ (d.1 i).toInt ∧ (d.1 i).toInt ≤ 100) ∧ (∀ z, z < 8 → 0 ≤ (d.2.1 z).toInt ∧ (d.2.1 z).toInt ≤ 9999) ∧ 0 ≤ d.2.2.toInt ∧ d.2.2.toInt ≤ 10
def EdB (e : Ed) : Prop := (e.1 = 0 → e.2.1 < 1088 ∧ e.2.2 ≤ 100) ∧ (e.1 = 1 → e.2.1 < 8 ∧ e.2.2 ≤ 9999) ∧ (¬ e.1 = 0 → ¬ e.1 = 1 → e.2.2 ≤ 10)
theorem pGame_b {o : Ob} (ho : ObOK o) {b : Nat} {q : Nat × Ed} (h : pGame o b = .inr q) : EdB q.2 := by
  unfold pGame at h
  by_cases c1 : oWrd o b = 1
  · rw [if_pos c1] at h
    unfold pChance at h
    cases h1 : pState o (oNxt o b) with
    | inl e => rw [h1] at h; cases h
    | inr p =>
      rw [h1] at h
      dsimp only at h
      have s1 := (pState_ok ho h1).1
      unfold chT at h
      cases h2 : pWhat o p.1 with
      | inl e => rw [h2] at h; cases h
      | inr u =>
        rw [h2] at h
        dsimp only at h
        have s2 := (pWhat_ok ho h2).1
        cases h3 : pNum o u.1 100 with
        | inl e => rw [h3] at h; cases h
        | inr v =>
          rw [h3] at h
          cases h
          have s3 := (pNum_ok ho (by omega) h3).2.2.1
          exact ⟨fun _ => ⟨by show 34 * p.2 + u.2 < 1088; omega, s3⟩, (fun x => (by cases x)), fun x => absurd rfl x⟩
  · rw [if_neg c1] at h
    by_cases c2 : oWrd o b = 19
    · rw [if_pos c2] at h
      unfold pKick at h
      cases h1 : pNum o (oNxt o b) 7 with
      | inl e => rw [h1] at h; cases h
      | inr p =>
        rw [h1] at h
        dsimp only at h
        have s1 := (pNum_ok ho (by omega) h1).2.2.1
        cases h2 : pNum o p.1 9999 with
        | inl e => rw [h2] at h; cases h
        | inr v =>
          rw [h2] at h
          cases h
          have s2 := (pNum_ok ho (by omega) h2).2.2.1
          exact ⟨(fun x => (by cases x)), fun _ => ⟨by show p.2 < 8; omega, s2⟩, fun _ x => absurd rfl x⟩
    · rw [if_neg c2] at h
      by_cases c3 : oWrd o b = 5
      · rw [if_pos c3] at h
        unfold pGrace at h
        cases h1 : pNum o (oNxt o b) 10 with
        | inl e => rw [h1] at h; cases h
        | inr v =>
          rw [h1] at h
          cases h
          have s1 := (pNum_ok ho (by omega) h1).2.2.1
          exact ⟨(fun x => (by cases x)), (fun x => (by cases x)), fun _ _ => s1⟩
      · rw [if_neg c3] at h; cases h
/-- how many chances there are -/
def dW (d : Dr) : Nat → Int32 := fun i => d.1 (i - 18)
theorem czF_bump {f f' : Nat → Int} {a : Nat} : ∀ o, (∀ i, i < o → ¬ i = a → f' i = f i) → czF f' o ≤ czF f o + (if a < o then 1 else 0)
  | 0, _ => by rw [if_neg (by omega)]; exact Nat.le_refl _
  | o + 1, h => by
    have ih := czF_bump o (fun i hi hn => h i (by omega) hn)
    by_cases c : o = a
    · rw [if_neg (by omega)] at ih
      rw [if_pos (by omega)]
      show czF f' o + (if f' o ≤ 0 then 0 else 1) ≤ czF f o + (if f o ≤ 0 then 0 else 1) + 1
      split <;> omega
    · have e := h o (by omega) c
      show czF f' o + (if f' o ≤ 0 then 0 else 1) ≤ czF f o + (if f o ≤ 0 then 0 else 1) + (if a < o + 1 then 1 else 0)
      rw [e]
      by_cases d : a < o
      · rw [if_pos d] at ih
        rw [if_pos (show a < o + 1 by omega)]; omega
      · rw [if_neg d] at ih
        rw [if_neg (show ¬ a < o + 1 by omega)]; omega
theorem NZ_bump {W W' : Nat → Int32} {j : Nat} (h : ∀ i, 18 ≤ i → ¬ i = j → W' i = W i) : ∀ s, NZ W' s ≤ NZ W s + (if 18 ≤ j ∧ j < 18 + 34 * s then 1 else 0)
  | 0 => by rw [if_neg (by omega)]; exact Nat.le_refl _
  | s + 1 => by
    have ih := NZ_bump h s
    show NZ W' s + czF (zC W' s) 32 ≤ NZ W s + czF (zC W s) 32 + _
    by_cases c : 18 ≤ j ∧ j < 18 + 34 * s
    · rw [if_pos c] at ih
      rw [if_pos (by omega)]
      have e : czF (zC W' s) 32 = czF (zC W s) 32 := czF_cg 32 (fun i hi => by unfold zC zW; rw [h _ (by omega) (by omega)])
      omega
    · rw [if_neg c] at ih
      by_cases d : 18 ≤ j ∧ j < 18 + 34 * (s + 1)
      · rw [if_pos d]
        have e := czF_bump (f := zC W s) (f' := zC W' s) (a := j - 18 - 34 * s) 32 (fun i hi hn => by unfold zC zW; rw [h _ (by omega) (by omega)])
        split at e <;> omega
      · rw [if_neg d]
        have e : czF (zC W' s) 32 = czF (zC W s) 32 := czF_cg 32 (fun i hi => by unfold zC zW; rw [h _ (by omega) (by omega)])
        omega
theorem apE_nz {d : Dr} (e : Ed) : NZ (dW (apE e d)) 32 ≤ NZ (dW d) 32 + 1 := by
  unfold apE
  split
  · have := NZ_bump (W := dW d) (W' := dW (upd d.1 e.2.1 (nI e.2.2), d.2.1, d.2.2)) (j := e.2.1 + 18) (fun i h1 h2 => by
      show upd d.1 e.2.1 (nI e.2.2) (i - 18) = d.1 (i - 18)
      exact upd_other (by omega)) 32
    split at this <;> omega
  · exact Nat.le_succ _
  · exact Nat.le_succ _
theorem apE_b {d : Dr} (h : DrB d) {e : Ed} (he : EdB e) : DrB (apE e d) := by
  obtain ⟨h1, h2, h3⟩ := h
  obtain ⟨e1, e2, e3⟩ := he
  unfold apE
  split
  · rename_i c
    obtain ⟨a1, a2⟩ := e1 c
    refine ⟨fun i hi => ?_, h2, h3⟩
    show 0 ≤ (upd d.1 e.2.1 (nI e.2.2) i).toInt ∧ (upd d.1 e.2.1 (nI e.2.2) i).toInt ≤ 100
    by_cases x : i = e.2.1
    · rw [x, upd_here, nI_toInt (by omega)]; omega
    · rw [upd_other x]; exact h1 i hi
  · rename_i c
    obtain ⟨a1, a2⟩ := e2 c
    refine ⟨h1, fun i hi => ?_, h3⟩
    show 0 ≤ (upd d.2.1 e.2.1 (nI e.2.2) i).toInt ∧ (upd d.2.1 e.2.1 (nI e.2.2) i).toInt ≤ 9999
    by_cases x : i = e.2.1
    · rw [x, upd_here, nI_toInt (by omega)]; omega
    · rw [upd_other x]; exact h2 i hi
  · rename_i c d
    have a2 := e3 c d
    refine ⟨h1, h2, ?_⟩
    show 0 ≤ (nI e.2.2).toInt ∧ (nI e.2.2).toInt ≤ 10
    rw [nI_toInt (by omega)]; omega
theorem pText_cnt {α : Type} {o : Ob} {line : Nat → α → Nat ⊕ (Nat × α)} {m : α → Nat} (hl : ∀ b s q, line b s = .inr q → m q.2 ≤ m s + 1) : ∀ (k b : Nat) (s r : α), pText o line k b s = .inr r → m r ≤ m s + k
  | 0, b, s, r, h => by cases h
  | k + 1, b, s, r, h => by
    unfold pText at h
    cases h1 : line b s with
    | inl e => rw [h1] at h; cases h
    | inr q =>
      rw [h1] at h
      dsimp only at h
      have hq := hl b s q h1
      by_cases c : oN o ≤ q.1
      · rw [if_pos c] at h; cases h; omega
      · rw [if_neg c] at h
        by_cases d : oSgn o q.1 = 59
        · rw [if_pos d] at h
          have := pText_cnt hl k _ _ r h
          omega
        · rw [if_neg d] at h; cases h
theorem game_b {o : Ob} (ho : ObOK o) {b : Nat} {d r : Dr} (hd : DrB d) (h : pRead o (gaLine o) b d = .inr r) : DrB r ∧ NZ (dW r) 32 ≤ NZ (dW d) 32 + 12 := by
  constructor
  · refine pRead_inv (P := DrB) (fun b s q hs hq => ?_) hd h
    unfold gaLine at hq
    cases h1 : pGame o b with
    | inl e => rw [h1] at hq; cases hq
    | inr p => rw [h1] at hq; cases hq; exact apE_b hs (pGame_b ho h1)
  · unfold pRead at h
    by_cases c : oN o ≤ b
    · rw [if_pos c] at h; cases h; omega
    · rw [if_neg c] at h
      refine pText_cnt (m := fun d => NZ (dW d) 32) (fun b s q hq => ?_) 12 b d r h
      unfold gaLine at hq
      cases h1 : pGame o b with
      | inl e => rw [h1] at hq; cases hq
      | inr p => rw [h1] at hq; cases hq; exact apE_nz p.2
/-! sums of a draft -/
theorem drS_z {d d' : Dr} (h : DrE d d') {s : Nat} (hs : s < 32) : drS d.1 s = gmS d'.1 s := by
  unfold drS gmS
  refine sIc 34 (fun k hk => ?_)
  rw [i34, rAt_in (by omega) (by omega)]
  exact h.1 _ (by omega)
theorem drK_z {f : Nat → Int32} : ∀ (k s : Nat), s + k = 32 → (drK f k s = true ↔ ∀ q, s ≤ q → q < 32 → drS f q ≤ 100)
  | 0, s, h => ⟨fun _ q a b => by omega, fun _ => rfl⟩
  | k + 1, s, h => by
    unfold drK
    by_cases c : drS f s ≤ 100
    · rw [if_pos c, drK_z k (s + 1) (by omega)]
      constructor
      · intro x q a b
        by_cases e : q = s
        · rw [e]; exact c
        · exact x q (by omega) b
      · intro x q a b; exact x q (by omega) b
    · rw [if_neg c]
      constructor
      · intro x; cases x
      · intro x; exact absurd (x s (Nat.le_refl _) (by omega)) c
theorem gmS_z {d : Dr} (h : DrB d) {s : Nat} (hs : s < 32) : gmS d.1 s = zI (zS (fun k => (d.1 (34 * s + k)).toInt) 34) ∧ 0 ≤ zS (fun k => (d.1 (34 * s + k)).toInt) 34 ∧ zS (fun k => (d.1 (34 * s + k)).toInt) 34 ≤ 3400 := by
  refine ⟨sI_z 34 (fun k _ => (zI_of _).symm), zS_nn 34 (fun k hk => (h.1 _ (by omega)).1), ?_⟩
  have := zS_bd (f := fun k => (d.1 (34 * s + k)).toInt) (c := 100) 34 (fun k hk => (h.1 _ (by omega)).2)
  omega
theorem gm_CB {d : Dr} (h : DrB d) (h2 : ∀ q, q < 32 → gmS d.1 q ≤ 100) : CB (dW d) := by
  intro s hs
  obtain ⟨g1, g2, g3⟩ := gmS_z h hs
  have e : ∀ k, zC (dW d) s k = (d.1 (34 * s + k)).toInt := fun k => by
    unfold zC zW dW
    rw [show 18 + 34 * s + k - 18 = 34 * s + k by omega]
  refine ⟨fun k hk => by rw [e]; exact (h.1 _ (by omega)).1, ?_⟩
  rw [zS_congr 34 (fun k _ => e k)]
  have := h2 s hs
  rw [g1] at this
  have := (zI_le (b := 100) (by omega) (by omega) (by omega) (by omega)).mp this
  exact this
