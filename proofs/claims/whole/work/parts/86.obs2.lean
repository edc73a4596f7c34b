
/-! two tapes that show the same -/
def sgC (c : Int32) : Bool := decide (c = 40) || decide (c = 41) || decide (c = 42) || decide (c = 43) || decide (c = 59) || decide (c = 60) || decide (c = 62)
def ObEq (o o' : Ob) : Prop := oN o = oN o' ∧ (∀ b, oNum o b = oNum o' b) ∧ (∀ b, oWrd o b = oWrd o' b) ∧ (∀ b, oNxt o b = oNxt o' b) ∧ ∀ b c, sgC c = true → (oSgn o b = c ↔ oSgn o' b = c)
theorem ite_iff {α : Type} {p q : Prop} [Decidable p] [Decidable q] (h : p ↔ q) (a b : α) : (if p then a else b) = (if q then a else b) := by
  by_cases c : p
  · rw [if_pos c, if_pos (h.mp c)]
  · rw [if_neg c, if_neg (fun z => c (h.mpr z))]
theorem pFact_eq {o o' : Ob} (h : ObEq o o') (rl : Bool) (b : Nat) : pFact o rl b = pFact o' rl b := by unfold pFact; rw [h.2.2.1 b]
theorem pCell_eq {o o' : Ob} (h : ObEq o o') (rl : Bool) (b : Nat) : pCell o rl b = pCell o' rl b := by unfold pCell; rw [pFact_eq h, h.2.1 b]
theorem pSumL_eq {o o' : Ob} (h : ObEq o o') (rl : Bool) : ∀ (k n b : Nat) (cs : List Int32), pSumL o rl k n b cs = pSumL o' rl k n b cs := by
  intro k
  induction k with
  | zero => intro n b cs; rfl
  | succ k ih =>
    intro n b cs
    unfold pSumL
    rw [pCell_eq h, h.2.2.2.1 b, h.2.2.2.1 (oNxt o' b), ih, ite_iff (h.2.2.2.2 (oNxt o' b) 43 (by decide))]
theorem pSum_eq {o o' : Ob} (h : ObEq o o') (rl : Bool) (b : Nat) (cs : List Int32) : pSum o rl b cs = pSum o' rl b cs := pSumL_eq h rl 400 0 b cs
theorem pLoop_eq {o o' : Ob} (h : ObEq o o') {item item' : Nat → List Int32 → PR} (hi : ∀ b cs, item b cs = item' b cs) (w : Nat) (op : Int32) : ∀ (k b : Nat) (cs : List Int32), pLoop o item w op k b cs = pLoop o' item' w op k b cs := by
  intro k
  induction k with
  | zero => intro b cs; rfl
  | succ k ih =>
    intro b cs
    unfold pLoop
    rw [h.2.2.1 b, h.2.2.2.1 b, hi]
    cases item' (oNxt o' b) cs with
    | inl e => rfl
    | inr q => dsimp only; rw [ih]
theorem pSeq_eq {o o' : Ob} (h : ObEq o o') {item item' : Nat → List Int32 → PR} (hi : ∀ b cs, item b cs = item' b cs) (w : Nat) (op : Int32) (b : Nat) (cs : List Int32) : pSeq o item w op b cs = pSeq o' item' w op b cs := by
  unfold pSeq
  rw [hi]
  cases item' b cs with
  | inl e => rfl
  | inr q => dsimp only; rw [pLoop_eq h hi]
theorem pBase_eq {o o' : Ob} (h : ObEq o o') (rl : Bool) (b : Nat) (cs : List Int32) : pBase o rl b cs = pBase o' rl b cs := by
  unfold pBase
  rw [h.2.2.1 b, h.2.2.2.1 b, pSum_eq h]
  cases pSum o' rl b cs with
  | inl e => rfl
  | inr q =>
    dsimp only
    rw [h.2.2.2.1 q.1, pSum_eq h, ite_iff (h.2.2.2.2 q.1 60 (by decide)), ite_iff (h.2.2.2.2 q.1 62 (by decide))]
theorem pAtom_eq {o o' : Ob} (h : ObEq o o') (rl : Bool) : ∀ (d b : Nat) (cs : List Int32), pAtom o rl d b cs = pAtom o' rl d b cs := by
  intro d
  induction d with
  | zero =>
    intro b cs
    unfold pAtom
    rw [h.2.2.1 b, pBase_eq h, ite_iff (h.2.2.2.2 b 40 (by decide))]
  | succ d ih =>
    intro b cs
    unfold pAtom
    rw [h.2.2.1 b, h.2.2.2.1 b, pBase_eq h, ite_iff (h.2.2.2.2 b 40 (by decide)), ih, pSeq_eq h (fun b cs => pSeq_eq h ih 13 10014 b cs) 12 10015]
    cases pSeq o' (pSeq o' (pAtom o' rl d) 13 10014) 12 10015 (oNxt o' b) cs with
    | inl e => rfl
    | inr q => dsimp only; rw [h.2.2.2.1 q.1, ite_iff (h.2.2.2.2 q.1 41 (by decide))]
theorem pCond_eq {o o' : Ob} (h : ObEq o o') (rl : Bool) (d b : Nat) (cs : List Int32) : pCond o rl d b cs = pCond o' rl d b cs :=
  pSeq_eq h (fun b cs => pSeq_eq h (pAtom_eq h rl d) 13 10014 b cs) 12 10015 b cs
theorem pNum_eq {o o' : Ob} (h : ObEq o o') (b most : Nat) : pNum o b most = pNum o' b most := by unfold pNum; rw [h.2.1 b, h.2.2.2.1 b]
theorem pState_eq {o o' : Ob} (h : ObEq o o') (b : Nat) : pState o b = pState o' b := by
  unfold pState
  rw [pNum_eq h]
  cases pNum o' b 7 with
  | inl e => rfl
  | inr q => dsimp only; rw [pNum_eq h]
theorem pWhat_eq {o o' : Ob} (h : ObEq o o') (b : Nat) : pWhat o b = pWhat o' b := by unfold pWhat; rw [h.2.2.1 b, h.2.2.2.1 b, pState_eq h]
theorem chT_eq {o o' : Ob} (h : ObEq o o') (s : Nat) (r : NR) : chT o s r = chT o' s r := by
  unfold chT
  cases r with
  | inl e => rfl
  | inr q => dsimp only; rw [pNum_eq h]
theorem pChance_eq {o o' : Ob} (h : ObEq o o') (b : Nat) : pChance o b = pChance o' b := by
  unfold pChance
  rw [pState_eq h]
  cases pState o' b with
  | inl e => rfl
  | inr q => dsimp only; rw [pWhat_eq h, chT_eq h]
theorem pKick_eq {o o' : Ob} (h : ObEq o o') (b : Nat) : pKick o b = pKick o' b := by
  unfold pKick
  rw [pNum_eq h]
  cases pNum o' b 7 with
  | inl e => rfl
  | inr q => dsimp only; rw [pNum_eq h]
theorem pGrace_eq {o o' : Ob} (h : ObEq o o') (b : Nat) : pGrace o b = pGrace o' b := by unfold pGrace; rw [pNum_eq h]
theorem pGame_eq {o o' : Ob} (h : ObEq o o') (b : Nat) : pGame o b = pGame o' b := by unfold pGame; rw [h.2.2.1 b, h.2.2.2.1 b, pChance_eq h, pKick_eq h, pGrace_eq h]
theorem pDeed_eq {o o' : Ob} (h : ObEq o o') (b : Nat) : pDeed o b = pDeed o' b := by unfold pDeed; rw [h.2.2.1 b]
theorem pRule_eq {o o' : Ob} (h : ObEq o o') (b : Nat) (cs : List Int32) : pRule o b cs = pRule o' b cs := by unfold pRule; rw [pDeed_eq h, h.2.2.2.1 b, h.2.2.1 (oNxt o' b), h.2.2.2.1 (oNxt o' b), pCond_eq h]
theorem pFac_eq {o o' : Ob} (h : ObEq o o') (b : Nat) : pFac o b = pFac o' b := by
  unfold pFac
  rw [h.2.2.2.1 b, pFact_eq h, h.2.2.2.1 (oNxt o' b), ite_iff (h.2.2.2.2 b 42 (by decide))]
theorem pIf_eq {o o' : Ob} (h : ObEq o o') (b : Nat) (cs : List Int32) : pIf o b cs = pIf o' b cs := by unfold pIf; rw [h.2.2.1 b, h.2.2.2.1 b, pCond_eq h]
theorem pGoal_eq {o o' : Ob} (h : ObEq o o') (b : Nat) (cs : List Int32) : pGoal o b cs = pGoal o' b cs := by
  unfold pGoal
  rw [h.2.2.1 b, h.2.2.2.1 b, pNum_eq h]
  cases pNum o' (oNxt o' b) 9999 with
  | inl e => rfl
  | inr q =>
    dsimp only
    rw [pFac_eq h]
    cases pFac o' q.1 with
    | inl e => rfl
    | inr u => dsimp only; rw [pIf_eq h]
theorem gaLine_eq {o o' : Ob} (h : ObEq o o') (b : Nat) (d : Dr) : gaLine o b d = gaLine o' b d := by unfold gaLine; rw [pGame_eq h]
theorem hdRule_eq {o o' : Ob} (h : ObEq o o') (b : Nat) (s : HC) : hdLine (pRule o) b s = hdLine (pRule o') b s := by unfold hdLine; rw [pRule_eq h]
theorem hdGoal_eq {o o' : Ob} (h : ObEq o o') (b : Nat) (s : HC) : hdLine (pGoal o) b s = hdLine (pGoal o') b s := by unfold hdLine; rw [pGoal_eq h]
theorem pText_eq {o o' : Ob} (h : ObEq o o') {α : Type} {line line' : Nat → α → Nat ⊕ (Nat × α)} (hl : ∀ b s, line b s = line' b s) : ∀ (k b : Nat) (s : α), pText o line k b s = pText o' line' k b s := by
  intro k
  induction k with
  | zero => intro b s; rfl
  | succ k ih =>
    intro b s
    unfold pText
    rw [hl]
    cases line' b s with
    | inl e => rfl
    | inr q => dsimp only; rw [h.1, h.2.2.2.1 q.1, ih, ite_iff (h.2.2.2.2 q.1 59 (by decide))]
theorem pRead_eq {o o' : Ob} (h : ObEq o o') {α : Type} {line line' : Nat → α → Nat ⊕ (Nat × α)} (hl : ∀ b s, line b s = line' b s) (b : Nat) (s : α) : pRead o line b s = pRead o' line' b s := by
  unfold pRead; rw [h.1, pText_eq h hl]

