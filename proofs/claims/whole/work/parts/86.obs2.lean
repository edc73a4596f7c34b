
/-! two tapes that show the same -/
def sgC (c : Int32) : Bool := decide (c = 40) || decide (c = 41) || decide (c = 42) || decide (c = 43) || decide (c = 59) || decide (c = 60) || decide (c = 62)
def ObEq (o o' : Ob) : Prop := oN o = oN o' ∧ (∀ b, oNum o b = oNum o' b) ∧ (∀ b, oWrd o b = oWrd o' b) ∧ (∀ b, oNxt o b = oNxt o' b) ∧ ∀ b c, sgC c = true → (oSgn o b = c ↔ oSgn o' b = c)
theorem ite_iff {α : Type} {p q : Prop} [Decidable p] [Decidable q] (h : p ↔ q) (a b : α) : (if p then a else b) = (if q then a else b) := by
  by_cases c : p
  · rw [if_pos c, if_pos (h.mp c)]
  · rw [if_neg c, if_neg (fun z => c (h.mpr z))]
theorem pFact_eq {o o' : Ob} (h : ObEq o o') (rl : Bool) (b : Nat) : pFact o rl b = pFact o' rl b := by unfold pFact; rw [h.2.2.1 b]
theorem pCell_eq {o o' : Ob} (h : ObEq o o') (rl : Bool) (b : Nat) : pCell o rl b = pCell o' rl b := by unfold pCell; rw [pFact_eq h, h.2.1 b]
theorem pSumL_eq {o o' : Ob} (h : ObEq o o') (rl : Bool) : ∀ (k n b : Nat) (cs : List Int32), pSumL o rl k n b cs = pSumL o' rl k n b cs := by
  intro k
  induction k with
  | zero => intro n b cs; rfl
  | succ k ih =>
    intro n b cs
    unfold pSumL
    rw [pCell_eq h, h.2.2.2.1 b, h.2.2.2.1 (oNxt o' b), ih, ite_iff (h.2.2.2.2 (oNxt o' b) 43 (by decide))]
theorem pSum_eq {o o' : Ob} (h : ObEq o o') (rl : Bool) (b : Nat) (cs : List Int32) : pSum o rl b cs = pSum o' rl b cs := pSumL_eq h rl 400 0 b cs
theorem pLoop_eq {o o' : Ob} (h : ObEq o o') {item item' : Nat → List Int32 → PR} (hi : ∀ b cs, item b cs = item' b cs) (w : Nat) (op : Int32) : ∀ (k b : Nat) (cs : List Int32), pLoop o item w op k b cs = pLoop o' item' w op k b cs := by
  intro k
  induction k with
  | zero => intro b cs; rfl
  | succ k ih =>
    intro b cs
    unfold pLoop
    rw [h.2.2.1 b, h.2.2.2.1 b, hi]
    cases item' (oNxt o' b) cs with
    | inl e => rfl
    | inr q => dsimp only; rw [ih]
theorem pSeq_eq {o o' : Ob} (h : ObEq o o') {item item' : Nat → List Int32 → PR} (hi : ∀ b cs, item b cs = item' b cs) (w : Nat) (op : Int32) (b : Nat) (cs : List Int32) : pSeq o item w op b cs = pSeq o' item' w op b cs := by
  unfold pSeq
  rw [hi]
  cases item' b cs with
  | inl e => rfl
  | inr q => dsimp only; rw [pLoop_eq h hi]
theorem pBase_eq {o o' : Ob} (h : ObEq o o') (rl : Bool) (b : Nat) (cs : List Int32) : pBase o rl b cs = pBase o' rl b cs := by
  unfold pBase
  rw [h.2.2.1 b, h.2.2.2.1 b, pSum_eq h]
  cases pSum o' rl b cs with
  | inl e => rfl
  | inr q =>
    dsimp only
    rw [h.2.2.2.1 q.1, pSum_eq h, ite_iff (h.2.2.2.2 q.1 60 (by decide)), ite_iff (h.2.2.2.2 q.1 62 (by decide))]
theorem pAtom_eq {o o' : Ob} (h : ObEq o o') (rl : Bool) : ∀ (d b : Nat) (cs : List Int32), pAtom o rl d b cs = pAtom o' rl d b cs := by
  intro d
  induction d with
  | zero =>
    intro b cs
    unfold pAtom
    rw [h.2.2.1 b, pBase_eq h, ite_iff (h.2.2.2.2 b 40 (by decide))]
  | succ d ih =>
    intro b cs
    unfold pAtom
    rw [h.2.2.1 b, h.2.2.2.1 b, pBase_eq h, ite_iff (h.2.2.2.2 b 40 (by decide)), ih, pSeq_eq h (fun b cs => pSeq_eq h ih 13 10014 b cs) 12 10015]
    cases pSeq o' (pSeq o' (pAtom o' rl d) 13 10014) 12 10015 (oNxt o' b) cs with
    | inl e => rfl
    | inr q => dsimp only; rw [h.2.2.2.1 q.1, ite_iff (h.2.2.2.2 q.1 41 (by decide))]
theorem pCond_eq {o o' : Ob} (h : ObEq o o') (rl : Bool) (d b : Nat) (cs : List Int32) : pCond o rl d b cs = pCond o' rl d b cs :=
  pSeq_eq h (fun b cs => pSeq_eq h (pAtom_eq h rl d) 13 10014 b cs) 12 10015 b cs

