
/-! what a copy of a Book leaves -/
def fBk (b c _ : Nat) : Bool := Nat.beq c b
def aBk (b c : Nat) : Bool := Nat.blt b c && Nat.ble c (b + 9)
theorem cpS_at (s d : Nat) (g : GS) (hsd : s ≠ d) : ∀ (n i : Nat), gP (itN (cpS s d) n g) d i = if i < n then gP g s i else gP g d i
  | 0, i => (if_neg (Nat.not_lt_zero i)).symm
  | n + 1, i => by
    have h1 : gP (itN (cpS s d) n g) s = gP g s := cpS_P s d s n hsd g
    rw [itN_s]
    show (bif Nat.beq d d then va_up (gP (itN (cpS s d) n g) d) n (gP (itN (cpS s d) n g) s n) else _) i = _
    rw [Nat.beq_refl, h1]
    show (if i = n then gP g s n else gP (itN (cpS s d) n g) d i) = _
    rw [cpS_at s d g hsd n i]
    by_cases h2 : i = n
    · subst h2; rw [if_pos rfl, if_pos (by omega)]
    · rw [if_neg h2]
      by_cases h3 : i < n
      · rw [if_pos h3, if_pos (by omega)]
      · rw [if_neg h3, if_neg (by omega)]
theorem bkC_20_8_F (g : GS) : gF (bkC 20 8 g) 8 8 = gF g 20 8 ∧ gF (bkC 20 8 g) 8 9 = gF g 20 9 ∧ gF (bkC 20 8 g) 8 10 = gF g 20 10 ∧ gF (bkC 20 8 g) 8 11 = gF g 20 11 ∧ gF (bkC 20 8 g) 8 12 = gF g 20 12 ∧ gF (bkC 20 8 g) 8 13 = gF g 20 13 ∧ gF (bkC 20 8 g) 8 14 = gF g 20 14 ∧ gF (bkC 20 8 g) 8 15 = gF g 20 15 ∧ gF (bkC 20 8 g) 8 16 = gF g 20 16 ∧ gF (bkC 20 8 g) 8 17 = gF g 20 17 := by
  unfold bkC bkB cF
  refine ⟨?_, ?_, ?_, ?_, ?_, ?_, ?_, ?_, ?_, ?_⟩
  · show gF (itN (cpS 29 17) 4 (bkA 20 8 g)) 20 8 = gF g 20 8; rw [cpS_F]; rfl
  · show gF (itN (cpS 29 17) 4 (bkA 20 8 g)) 20 9 = gF g 20 9; rw [cpS_F]; rfl
  · show gF (itN (cpS 29 17) 4 (bkA 20 8 g)) 20 10 = gF g 20 10; rw [cpS_F]; rfl
  · show gF (itN (cpS 29 17) 4 (bkA 20 8 g)) 20 11 = gF g 20 11; rw [cpS_F]; rfl
  · show gF (itN (cpS 29 17) 4 (bkA 20 8 g)) 20 12 = gF g 20 12; rw [cpS_F]; rfl
  · show gF (itN (cpS 29 17) 4 (bkA 20 8 g)) 20 13 = gF g 20 13; rw [cpS_F]; rfl
  · show gF (itN (cpS 29 17) 4 (bkA 20 8 g)) 20 14 = gF g 20 14; rw [cpS_F]; rfl
  · show gF (itN (cpS 29 17) 4 (bkA 20 8 g)) 20 15 = gF g 20 15; rw [cpS_F]; rfl
  · show gF (itN (cpS 29 17) 4 (bkA 20 8 g)) 20 16 = gF g 20 16; rw [cpS_F]; rfl
  · show gF (itN (cpS 29 17) 4 (bkA 20 8 g)) 20 17 = gF g 20 17; rw [cpS_F]; rfl
theorem bkC_20_8_V (g : GS) : gV (bkC 20 8 g) 8 7 = gV g 20 7 := by
  unfold bkC bkB
  show gV (itN (cpS 29 17) 4 (bkA 20 8 g)) 20 7 = gV g 20 7; rw [cpS_V]; rfl
theorem bkC_20_8_A (g : GS) : gA (bkC 20 8 g) 9 = rCopy 1088 1088 (gA g 21) (gA g 9) ∧ gA (bkC 20 8 g) 10 = rCopy 8 8 (gA g 22) (gA g 10) ∧ gA (bkC 20 8 g) 11 = rCopy 6 6 (gA g 23) (gA g 11) ∧ gA (bkC 20 8 g) 12 = rCopy 6 6 (gA g 24) (gA g 12) ∧ gA (bkC 20 8 g) 13 = rCopy 192 192 (gA g 25) (gA g 13) := by
  refine ⟨?_, ?_, ?_, ?_, ?_⟩
  · show gA (itN (cpS 29 17) 4 (bkA 20 8 g)) 9 = _; rw [cpS_A]; rfl
  · show gA (itN (cpS 29 17) 4 (bkA 20 8 g)) 10 = _; rw [cpS_A]; rfl
  · show gA (itN (cpS 29 17) 4 (bkA 20 8 g)) 11 = _; rw [cpS_A]; rfl
  · show gA (itN (cpS 29 17) 4 (bkA 20 8 g)) 12 = _; rw [cpS_A]; rfl
  · show gA (itN (cpS 29 17) 4 (bkA 20 8 g)) 13 = _; rw [cpS_A]; rfl
theorem bkC_20_8_P (g : GS) (i : Nat) : gP (bkC 20 8 g) 17 i = if i < 4 then gP g 29 i else gP g 17 i := by
  show gP (itN (cpS 29 17) 4 (bkA 20 8 g)) 17 i = _
  rw [cpS_at 29 17 _ (by decide) 4 i]; rfl
theorem bkC_20_8_fr (g : GS) : Fr (fBk 8) (aBk 8) g (bkC 20 8 g) := by
  have h1 : Fr (fBk 8) (aBk 8) g (bkA 20 8 g) := ((((Fr.rf.sA rfl).sA rfl).sA rfl).sA rfl).sA rfl
  have h2 : Fr (fBk 8) (aBk 8) g (itN (cpS 29 17) 4 (bkA 20 8 g)) := Fr.itN (S := cpS 29 17) h1 (fun _ _ h => h.sP rfl) 4
  exact ((((((((((h2.sV rfl).sF rfl).sF rfl).sF rfl).sF rfl).sF rfl).sF rfl).sF rfl).sF rfl).sF rfl).sF rfl
theorem bkC_8_20_F (g : GS) : gF (bkC 8 20 g) 20 8 = gF g 8 8 ∧ gF (bkC 8 20 g) 20 9 = gF g 8 9 ∧ gF (bkC 8 20 g) 20 10 = gF g 8 10 ∧ gF (bkC 8 20 g) 20 11 = gF g 8 11 ∧ gF (bkC 8 20 g) 20 12 = gF g 8 12 ∧ gF (bkC 8 20 g) 20 13 = gF g 8 13 ∧ gF (bkC 8 20 g) 20 14 = gF g 8 14 ∧ gF (bkC 8 20 g) 20 15 = gF g 8 15 ∧ gF (bkC 8 20 g) 20 16 = gF g 8 16 ∧ gF (bkC 8 20 g) 20 17 = gF g 8 17 := by
  unfold bkC bkB cF
  refine ⟨?_, ?_, ?_, ?_, ?_, ?_, ?_, ?_, ?_, ?_⟩
  · show gF (itN (cpS 17 29) 4 (bkA 8 20 g)) 8 8 = gF g 8 8; rw [cpS_F]; rfl
  · show gF (itN (cpS 17 29) 4 (bkA 8 20 g)) 8 9 = gF g 8 9; rw [cpS_F]; rfl
  · show gF (itN (cpS 17 29) 4 (bkA 8 20 g)) 8 10 = gF g 8 10; rw [cpS_F]; rfl
  · show gF (itN (cpS 17 29) 4 (bkA 8 20 g)) 8 11 = gF g 8 11; rw [cpS_F]; rfl
  · show gF (itN (cpS 17 29) 4 (bkA 8 20 g)) 8 12 = gF g 8 12; rw [cpS_F]; rfl
  · show gF (itN (cpS 17 29) 4 (bkA 8 20 g)) 8 13 = gF g 8 13; rw [cpS_F]; rfl
  · show gF (itN (cpS 17 29) 4 (bkA 8 20 g)) 8 14 = gF g 8 14; rw [cpS_F]; rfl
  · show gF (itN (cpS 17 29) 4 (bkA 8 20 g)) 8 15 = gF g 8 15; rw [cpS_F]; rfl
  · show gF (itN (cpS 17 29) 4 (bkA 8 20 g)) 8 16 = gF g 8 16; rw [cpS_F]; rfl
  · show gF (itN (cpS 17 29) 4 (bkA 8 20 g)) 8 17 = gF g 8 17; rw [cpS_F]; rfl
theorem bkC_8_20_V (g : GS) : gV (bkC 8 20 g) 20 7 = gV g 8 7 := by
  unfold bkC bkB
  show gV (itN (cpS 17 29) 4 (bkA 8 20 g)) 8 7 = gV g 8 7; rw [cpS_V]; rfl
theorem bkC_8_20_A (g : GS) : gA (bkC 8 20 g) 21 = rCopy 1088 1088 (gA g 9) (gA g 21) ∧ gA (bkC 8 20 g) 22 = rCopy 8 8 (gA g 10) (gA g 22) ∧ gA (bkC 8 20 g) 23 = rCopy 6 6 (gA g 11) (gA g 23) ∧ gA (bkC 8 20 g) 24 = rCopy 6 6 (gA g 12) (gA g 24) ∧ gA (bkC 8 20 g) 25 = rCopy 192 192 (gA g 13) (gA g 25) := by
  refine ⟨?_, ?_, ?_, ?_, ?_⟩
  · show gA (itN (cpS 17 29) 4 (bkA 8 20 g)) 21 = _; rw [cpS_A]; rfl
  · show gA (itN (cpS 17 29) 4 (bkA 8 20 g)) 22 = _; rw [cpS_A]; rfl
  · show gA (itN (cpS 17 29) 4 (bkA 8 20 g)) 23 = _; rw [cpS_A]; rfl
  · show gA (itN (cpS 17 29) 4 (bkA 8 20 g)) 24 = _; rw [cpS_A]; rfl
  · show gA (itN (cpS 17 29) 4 (bkA 8 20 g)) 25 = _; rw [cpS_A]; rfl
theorem bkC_8_20_P (g : GS) (i : Nat) : gP (bkC 8 20 g) 29 i = if i < 4 then gP g 17 i else gP g 29 i := by
  show gP (itN (cpS 17 29) 4 (bkA 8 20 g)) 29 i = _
  rw [cpS_at 17 29 _ (by decide) 4 i]; rfl
theorem bkC_8_20_fr (g : GS) : Fr (fBk 20) (aBk 20) g (bkC 8 20 g) := by
  have h1 : Fr (fBk 20) (aBk 20) g (bkA 8 20 g) := ((((Fr.rf.sA rfl).sA rfl).sA rfl).sA rfl).sA rfl
  have h2 : Fr (fBk 20) (aBk 20) g (itN (cpS 17 29) 4 (bkA 8 20 g)) := Fr.itN (S := cpS 17 29) h1 (fun _ _ h => h.sP rfl) 4
  exact ((((((((((h2.sV rfl).sF rfl).sF rfl).sF rfl).sF rfl).sF rfl).sF rfl).sF rfl).sF rfl).sF rfl).sF rfl
theorem bkC_20_30_F (g : GS) : gF (bkC 20 30 g) 30 8 = gF g 20 8 ∧ gF (bkC 20 30 g) 30 9 = gF g 20 9 ∧ gF (bkC 20 30 g) 30 10 = gF g 20 10 ∧ gF (bkC 20 30 g) 30 11 = gF g 20 11 ∧ gF (bkC 20 30 g) 30 12 = gF g 20 12 ∧ gF (bkC 20 30 g) 30 13 = gF g 20 13 ∧ gF (bkC 20 30 g) 30 14 = gF g 20 14 ∧ gF (bkC 20 30 g) 30 15 = gF g 20 15 ∧ gF (bkC 20 30 g) 30 16 = gF g 20 16 ∧ gF (bkC 20 30 g) 30 17 = gF g 20 17 := by
  unfold bkC bkB cF
  refine ⟨?_, ?_, ?_, ?_, ?_, ?_, ?_, ?_, ?_, ?_⟩
  · show gF (itN (cpS 29 39) 4 (bkA 20 30 g)) 20 8 = gF g 20 8; rw [cpS_F]; rfl
  · show gF (itN (cpS 29 39) 4 (bkA 20 30 g)) 20 9 = gF g 20 9; rw [cpS_F]; rfl
  · show gF (itN (cpS 29 39) 4 (bkA 20 30 g)) 20 10 = gF g 20 10; rw [cpS_F]; rfl
  · show gF (itN (cpS 29 39) 4 (bkA 20 30 g)) 20 11 = gF g 20 11; rw [cpS_F]; rfl
  · show gF (itN (cpS 29 39) 4 (bkA 20 30 g)) 20 12 = gF g 20 12; rw [cpS_F]; rfl
  · show gF (itN (cpS 29 39) 4 (bkA 20 30 g)) 20 13 = gF g 20 13; rw [cpS_F]; rfl
  · show gF (itN (cpS 29 39) 4 (bkA 20 30 g)) 20 14 = gF g 20 14; rw [cpS_F]; rfl
  · show gF (itN (cpS 29 39) 4 (bkA 20 30 g)) 20 15 = gF g 20 15; rw [cpS_F]; rfl
  · show gF (itN (cpS 29 39) 4 (bkA 20 30 g)) 20 16 = gF g 20 16; rw [cpS_F]; rfl
  · show gF (itN (cpS 29 39) 4 (bkA 20 30 g)) 20 17 = gF g 20 17; rw [cpS_F]; rfl
theorem bkC_20_30_V (g : GS) : gV (bkC 20 30 g) 30 7 = gV g 20 7 := by
  unfold bkC bkB
  show gV (itN (cpS 29 39) 4 (bkA 20 30 g)) 20 7 = gV g 20 7; rw [cpS_V]; rfl
theorem bkC_20_30_A (g : GS) : gA (bkC 20 30 g) 31 = rCopy 1088 1088 (gA g 21) (gA g 31) ∧ gA (bkC 20 30 g) 32 = rCopy 8 8 (gA g 22) (gA g 32) ∧ gA (bkC 20 30 g) 33 = rCopy 6 6 (gA g 23) (gA g 33) ∧ gA (bkC 20 30 g) 34 = rCopy 6 6 (gA g 24) (gA g 34) ∧ gA (bkC 20 30 g) 35 = rCopy 192 192 (gA g 25) (gA g 35) := by
  refine ⟨?_, ?_, ?_, ?_, ?_⟩
  · show gA (itN (cpS 29 39) 4 (bkA 20 30 g)) 31 = _; rw [cpS_A]; rfl
  · show gA (itN (cpS 29 39) 4 (bkA 20 30 g)) 32 = _; rw [cpS_A]; rfl
  · show gA (itN (cpS 29 39) 4 (bkA 20 30 g)) 33 = _; rw [cpS_A]; rfl
  · show gA (itN (cpS 29 39) 4 (bkA 20 30 g)) 34 = _; rw [cpS_A]; rfl
  · show gA (itN (cpS 29 39) 4 (bkA 20 30 g)) 35 = _; rw [cpS_A]; rfl
theorem bkC_20_30_P (g : GS) (i : Nat) : gP (bkC 20 30 g) 39 i = if i < 4 then gP g 29 i else gP g 39 i := by
  show gP (itN (cpS 29 39) 4 (bkA 20 30 g)) 39 i = _
  rw [cpS_at 29 39 _ (by decide) 4 i]; rfl
theorem bkC_20_30_fr (g : GS) : Fr (fBk 30) (aBk 30) g (bkC 20 30 g) := by
  have h1 : Fr (fBk 30) (aBk 30) g (bkA 20 30 g) := ((((Fr.rf.sA rfl).sA rfl).sA rfl).sA rfl).sA rfl
  have h2 : Fr (fBk 30) (aBk 30) g (itN (cpS 29 39) 4 (bkA 20 30 g)) := Fr.itN (S := cpS 29 39) h1 (fun _ _ h => h.sP rfl) 4
  exact ((((((((((h2.sV rfl).sF rfl).sF rfl).sF rfl).sF rfl).sF rfl).sF rfl).sF rfl).sF rfl).sF rfl).sF rfl
theorem bkC_30_20_F (g : GS) : gF (bkC 30 20 g) 20 8 = gF g 30 8 ∧ gF (bkC 30 20 g) 20 9 = gF g 30 9 ∧ gF (bkC 30 20 g) 20 10 = gF g 30 10 ∧ gF (bkC 30 20 g) 20 11 = gF g 30 11 ∧ gF (bkC 30 20 g) 20 12 = gF g 30 12 ∧ gF (bkC 30 20 g) 20 13 = gF g 30 13 ∧ gF (bkC 30 20 g) 20 14 = gF g 30 14 ∧ gF (bkC 30 20 g) 20 15 = gF g 30 15 ∧ gF (bkC 30 20 g) 20 16 = gF g 30 16 ∧ gF (bkC 30 20 g) 20 17 = gF g 30 17 := by
  unfold bkC bkB cF
  refine ⟨?_, ?_, ?_, ?_, ?_, ?_, ?_, ?_, ?_, ?_⟩
  · show gF (itN (cpS 39 29) 4 (bkA 30 20 g)) 30 8 = gF g 30 8; rw [cpS_F]; rfl
  · show gF (itN (cpS 39 29) 4 (bkA 30 20 g)) 30 9 = gF g 30 9; rw [cpS_F]; rfl
  · show gF (itN (cpS 39 29) 4 (bkA 30 20 g)) 30 10 = gF g 30 10; rw [cpS_F]; rfl
  · show gF (itN (cpS 39 29) 4 (bkA 30 20 g)) 30 11 = gF g 30 11; rw [cpS_F]; rfl
  · show gF (itN (cpS 39 29) 4 (bkA 30 20 g)) 30 12 = gF g 30 12; rw [cpS_F]; rfl
  · show gF (itN (cpS 39 29) 4 (bkA 30 20 g)) 30 13 = gF g 30 13; rw [cpS_F]; rfl
  · show gF (itN (cpS 39 29) 4 (bkA 30 20 g)) 30 14 = gF g 30 14; rw [cpS_F]; rfl
  · show gF (itN (cpS 39 29) 4 (bkA 30 20 g)) 30 15 = gF g 30 15; rw [cpS_F]; rfl
  · show gF (itN (cpS 39 29) 4 (bkA 30 20 g)) 30 16 = gF g 30 16; rw [cpS_F]; rfl
  · show gF (itN (cpS 39 29) 4 (bkA 30 20 g)) 30 17 = gF g 30 17; rw [cpS_F]; rfl
theorem bkC_30_20_V (g : GS) : gV (bkC 30 20 g) 20 7 = gV g 30 7 := by
  unfold bkC bkB
  show gV (itN (cpS 39 29) 4 (bkA 30 20 g)) 30 7 = gV g 30 7; rw [cpS_V]; rfl
theorem bkC_30_20_A (g : GS) : gA (bkC 30 20 g) 21 = rCopy 1088 1088 (gA g 31) (gA g 21) ∧ gA (bkC 30 20 g) 22 = rCopy 8 8 (gA g 32) (gA g 22) ∧ gA (bkC 30 20 g) 23 = rCopy 6 6 (gA g 33) (gA g 23) ∧ gA (bkC 30 20 g) 24 = rCopy 6 6 (gA g 34) (gA g 24) ∧ gA (bkC 30 20 g) 25 = rCopy 192 192 (gA g 35) (gA g 25) := by
  refine ⟨?_, ?_, ?_, ?_, ?_⟩
  · show gA (itN (cpS 39 29) 4 (bkA 30 20 g)) 21 = _; rw [cpS_A]; rfl
  · show gA (itN (cpS 39 29) 4 (bkA 30 20 g)) 22 = _; rw [cpS_A]; rfl
  · show gA (itN (cpS 39 29) 4 (bkA 30 20 g)) 23 = _; rw [cpS_A]; rfl
  · show gA (itN (cpS 39 29) 4 (bkA 30 20 g)) 24 = _; rw [cpS_A]; rfl
  · show gA (itN (cpS 39 29) 4 (bkA 30 20 g)) 25 = _; rw [cpS_A]; rfl
theorem bkC_30_20_P (g : GS) (i : Nat) : gP (bkC 30 20 g) 29 i = if i < 4 then gP g 39 i else gP g 29 i := by
  show gP (itN (cpS 39 29) 4 (bkA 30 20 g)) 29 i = _
  rw [cpS_at 39 29 _ (by decide) 4 i]; rfl
theorem bkC_30_20_fr (g : GS) : Fr (fBk 20) (aBk 20) g (bkC 30 20 g) := by
  have h1 : Fr (fBk 20) (aBk 20) g (bkA 30 20 g) := ((((Fr.rf.sA rfl).sA rfl).sA rfl).sA rfl).sA rfl
  have h2 : Fr (fBk 20) (aBk 20) g (itN (cpS 39 29) 4 (bkA 30 20 g)) := Fr.itN (S := cpS 39 29) h1 (fun _ _ h => h.sP rfl) 4
  exact ((((((((((h2.sV rfl).sF rfl).sF rfl).sF rfl).sF rfl).sF rfl).sF rfl).sF rfl).sF rfl).sF rfl).sF rfl

/-! game, goals, rule -/
def gmG (g : GS) : GS := sF (bkC 8 20 (sF g 1 1 0)) 20 9 (gF (bkC 8 20 (sF g 1 1 0)) 20 9 + 1)
set_option maxRecDepth 100000 in
set_option maxHeartbeats 4000000 in
theorem sg_game12 (g : GS) (b : Bool) (c : Nat) (hR : RowOK g 17) (hV : gV g 8 7 = .ref c) (hB : narrow .boolean (.int (gF g 8 8)) = .int (gF g 8 8)) (hB2 : fits .boolean (.int (gF g 8 8)) = true) (n0 : Nat) : J mX11_game (rm 40 2 12) (FX [(b, x_iae), (fLt (gF g 20 9) 12, x_uoe)] (RR (.inl (some (.int (gF (gmG g) 20 9)))) (gmG g)) (sF g 1 1 0)) n0 12 [some (.ref 0), some (.int (bI b))] [] (Wd g) 0 0 := by
  refine J_aload_n (nx := 13) dX11_game_12 rfl rfl ?_
  refine Jg_0_0 (nx := 16) dX11_game_13 rfl fl_X11_10 ?_
  refine J_iconst (nx := 17) (i := 0) (v := 0) (by decide) dX11_game_16 rfl ?_
  refine Jp_1_1 (nx := 20) dX11_game_17 rfl fl_X11_67 ?_
  refine J_iload_n (nx := 21) dX11_game_20 rfl rfl ?_
  refine JtKS1 (R' := rm (0) 1 6) (nx := 24) dX11_game_21 rfl ml_X11_requireNumber lk_X11_83 st_X11_requireNumber ⟨(Nat.le_of_ble_eq_true rfl), (Nat.le_of_ble_eq_true rfl)⟩ (Nat.le_of_ble_eq_true rfl) ⟨rfl, rfl⟩ ⟨(Nat.le_of_ble_eq_true rfl), (Nat.le_of_ble_eq_true rfl)⟩ (ct_requireNumber _ b) (fun t_21 => ?_)
  refine J_aload_n (nx := 25) dX11_game_24 rfl rfl ?_
  refine Jg_0_2 (nx := 28) dX11_game_25 rfl fl_X11_28 ?_
  refine Jg_20_9 (nx := 31) dX11_game_28 rfl fl_X11_87 ?_
  refine J_bipush (nx := 33) (i := 12) (v := 12) (by decide) dX11_game_31 rfl ?_
  refine J_icmp_ge (nx := 36) (tgt := 40) dX11_game_33 rfl (by decide) (fun c_33 => ?_) (fun c_33 => ?_)
  · refine J_iconst (nx := 41) (i := 0) (v := 0) (by decide) dX11_game_40 rfl ?_
    refine J.topi (bI (fLt (gF g 20 9) 12)) (by unfold fLt; first | (rw [if_pos (show (12 : Int32) ≤ gF g 20 9 from c_33)]; rfl) | (rw [if_neg (show ¬ (12 : Int32) ≤ gF g 20 9 from c_33)]; rfl)) ?_
    refine JtKS1 (R' := rm (0) 1 6) (nx := 44) dX11_game_41 rfl ml_X11_requireRoom lk_X11_90 st_X11_requireRoom ⟨(Nat.le_of_ble_eq_true rfl), (Nat.le_of_ble_eq_true rfl)⟩ (Nat.le_of_ble_eq_true rfl) ⟨rfl, rfl⟩ ⟨(Nat.le_of_ble_eq_true rfl), (Nat.le_of_ble_eq_true rfl)⟩ (ct_requireRoom _ (fLt (gF g 20 9) 12)) (fun t_41 => ?_)
    refine J_aload_n (nx := 45) dX11_game_44 rfl rfl ?_
    refine Jg_0_2 (nx := 48) dX11_game_45 rfl fl_X11_28 ?_
    refine J_aload_n (nx := 49) dX11_game_48 rfl rfl ?_
    refine Jg_0_1 (nx := 52) dX11_game_49 rfl fl_X11_21 ?_
    refine Jg_7_1 (nx := 55) dX11_game_52 rfl fl_X11_93 ?_
    refine JcKV1 (R' := rm (1) 0 0) (nx := 58) dX11_game_55 rfl ml_X1_copy lk_X11_96 iv_X1_copy rfl rfl ⟨(Nat.le_of_ble_eq_true rfl), (Nat.le_of_ble_eq_true rfl)⟩ (Nat.le_of_ble_eq_true rfl) ⟨rfl, rfl⟩ ⟨(Nat.le_of_ble_eq_true rfl), (Nat.le_of_ble_eq_true rfl)⟩ (ct_copy_20_8 (sF g 1 1 0) c hR hV hB hB2) ?_
    refine J_aload_n (nx := 59) dX11_game_58 rfl rfl ?_
    refine Jg_0_2 (nx := 62) dX11_game_59 rfl fl_X11_28 ?_
    refine J_dup (nx := 63) rfl dX11_game_62 rfl ?_
    refine Jg_20_9 (nx := 66) dX11_game_63 rfl fl_X11_87 ?_
    refine J_iconst (nx := 67) (i := 1) (v := 1) (by decide) dX11_game_66 rfl ?_
    refine J_iadd (nx := 68) dX11_game_67 rfl ?_
    refine Jp_20_9 (nx := 71) dX11_game_68 rfl fl_X11_87 ?_
    refine J_aload_n (nx := 72) dX11_game_71 rfl rfl ?_
    refine Jg_0_2 (nx := 75) dX11_game_72 rfl fl_X11_28 ?_
    refine Jg_20_9 (nx := 78) dX11_game_75 rfl fl_X11_87 ?_
    exact Jri dX11_game_78 rfl (Nat.le_of_ble_eq_true rfl) (Nat.le_of_ble_eq_true rfl) ⟨rfl, rfl⟩
  · refine J_iconst (nx := 37) (i := 1) (v := 1) (by decide) dX11_game_36 rfl ?_
    refine J_goto (nx := 41) dX11_game_37 (by decide) ?_
    refine J.topi (bI (fLt (gF g 20 9) 12)) (by unfold fLt; first | (rw [if_pos (show (12 : Int32) ≤ gF g 20 9 from c_33)]; rfl) | (rw [if_neg (show ¬ (12 : Int32) ≤ gF g 20 9 from c_33)]; rfl)) ?_
    refine JtKS1 (R' := rm (0) 1 6) (nx := 44) dX11_game_41 rfl ml_X11_requireRoom lk_X11_90 st_X11_requireRoom ⟨(Nat.le_of_ble_eq_true rfl), (Nat.le_of_ble_eq_true rfl)⟩ (Nat.le_of_ble_eq_true rfl) ⟨rfl, rfl⟩ ⟨(Nat.le_of_ble_eq_true rfl), (Nat.le_of_ble_eq_true rfl)⟩ (ct_requireRoom _ (fLt (gF g 20 9) 12)) (fun t_41 => ?_)
    refine J_aload_n (nx := 45) dX11_game_44 rfl rfl ?_
    refine Jg_0_2 (nx := 48) dX11_game_45 rfl fl_X11_28 ?_
    refine J_aload_n (nx := 49) dX11_game_48 rfl rfl ?_
    refine Jg_0_1 (nx := 52) dX11_game_49 rfl fl_X11_21 ?_
    refine Jg_7_1 (nx := 55) dX11_game_52 rfl fl_X11_93 ?_
    refine JcKV1 (R' := rm (1) 0 0) (nx := 58) dX11_game_55 rfl ml_X1_copy lk_X11_96 iv_X1_copy rfl rfl ⟨(Nat.le_of_ble_eq_true rfl), (Nat.le_of_ble_eq_true rfl)⟩ (Nat.le_of_ble_eq_true rfl) ⟨rfl, rfl⟩ ⟨(Nat.le_of_ble_eq_true rfl), (Nat.le_of_ble_eq_true rfl)⟩ (ct_copy_20_8 (sF g 1 1 0) c hR hV hB hB2) ?_
    refine J_aload_n (nx := 59) dX11_game_58 rfl rfl ?_
    refine Jg_0_2 (nx := 62) dX11_game_59 rfl fl_X11_28 ?_
    refine J_dup (nx := 63) rfl dX11_game_62 rfl ?_
    refine Jg_20_9 (nx := 66) dX11_game_63 rfl fl_X11_87 ?_
    refine J_iconst (nx := 67) (i := 1) (v := 1) (by decide) dX11_game_66 rfl ?_
    refine J_iadd (nx := 68) dX11_game_67 rfl ?_
    refine Jp_20_9 (nx := 71) dX11_game_68 rfl fl_X11_87 ?_
    refine J_aload_n (nx := 72) dX11_game_71 rfl rfl ?_
    refine Jg_0_2 (nx := 75) dX11_game_72 rfl fl_X11_28 ?_
    refine Jg_20_9 (nx := 78) dX11_game_75 rfl fl_X11_87 ?_
    exact Jri dX11_game_78 rfl (Nat.le_of_ble_eq_true rfl) (Nat.le_of_ble_eq_true rfl) ⟨rfl, rfl⟩


/-- what game leaves: the text was wrong; or there are games enough; or it is read into the Book -/
def GM (g : GS) (n : Nat) : Res → List ME → Prop := fun r es => ∃ g1, Fr fR aR (bkC 20 8 g) g1 ∧ (match rgR (bkC 20 8 g) n with
  | .inl e => gF g1 7 7 = nI e ∧ r = .inr x_iae ∧ es = Wd (sF g1 1 1 0)
  | .inr d => gF g1 7 7 = -1 ∧ drOf g1 = d ∧ ((fLt (gF g 20 9) 12 = false ∧ r = .inr x_uoe ∧ es = Wd (sF g1 1 1 0)) ∨ (fLt (gF g 20 9) 12 = true ∧ r = .inl (some (.int (gF (gmG g1) 20 9))) ∧ es = Wd (gmG g1))))
set_option maxRecDepth 100000 in
set_option maxHeartbeats 4000000 in
theorem ct_game (g : GS) (n c : Nat) (hn : gF g 1 1 = nI n) (hn4 : n ≤ 400) (hR : RowOK g 29) (hV : gV g 20 7 = .ref c) (hB : narrow .boolean (.int (gF g 20 8)) = .int (gF g 20 8)) (hB2 : fits .boolean (.int (gF g 20 8)) = true) : Ct mX11_game (rm 40 2 12) [.ref 0] (Wd g) (GM g n) := by
  refine Ct.of (by decide +kernel) (Nat.le_of_ble_eq_true rfl) ?_
  show J _ _ _ _ 0 [some (.ref 0), none] [] _ 0 0
  refine J_aload_n (nx := 1) dX11_game_0 rfl rfl ?_
  refine Jg_0_1 (nx := 4) dX11_game_1 rfl fl_X11_21 ?_
  refine J_aload_n (nx := 5) dX11_game_4 rfl rfl ?_
  refine Jg_0_2 (nx := 8) dX11_game_5 rfl fl_X11_28 ?_
  refine JiKV1 (R' := rm (31) 0 0) (nx := 11) dX11_game_8 rfl ml_X8_readGame lk_X11_79 iv_X8_readGame rfl rfl ⟨(Nat.le_of_ble_eq_true rfl), (Nat.le_of_ble_eq_true rfl)⟩ (Nat.le_of_ble_eq_true rfl) ⟨rfl, rfl⟩ ⟨(Nat.le_of_ble_eq_true rfl), (Nat.le_of_ble_eq_true rfl)⟩ (ct_readGame g n c hn hn4 hR hV hB hB2) (fun x_8 g_8 p_8 => ?_)
  refine J_istore_n (nx := 12) dX11_game_11 rfl rfl (Nat.le_of_ble_eq_true rfl) ?_
  obtain ⟨hf, hm⟩ := p_8
  have h0 := bkC_20_8_F g
  have hfr := bkC_20_8_fr g
  have e20 : gF g_8 20 9 = gF g 20 9 := (hf.1 20 9 rfl).trans (hfr.1 20 9 rfl)
  have e88 : gF g_8 8 8 = gF g 20 8 := (hf.1 8 8 rfl).trans h0.1
  have eV : gV g_8 8 7 = .ref c := (hf.2.2.2.1 8 7 rfl).trans ((bkC_20_8_V g).trans hV)
  have eR : RowOK g_8 17 := by
    intro i hi v hv
    rw [hf.2.2.2.2.1 17 rfl, bkC_20_8_P, if_pos hi] at hv
    rw [hf.2.2.2.2.2, hfr.2.2.2.2.2]
    exact hR i hi v hv
  have hS := fun b => sg_game12 g_8 b c eR eV (by rw [e88]; exact hB) (by rw [e88]; exact hB2) (Wd g).length
  rw [e20] at hS
  unfold GM
  cases hr : rgR (bkC 20 8 g) n with
  | inl e =>
    rw [hr] at hm
    rw [show x_8 = bI false from hm.1]
    refine J.post (hS false) (fun r es q => ⟨g_8, hf, ?_⟩)
    rcases q with ⟨-, q1, q2⟩ | ⟨q1, -⟩
    · exact ⟨hm.2, q1, q2⟩
    · cases q1
  | inr d =>
    rw [hr] at hm
    rw [show x_8 = bI true from hm.1]
    refine J.post (hS true) (fun r es q => ⟨g_8, hf, ?_⟩)
    rcases q with ⟨q1, -⟩ | ⟨-, ⟨q1, q2, q3⟩ | ⟨q1, q2, q3⟩⟩
    · cases q1
    · exact ⟨hm.2.1, hm.2.2, Or.inl ⟨q1, q2, q3⟩⟩
    · exact ⟨hm.2.1, hm.2.2, Or.inr ⟨q1, q2, q3⟩⟩


def kG (g : GS) (nl sz : Nat) : GS := kT (sF g 1 1 0) (cdL (sF g 1 1 0) nl sz)
def goG (g : GS) (nl sz : Nat) : GS := sF (sV (kG g nl sz) 20 7 (.ref (83 + (gT g).length))) 20 8 1
def cdN (g : GS) (nl sz : Nat) : CD := (nl, (4 * nl, rCopy 48 (4 * nl) (gA g 18) (fun _ => 0)), (sz, rCopy 400 sz (gA g 19) (fun _ => 0)))
theorem kG_code (g : GS) {nl sz : Nat} (hnl : nl ≤ 12) (hsz : sz ≤ 400) : CodeT (gT (kG g nl sz)) (83 + (gT g).length) (cdN g nl sz) := by
  refine ⟨by omega, ?_, ?_, ?_, by show nl < 2 ^ 31; omega, by show 4 * nl < 2 ^ 31; omega, by show sz < 2 ^ 31; omega⟩
  · show (gT g ++ cdL (sF g 1 1 0) nl sz)[83 + (gT g).length - 83]? = _
    rw [List.getElem?_append_right (by omega), show 83 + (gT g).length - 83 - (gT g).length = 0 by omega]
    rfl
  · show (gT g ++ cdL (sF g 1 1 0) nl sz)[83 + (gT g).length + 1 - 83]? = _
    rw [List.getElem?_append_right (by omega), show 83 + (gT g).length + 1 - 83 - (gT g).length = 1 by omega]
    rfl
  · show (gT g ++ cdL (sF g 1 1 0) nl sz)[83 + (gT g).length + 2 - 83]? = _
    rw [List.getElem?_append_right (by omega), show 83 + (gT g).length + 2 - 83 - (gT g).length = 2 by omega]
    rfl
theorem CodeT.obj {g : GS} {c : Nat} {cd : CD} (h : CodeT (gT g) c cd) : (Wd g)[c]? = some (.inr (2, [.int (nI cd.1), .ref (c + 1), .ref (c + 2)])) := by
  show (W0 g ++ gT g)[c]? = _
  rw [List.getElem?_append_right (by show 83 ≤ c; exact h.1)]
  exact h.2.1
set_option maxRecDepth 100000 in
set_option maxHeartbeats 4000000 in
theorem sg_goals9 (g : GS) (b : Bool) (nl sz : Nat) (hyes : b = true → gF g 7 5 = nI nl ∧ gF g 7 4 = nI sz ∧ nl ≤ 12 ∧ sz ≤ 400) (hlen : (gT g).length < 100000) (n0 : Nat) : J mX11_goals (rm 40 4 457) (FX [(b, x_iae)] (RR (.inl (some (.int (nI nl)))) (goG g nl sz)) (sF g 1 1 0)) n0 9 [some (.ref 0), some (.int (bI b))] [] (Wd g) 0 0 := by
  refine J_aload_n (nx := 10) dX11_goals_9 rfl rfl ?_
  refine Jg_0_0 (nx := 13) dX11_goals_10 rfl fl_X11_10 ?_
  refine J_iconst (nx := 14) (i := 0) (v := 0) (by decide) dX11_goals_13 rfl ?_
  refine Jp_1_1 (nx := 17) dX11_goals_14 rfl fl_X11_67 ?_
  refine J_iload_n (nx := 18) dX11_goals_17 rfl rfl ?_
  refine JtKS1 (R' := rm (0) 1 6) (nx := 21) dX11_goals_18 rfl ml_X11_requireNumber lk_X11_83 st_X11_requireNumber ⟨(Nat.le_of_ble_eq_true rfl), (Nat.le_of_ble_eq_true rfl)⟩ (Nat.le_of_ble_eq_true rfl) ⟨rfl, rfl⟩ ⟨(Nat.le_of_ble_eq_true rfl), (Nat.le_of_ble_eq_true rfl)⟩ (ct_requireNumber _ b) (fun t_18 => ?_)
  obtain ⟨h5, h4, hnl, hsz⟩ := hyes t_18
  show J _ _ (RR (.inl (some (.int (nI nl)))) (goG g nl sz)) _ _ _ _ _ _ _
  refine J_aload_n (nx := 22) dX11_goals_21 rfl rfl ?_
  refine Jg_0_2 (nx := 25) dX11_goals_22 rfl fl_X11_28 ?_
  refine J_aload_n (nx := 26) dX11_goals_25 rfl rfl ?_
  refine Jg_0_1 (nx := 29) dX11_goals_26 rfl fl_X11_21 ?_
  refine J_callV (R' := rm 2 3 451) (nx := 32) (b := 7) (As := []) dX11_goals_29 rfl ml_X8_made lk_X11_103 iv_X8_made rfl rfl rfl ⟨(Nat.le_of_ble_eq_true rfl), (Nat.le_of_ble_eq_true rfl)⟩ (Nat.le_of_ble_eq_true rfl) ⟨(Nat.le_of_ble_eq_true rfl), (Nat.le_of_ble_eq_true rfl)⟩ (ct_made (sF g 1 1 0) nl sz h5 h4 hnl hsz hlen) (fun E es' q => by cases q.1) (fun v es' q => ?_)
  obtain ⟨q1, rfl⟩ := q
  cases q1
  show J _ _ _ _ 32 _ [.ref (83 + (gT g).length), .ref 20] (Wd (kG g nl sz)) _ _
  refine Jp_20_7 (nx := 35) dX11_goals_32 rfl fl_X11_107 ?_
  refine J_aload_n (nx := 36) dX11_goals_35 rfl rfl ?_
  refine Jg_0_2 (nx := 39) dX11_goals_36 rfl fl_X11_28 ?_
  refine J_iconst (nx := 40) (i := 1) (v := 1) (by decide) dX11_goals_39 rfl ?_
  refine Jp_20_8 (nx := 43) dX11_goals_40 rfl fl_X11_111 (by decide) (by decide) ?_
  refine J_aload_n (nx := 44) dX11_goals_43 rfl rfl ?_
  refine Jg_0_2 (nx := 47) dX11_goals_44 rfl fl_X11_28 ?_
  refine Jg_20_7 (nx := 50) dX11_goals_47 rfl fl_X11_107 ?_
  refine J_get (nx := 53) dX11_goals_50 rfl fl_X11_115 ((kG_code g hnl hsz).obj (g := goG g nl sz)) rfl ?_
  exact Jri dX11_goals_53 rfl (Nat.le_of_ble_eq_true rfl) (Nat.le_of_ble_eq_true rfl) ⟨rfl, rfl⟩

set_option maxRecDepth 100000 in
set_option maxHeartbeats 4000000 in
theorem sg_rule9 (g : GS) (b : Bool) (nl sz rc : Nat) (hyes : b = true → gF g 7 5 = nI nl ∧ gF g 7 4 = nI sz ∧ nl ≤ 12 ∧ sz ≤ 400) (hlen : (gT g).length < 100000) (hrc : gF g 20 10 = nI rc) (hrc4 : rc ≤ 4) (n0 : Nat) : J mX11_rule (rm 40 5 463) (FX [(b, x_iae), (fLt (gF g 20 10) 4, x_uoe)] (RR (.inl (some (.int (5 + nI rc)))) (addG (kG g nl sz) (83 + (gT g).length) rc)) (sF g 1 1 0)) n0 9 [some (.ref 0), some (.int (bI b))] [] (Wd g) 0 0 := by
  refine J_aload_n (nx := 10) dX11_rule_9 rfl rfl ?_
  refine Jg_0_0 (nx := 13) dX11_rule_10 rfl fl_X11_10 ?_
  refine J_iconst (nx := 14) (i := 0) (v := 0) (by decide) dX11_rule_13 rfl ?_
  refine Jp_1_1 (nx := 17) dX11_rule_14 rfl fl_X11_67 ?_
  refine J_iload_n (nx := 18) dX11_rule_17 rfl rfl ?_
  refine JtKS1 (R' := rm (0) 1 6) (nx := 21) dX11_rule_18 rfl ml_X11_requireNumber lk_X11_83 st_X11_requireNumber ⟨(Nat.le_of_ble_eq_true rfl), (Nat.le_of_ble_eq_true rfl)⟩ (Nat.le_of_ble_eq_true rfl) ⟨rfl, rfl⟩ ⟨(Nat.le_of_ble_eq_true rfl), (Nat.le_of_ble_eq_true rfl)⟩ (ct_requireNumber _ b) (fun t_18 => ?_)
  refine J_aload_n (nx := 22) dX11_rule_21 rfl rfl ?_
  refine Jg_0_2 (nx := 25) dX11_rule_22 rfl fl_X11_28 ?_
  refine Jg_20_10 (nx := 28) dX11_rule_25 rfl fl_X11_120 ?_
  refine J_iconst (nx := 29) (i := 4) (v := 4) (by decide) dX11_rule_28 rfl ?_
  refine J_icmp_ge (nx := 32) (tgt := 36) dX11_rule_29 rfl (by decide) (fun c_29 => ?_) (fun c_29 => ?_)
  · refine J_iconst (nx := 37) (i := 0) (v := 0) (by decide) dX11_rule_36 rfl ?_
    refine J.topi (bI (fLt (gF g 20 10) 4)) (by unfold fLt; first | (rw [if_pos (show (4 : Int32) ≤ gF g 20 10 from c_29)]; rfl) | (rw [if_neg (show ¬ (4 : Int32) ≤ gF g 20 10 from c_29)]; rfl)) ?_
    refine JtKS1 (R' := rm (0) 1 6) (nx := 40) dX11_rule_37 rfl ml_X11_requireRoom lk_X11_90 st_X11_requireRoom ⟨(Nat.le_of_ble_eq_true rfl), (Nat.le_of_ble_eq_true rfl)⟩ (Nat.le_of_ble_eq_true rfl) ⟨rfl, rfl⟩ ⟨(Nat.le_of_ble_eq_true rfl), (Nat.le_of_ble_eq_true rfl)⟩ (ct_requireRoom _ (fLt (gF g 20 10) 4)) (fun t_37 => ?_)
    obtain ⟨h5, h4, hnl, hsz⟩ := hyes t_18
    have hrl : rc < 4 := by
      rcases Nat.lt_or_ge rc 4 with h | h
      · exact h
      · have t9 := t_37
        unfold fLt at t9
        rw [hrc, if_pos (show (4 : Int32) ≤ nI rc from nI_le (a := 4) h (by omega))] at t9
        cases t9
    show J _ _ (RR (.inl (some (.int (5 + nI rc)))) (addG (kG g nl sz) (83 + (gT g).length) rc)) _ _ _ _ _ _ _
    refine J_iconst (nx := 41) (i := 5) (v := 5) (by decide) dX11_rule_40 rfl ?_
    refine J_aload_n (nx := 42) dX11_rule_41 rfl rfl ?_
    refine Jg_0_2 (nx := 45) dX11_rule_42 rfl fl_X11_28 ?_
    refine J_aload_n (nx := 46) dX11_rule_45 rfl rfl ?_
    refine Jg_0_1 (nx := 49) dX11_rule_46 rfl fl_X11_21 ?_
    refine J_callV (R' := rm 2 3 451) (nx := 52) (b := 7) (As := []) dX11_rule_49 rfl ml_X8_made lk_X11_103 iv_X8_made rfl rfl rfl ⟨(Nat.le_of_ble_eq_true rfl), (Nat.le_of_ble_eq_true rfl)⟩ (Nat.le_of_ble_eq_true rfl) ⟨(Nat.le_of_ble_eq_true rfl), (Nat.le_of_ble_eq_true rfl)⟩ (ct_made (sF g 1 1 0) nl sz h5 h4 hnl hsz hlen) (fun E es' q => by cases q.1) (fun v es' q => ?_)
    obtain ⟨q1, rfl⟩ := q
    cases q1
    show J _ _ _ _ 52 _ [.ref (83 + (gT g).length), .ref 20, .int 5] (Wd (kG g nl sz)) _ _
    refine JcKV1 (R' := rm 1 0 0) (nx := 55) dX11_rule_52 rfl ml_X1_addRule lk_X11_123 iv_X1_addRule rfl rfl ⟨(Nat.le_of_ble_eq_true rfl), (Nat.le_of_ble_eq_true rfl)⟩ (Nat.le_of_ble_eq_true rfl) ⟨rfl, rfl⟩ ⟨(Nat.le_of_ble_eq_true rfl), (Nat.le_of_ble_eq_true rfl)⟩ (ct_addRule (kG g nl sz) _ rc hrc hrl ⟨_, kG_code g hnl hsz⟩) ?_
    refine J_iadd (nx := 56) dX11_rule_55 rfl ?_
    exact Jri dX11_rule_56 rfl (Nat.le_of_ble_eq_true rfl) (Nat.le_of_ble_eq_true rfl) ⟨rfl, rfl⟩
  · refine J_iconst (nx := 33) (i := 1) (v := 1) (by decide) dX11_rule_32 rfl ?_
    refine J_goto (nx := 37) dX11_rule_33 (by decide) ?_
    refine J.topi (bI (fLt (gF g 20 10) 4)) (by unfold fLt; first | (rw [if_pos (show (4 : Int32) ≤ gF g 20 10 from c_29)]; rfl) | (rw [if_neg (show ¬ (4 : Int32) ≤ gF g 20 10 from c_29)]; rfl)) ?_
    refine JtKS1 (R' := rm (0) 1 6) (nx := 40) dX11_rule_37 rfl ml_X11_requireRoom lk_X11_90 st_X11_requireRoom ⟨(Nat.le_of_ble_eq_true rfl), (Nat.le_of_ble_eq_true rfl)⟩ (Nat.le_of_ble_eq_true rfl) ⟨rfl, rfl⟩ ⟨(Nat.le_of_ble_eq_true rfl), (Nat.le_of_ble_eq_true rfl)⟩ (ct_requireRoom _ (fLt (gF g 20 10) 4)) (fun t_37 => ?_)
    obtain ⟨h5, h4, hnl, hsz⟩ := hyes t_18
    have hrl : rc < 4 := by
      rcases Nat.lt_or_ge rc 4 with h | h
      · exact h
      · have t9 := t_37
        unfold fLt at t9
        rw [hrc, if_pos (show (4 : Int32) ≤ nI rc from nI_le (a := 4) h (by omega))] at t9
        cases t9
    show J _ _ (RR (.inl (some (.int (5 + nI rc)))) (addG (kG g nl sz) (83 + (gT g).length) rc)) _ _ _ _ _ _ _
    refine J_iconst (nx := 41) (i := 5) (v := 5) (by decide) dX11_rule_40 rfl ?_
    refine J_aload_n (nx := 42) dX11_rule_41 rfl rfl ?_
    refine Jg_0_2 (nx := 45) dX11_rule_42 rfl fl_X11_28 ?_
    refine J_aload_n (nx := 46) dX11_rule_45 rfl rfl ?_
    refine Jg_0_1 (nx := 49) dX11_rule_46 rfl fl_X11_21 ?_
    refine J_callV (R' := rm 2 3 451) (nx := 52) (b := 7) (As := []) dX11_rule_49 rfl ml_X8_made lk_X11_103 iv_X8_made rfl rfl rfl ⟨(Nat.le_of_ble_eq_true rfl), (Nat.le_of_ble_eq_true rfl)⟩ (Nat.le_of_ble_eq_true rfl) ⟨(Nat.le_of_ble_eq_true rfl), (Nat.le_of_ble_eq_true rfl)⟩ (ct_made (sF g 1 1 0) nl sz h5 h4 hnl hsz hlen) (fun E es' q => by cases q.1) (fun v es' q => ?_)
    obtain ⟨q1, rfl⟩ := q
    cases q1
    show J _ _ _ _ 52 _ [.ref (83 + (gT g).length), .ref 20, .int 5] (Wd (kG g nl sz)) _ _
    refine JcKV1 (R' := rm 1 0 0) (nx := 55) dX11_rule_52 rfl ml_X1_addRule lk_X11_123 iv_X1_addRule rfl rfl ⟨(Nat.le_of_ble_eq_true rfl), (Nat.le_of_ble_eq_true rfl)⟩ (Nat.le_of_ble_eq_true rfl) ⟨rfl, rfl⟩ ⟨(Nat.le_of_ble_eq_true rfl), (Nat.le_of_ble_eq_true rfl)⟩ (ct_addRule (kG g nl sz) _ rc hrc hrl ⟨_, kG_code g hnl hsz⟩) ?_
    refine J_iadd (nx := 56) dX11_rule_55 rfl ?_
    exact Jri dX11_rule_56 rfl (Nat.le_of_ble_eq_true rfl) (Nat.le_of_ble_eq_true rfl) ⟨rfl, rfl⟩


def rdR (g : GS) (n : Nat) (rl : Bool) : Nat ⊕ HC := bif rl then pRead (obT n (gA g 2)) (hdLine (pRule (obT n (gA g 2)))) (sk n (gA g 2) 0) ([], []) else pRead (obT n (gA g 2)) (hdLine (pGoal (obT n (gA g 2)))) (sk n (gA g 2) 0) ([], [])
/-- what stands in the Text behind a good reading of LINES -/
def TxOK (rl : Bool) (g1 : GS) (s : HC) : Prop := gF g1 7 5 = nI s.1.length ∧ gF g1 7 4 = nI s.2.length ∧ s.1.length ≤ 12 ∧ s.2.length ≤ 400 ∧ HS g1 s.1 ∧ (∀ i, i < s.2.length → gA g1 19 i = s.2.getD i 0) ∧ gF g1 7 7 = -1
theorem TxOK.of {o : Ob} (ho : ObOK o) {rl : Bool} {g1 : GS} {s : HC} {b k : Nat} (hb : b = oN o) (hk : k ≤ 12) (h : IHd o rl g1 b s k) (h5 : gF g1 7 5 = nI k) : TxOK rl g1 s := by
  obtain ⟨h1, h2, h3, h4⟩ := h
  have := ho.1
  exact ⟨by rw [h4]; exact h5, h1.2.2.1, by omega, by omega, h3, h1.2.2.2.1, h1.2.2.2.2⟩
def GO (g : GS) (n : Nat) : Res → List ME → Prop := fun r es => ∃ g1, Fr fR aR g g1 ∧ (match rdR g n false with
  | .inl e => gF g1 7 7 = nI e ∧ r = .inr x_iae ∧ es = Wd (sF g1 1 1 0)
  | .inr s => TxOK false g1 s ∧ r = .inl (some (.int (nI s.1.length))) ∧ es = Wd (goG g1 s.1.length s.2.length))
def RU (g : GS) (n rc : Nat) : Res → List ME → Prop := fun r es => ∃ g1, Fr fR aR g g1 ∧ (match rdR g n true with
  | .inl e => gF g1 7 7 = nI e ∧ r = .inr x_iae ∧ es = Wd (sF g1 1 1 0)
  | .inr s => TxOK true g1 s ∧ ((fLt (nI rc) 4 = false ∧ r = .inr x_uoe ∧ es = Wd (sF g1 1 1 0)) ∨ (fLt (nI rc) 4 = true ∧ r = .inl (some (.int (5 + nI rc))) ∧ es = Wd (addG (kG g1 s.1.length s.2.length) (83 + (gT g1).length) rc))))
set_option maxRecDepth 100000 in
set_option maxHeartbeats 4000000 in
theorem ct_goals (g : GS) (n : Nat) (hn : gF g 1 1 = nI n) (hn4 : n ≤ 400) (hlen : (gT g).length < 100000) : Ct mX11_goals (rm 40 4 457) [.ref 0] (Wd g) (GO g n) := by
  refine Ct.of (by decide +kernel) (Nat.le_of_ble_eq_true rfl) ?_
  show J _ _ _ _ 0 [some (.ref 0), none] [] _ 0 0
  refine J_aload_n (nx := 1) dX11_goals_0 rfl rfl ?_
  refine Jg_0_1 (nx := 4) dX11_goals_1 rfl fl_X11_21 ?_
  refine J_iconst (nx := 5) (i := 1) (v := 1) (by decide) dX11_goals_4 rfl ?_
  refine JiKV1 (R' := rm (30) 0 0) (nx := 8) dX11_goals_5 rfl ml_X8_read lk_X11_99 iv_X8_read rfl rfl ⟨(Nat.le_of_ble_eq_true rfl), (Nat.le_of_ble_eq_true rfl)⟩ (Nat.le_of_ble_eq_true rfl) ⟨rfl, rfl⟩ ⟨(Nat.le_of_ble_eq_true rfl), (Nat.le_of_ble_eq_true rfl)⟩ (ct_read1 g n hn hn4) (fun x_5 g_5 p_5 => ?_)
  refine J_istore_n (nx := 9) dX11_goals_8 rfl rfl (Nat.le_of_ble_eq_true rfl) ?_
  obtain ⟨hf, hm⟩ := p_5
  have hlen1 : (gT g_5).length < 100000 := by rw [hf.2.2.2.2.2]; exact hlen
  have ho := obT_ok n (gA g 2) hn4
  unfold GO
  have e0 : rdR g n false = pRead (obT n (gA g 2)) (hdLine (pGoal (obT n (gA g 2)))) (sk n (gA g 2) 0) ([], []) := rfl
  rw [← e0] at hm
  cases hr : rdR g n false with
  | inl e =>
    rw [hr] at hm
    rw [show x_5 = bI false from hm.1]
    refine J.post (sg_goals9 g_5 false 0 0 (fun z => by cases z) hlen1 (Wd g).length) (fun r es q => ⟨g_5, hf, ?_⟩)
    rcases q with ⟨-, q1, q2⟩ | ⟨q1, -⟩
    · exact ⟨hm.2, q1, q2⟩
    · cases q1
  | inr s =>
    rw [hr] at hm
    obtain ⟨hx, b, k, hb, hk, hI, h5⟩ := hm
    have hT := TxOK.of ho hb hk hI h5
    rw [show x_5 = bI true from hx]
    refine J.post (sg_goals9 g_5 true s.1.length s.2.length (fun _ => ⟨hT.1, hT.2.1, hT.2.2.1, hT.2.2.2.1⟩) hlen1 (Wd g).length) (fun r es q => ⟨g_5, hf, ?_⟩)
    rcases q with ⟨q1, -⟩ | ⟨-, q1, q2⟩
    · cases q1
    · exact ⟨hT, q1, q2⟩

set_option maxRecDepth 100000 in
set_option maxHeartbeats 4000000 in
theorem ct_rule (g : GS) (n rc : Nat) (hn : gF g 1 1 = nI n) (hn4 : n ≤ 400) (hlen : (gT g).length < 100000) (hrc : gF g 20 10 = nI rc) (hrc4 : rc ≤ 4) : Ct mX11_rule (rm 40 5 463) [.ref 0] (Wd g) (RU g n rc) := by
  refine Ct.of (by decide +kernel) (Nat.le_of_ble_eq_true rfl) ?_
  show J _ _ _ _ 0 [some (.ref 0), none] [] _ 0 0
  refine J_aload_n (nx := 1) dX11_rule_0 rfl rfl ?_
  refine Jg_0_1 (nx := 4) dX11_rule_1 rfl fl_X11_21 ?_
  refine J_iconst (nx := 5) (i := 2) (v := 2) (by decide) dX11_rule_4 rfl ?_
  refine JiKV1 (R' := rm (30) 0 0) (nx := 8) dX11_rule_5 rfl ml_X8_read lk_X11_99 iv_X8_read rfl rfl ⟨(Nat.le_of_ble_eq_true rfl), (Nat.le_of_ble_eq_true rfl)⟩ (Nat.le_of_ble_eq_true rfl) ⟨rfl, rfl⟩ ⟨(Nat.le_of_ble_eq_true rfl), (Nat.le_of_ble_eq_true rfl)⟩ (ct_read2 g n hn hn4) (fun x_5 g_5 p_5 => ?_)
  refine J_istore_n (nx := 9) dX11_rule_8 rfl rfl (Nat.le_of_ble_eq_true rfl) ?_
  obtain ⟨hf, hm⟩ := p_5
  have hlen1 : (gT g_5).length < 100000 := by rw [hf.2.2.2.2.2]; exact hlen
  have ho := obT_ok n (gA g 2) hn4
  have hrc1 : gF g_5 20 10 = nI rc := (hf.1 20 10 rfl).trans hrc
  have hS := fun b nl sz hyes => sg_rule9 g_5 b nl sz rc hyes hlen1 hrc1 hrc4 (Wd g).length
  rw [hrc1] at hS
  unfold RU
  have e0 : rdR g n true = pRead (obT n (gA g 2)) (hdLine (pRule (obT n (gA g 2)))) (sk n (gA g 2) 0) ([], []) := rfl
  rw [← e0] at hm
  cases hr : rdR g n true with
  | inl e =>
    rw [hr] at hm
    rw [show x_5 = bI false from hm.1]
    refine J.post (hS false 0 0 (fun z => by cases z)) (fun r es q => ⟨g_5, hf, ?_⟩)
    rcases q with ⟨-, q1, q2⟩ | ⟨q1, -⟩
    · exact ⟨hm.2, q1, q2⟩
    · cases q1
  | inr s =>
    rw [hr] at hm
    obtain ⟨hx, b, k, hb, hk, hI, h5⟩ := hm
    have hT := TxOK.of ho hb hk hI h5
    rw [show x_5 = bI true from hx]
    refine J.post (hS true s.1.length s.2.length (fun _ => ⟨hT.1, hT.2.1, hT.2.2.1, hT.2.2.2.1⟩)) (fun r es q => ⟨g_5, hf, ?_⟩)
    rcases q with ⟨q1, -⟩ | ⟨-, ⟨q1, q2, q3⟩ | ⟨q1, q2, q3⟩⟩
    · cases q1
    · exact ⟨hT, Or.inl ⟨q1, q2, q3⟩⟩
    · exact ⟨hT, Or.inr ⟨q1, q2, q3⟩⟩

