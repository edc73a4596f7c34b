
/-! Tape: the things -/
theorem J_aastT {M : MI} {R : Room} {Q : Res → List ME → Prop} {n0 pc nx : Nat} {L : List (Option Value)} {rest : List Value} {g : GS} {j : Nat} {i : Int32} (d : decode M.2.1 pc = .ok (.aastore, 1)) (hn : pc + 1 = nx) (hj : j < 23) (he : (Wd g)[6]? = some (.inl (4, 401, .inr (.inr (.inr (.inr (gP g 6))))))) (h2 : ∀ f', (Wd g).set 6 (.inl (4, 401, .inr (.inr (.inr (.inr f'))))) = Wd (sP g 6 f')) (hin : vp_in i 401)
    (h : J M R Q n0 nx L rest (Wd (sP g 6 (va_up (gP g 6) i.toNatClampNeg (some (CST + j))))) 0 0) : J M R Q n0 pc L (.ref (CST + j) :: .int i :: .ref 6 :: rest) (Wd g) 0 0 := by
  refine J_aastW (nx := nx) d hn hj he hin ?_
  rw [h2]
  exact h
def atF (g : GS) (a b : Nat) : Int32 := if nI b ≤ nI a then 0 else bt g (nI a)
def at1 (g : GS) (a : Nat) : GS := sA g 3 (rPut 401 (gA g 3) (gF g 1 6) (nI a))
def atV (g : GS) (f : Int32) (a b : Nat) : Int32 := if bI (isD f) = 0 then -1 else if 4 < nI b - nI a then -1 else noR g (b - a) a 0
def at2 (g : GS) (v : Int32) : GS := sA g 4 (rPut 401 (gA g 4) (gF g 1 6) v)
def atS (f : Int32) : Int32 := if ¬ bI (isD f) = 0 then 0 else if bI (isL f) = 0 then f else 0
def at3 (g : GS) (v : Int32) : GS := sA g 5 (rPut 401 (gA g 5) (gF g 1 6) v)
def atW (g : GS) (f : Int32) (a b : Nat) : Nat := if bI (isL f) = 0 then 0 else ofW g (nI a) (nI b)
def at4 (g : GS) (w : Nat) : GS := sP g 6 (va_up (gP g 6) (gF g 1 6).toNatClampNeg (some (CST + w)))
def at5 (g : GS) : GS := sF g 1 6 (gF g 1 6 + 1)
def at45 (g : GS) (f : Int32) (a b : Nat) : GS := at5 (at4 g (atW g f a b))
def at345 (g : GS) (f : Int32) (a b : Nat) : GS := at45 (at3 g (atS f)) f a b
def at2345 (g : GS) (f : Int32) (a b : Nat) : GS := at345 (at2 g (atV g f a b)) f a b
def atG (g : GS) (a b : Nat) : GS := at2345 (at1 g a) (atF g a b) a b
theorem atW_lt (g : GS) (f : Int32) (a b : Nat) : atW g f a b < 23 := by
  unfold atW
  split
  · decide
  · exact ofW_lt _ _ _
def nxA (g : GS) : GS := if gF g 1 6 ≤ gF g 1 7 + 1 then g else sF g 1 7 (gF g 1 7 + 1)
def nxB (g : GS) (k : Nat) : GS := sV (sF (sF (sF g 1 8 (gA g 3 k)) 1 9 (gA g 4 k)) 1 10 (gA g 5 k)) 1 11 (va_rf (gP g 6 k))
def nxG (g : GS) : GS := nxB (nxA g) (gF (nxA g) 1 7).toNatClampNeg
def NXOK (g : GS) : Prop := ∃ k j, gF (nxA g) 1 7 = nI k ∧ k ≤ 400 ∧ j < 23 ∧ gP g 6 k = some (CST + j)
theorem nxA_P (g : GS) : gP (nxA g) = gP g := by unfold nxA; split <;> rfl
theorem nxA_A (g : GS) : gA (nxA g) = gA g := by unfold nxA; split <;> rfl

set_option maxRecDepth 100000 in
set_option maxHeartbeats 4000000 in
theorem sg_at98 (g : GS) (a b t : Nat) (f v : Int32) (hT : gF g 1 6 = nI t) (ht : t ≤ 400) (n0 : Nat) : J mX7_addThing (rm 6 0 0) (RR (.inl none) (at45 (at3 g v) f a b)) n0 98 [some (.ref 1), some (.int (nI a)), some (.int (nI b)), some (.int f), some (.int (bI (isD f))), some (.int (bI (isL f)))] [.int v, .int (gF g 1 6), .ref 5] (Wd g) 0 0 := by
  show J _ _ _ _ 98 _ [.int v, .int (gF g 1 6), .ref 5] (Wd g) 0 0
  refine JcS3 (R' := rm 0 0 0) (nx := 101) dX7_addThing_98 rfl ml_X6_put lk_X7_41 st_X6_put ⟨(Nat.le_of_ble_eq_true rfl), (Nat.le_of_ble_eq_true rfl)⟩ (Nat.le_of_ble_eq_true rfl) ⟨rfl, rfl⟩ (ct_put _ 5 401 _ _ rfl (fun _ => rfl) (by decide)) ?_
  refine J.gen (fun g_98 hg_98 => ?_)
  refine J_aload_n (nx := 102) dX7_addThing_101 rfl rfl ?_
  refine Jg_1_6 (nx := 105) dX7_addThing_102 rfl fl_X7_47 ?_
  refine J_if_lt (nx := 108) (tgt := 149) dX7_addThing_105 rfl (by decide) (fun c_105 => ?_) (fun c_105 => ?_)
  · exact absurd (show nI t < 0 from by rw [hg_98] at c_105; exact hT ▸ c_105) (nI_pos (by omega))
  · refine J_aload_n (nx := 109) dX7_addThing_108 rfl rfl ?_
    refine Jg_1_6 (nx := 112) dX7_addThing_109 rfl fl_X7_47 ?_
    refine J_aload_n (nx := 113) dX7_addThing_112 rfl rfl ?_
    refine Jg_1_5 (nx := 116) dX7_addThing_113 rfl fl_X7_26 ?_
    refine Jn_6 (nx := 117) dX7_addThing_116 rfl ?_
    refine J_icmp_ge (nx := 120) (tgt := 149) dX7_addThing_117 rfl (by decide) (fun c_117 => ?_) (fun c_117 => ?_)
    · exact absurd (show nI 401 ≤ nI t from by rw [hg_98] at c_117; exact hT ▸ c_117) (nlt_nI (by omega) (by omega))
    · refine J_aload_n (nx := 121) dX7_addThing_120 rfl rfl ?_
      refine Jg_1_5 (nx := 124) dX7_addThing_121 rfl fl_X7_26 ?_
      refine J_aload_n (nx := 125) dX7_addThing_124 rfl rfl ?_
      refine Jg_1_6 (nx := 128) dX7_addThing_125 rfl fl_X7_47 ?_
      refine J_iload (nx := 130) dX7_addThing_128 rfl rfl ?_
      refine J_if_eq (nx := 133) (tgt := 145) dX7_addThing_130 rfl (by decide) (fun c_130 => ?_) (fun c_130 => ?_)
      · refine J_getsW (nx := 148) (j := 0) dX7_addThing_145 rfl (by decide) gs_X7_30 ?_
        sorry
