
/-! LINES of a text, pure -/
abbrev Hd : Type := Int32 × Int32 × Nat × Nat
abbrev NR : Type := Nat ⊕ (Nat × Nat)
abbrev Ed : Type := Nat × Nat × Nat
def pNum (o : Ob) (b most : Nat) : NR := if oNum o b < 0 then .inl b else if oNum o b ≤ nI most then .inr (oNxt o b, (oNum o b).toNatClampNeg) else .inl b
def pState (o : Ob) (b : Nat) : NR := match pNum o b 7 with
  | .inl e => .inl e
  | .inr q => match pNum o q.1 3 with
    | .inl e => .inl e
    | .inr u => .inr (u.1, 4 * q.2 + u.2)
def pWhat (o : Ob) (b : Nat) : NR := if oWrd o b = 3 then .inr (oNxt o b, 32) else if oWrd o b = 4 then .inr (oNxt o b, 33) else if oWrd o b = 2 then pState o (oNxt o b) else .inl b
def chT (o : Ob) (s : Nat) (r : NR) : Nat ⊕ (Nat × Ed) := match r with
  | .inl e => .inl e
  | .inr u => match pNum o u.1 100 with
    | .inl e => .inl e
    | .inr v => .inr (v.1, 0, 34 * s + u.2, v.2)
def pChance (o : Ob) (b : Nat) : Nat ⊕ (Nat × Ed) := match pState o b with
  | .inl e => .inl e
  | .inr q => chT o q.2 (pWhat o q.1)
def pKick (o : Ob) (b : Nat) : Nat ⊕ (Nat × Ed) := match pNum o b 7 with
  | .inl e => .inl e
  | .inr q => match pNum o q.1 9999 with
    | .inl e => .inl e
    | .inr v => .inr (v.1, 1, q.2, v.2)
def pGrace (o : Ob) (b : Nat) : Nat ⊕ (Nat × Ed) := match pNum o b 10 with
  | .inl e => .inl e
  | .inr v => .inr (v.1, 2, 0, v.2)
def pGame (o : Ob) (b : Nat) : Nat ⊕ (Nat × Ed) := if oWrd o b = 1 then pChance o (oNxt o b) else if oWrd o b = 19 then pKick o (oNxt o b) else if oWrd o b = 5 then pGrace o (oNxt o b) else .inl b
abbrev LR : Type := Nat ⊕ (Nat × Hd × List Int32)
def pDeed (o : Ob) (b : Nat) : Int32 := if oWrd o b = 9 then 0 else if oWrd o b = 10 then 1 else if oWrd o b = 11 then 2 else -1
def pRule (o : Ob) (b : Nat) (cs : List Int32) : LR := if pDeed o b = -1 then .inl b else if oWrd o (oNxt o b) = 8 then (match pCond o true 6 (oNxt o (oNxt o b)) cs with
  | .inl e => .inl e
  | .inr q => .inr (q.1, (pDeed o b, -1, cs.length, q.2.length), q.2)) else .inl (oNxt o b)
def pFac (o : Ob) (b : Nat) : Nat ⊕ (Nat × Int32) := if oSgn o b = 42 then (if pFact o false (oNxt o b) = -1 then .inl (oNxt o b) else .inr (oNxt o (oNxt o b), pFact o false (oNxt o b))) else .inr (b, -1)
def pIf (o : Ob) (b : Nat) (cs : List Int32) : PR := if oWrd o b = 8 then pCond o false 6 (oNxt o b) cs else .inr (b, cs)
def pGoal (o : Ob) (b : Nat) (cs : List Int32) : LR := if oWrd o b = 6 ∨ oWrd o b = 7 then (match pNum o (oNxt o b) 9999 with
  | .inl e => .inl e
  | .inr q => match pFac o q.1 with
    | .inl e => .inl e
    | .inr u => match pIf o u.1 cs with
      | .inl e => .inl e
      | .inr v => .inr (v.1, (if oWrd o b = 6 then nI q.2 else -(nI q.2), u.2, cs.length, v.2.length), v.2)) else .inl b
def pText {α : Type} (o : Ob) (line : Nat → α → Nat ⊕ (Nat × α)) : Nat → Nat → α → Nat ⊕ α
  | 0, b, _ => .inl b
  | k + 1, b, s => match line b s with
    | .inl e => .inl e
    | .inr q => if oN o ≤ q.1 then .inr q.2 else if oSgn o q.1 = 59 then pText o line k (oNxt o q.1) q.2 else .inl q.1
def pRead {α : Type} (o : Ob) (line : Nat → α → Nat ⊕ (Nat × α)) (b : Nat) (s : α) : Nat ⊕ α := if oN o ≤ b then .inr s else pText o line 12 b s
/-- numbers are in their bounds -/
theorem pNum_ok {o : Ob} (ho : ObOK o) {b most : Nat} {q : Nat × Nat} (hm : most < 2 ^ 31) (h : pNum o b most = .inr q) : b < oN o ∧ q.1 = oNxt o b ∧ q.2 ≤ most ∧ oNum o b = nI q.2 := by
  unfold pNum at h
  by_cases h1 : oNum o b < 0
  · rw [if_pos h1] at h; cases h
  · rw [if_neg h1] at h
    by_cases h2 : oNum o b ≤ nI most
    · rw [if_pos h2] at h
      have h3 : ¬ oNum o b = -1 := fun z => h1 (by rw [z]; decide)
      obtain ⟨v, hv, e⟩ := (ho.2.2.2.2 b).resolve_left h3
      cases h
      rw [e] at h2 ⊢
      rw [nI_clamp (by omega)]
      exact ⟨ho.num h3, rfl, (nI_leI (by omega) hm).mp h2, rfl⟩
    · rw [if_neg h2] at h; cases h
theorem pState_ok {o : Ob} (ho : ObOK o) {b : Nat} {q : Nat × Nat} (h : pState o b = .inr q) : q.2 < 32 ∧ b < q.1 ∧ q.1 ≤ oN o := by
  unfold pState at h
  split at h
  · cases h
  · rename_i q1 h1
    have k1 := pNum_ok ho (by decide) h1
    have n1 := ho.2.1 b k1.1
    split at h
    · cases h
    · rename_i u h2
      have k2 := pNum_ok ho (by decide) h2
      have n2 := ho.2.1 _ k2.1
      cases h
      show 4 * q1.2 + u.2 < 32 ∧ b < u.1 ∧ u.1 ≤ oN o
      have := k1.2.1; have := k2.2.1
      refine ⟨by omega, by omega, by omega⟩
theorem pWhat_ok {o : Ob} (ho : ObOK o) {b : Nat} {q : Nat × Nat} (h : pWhat o b = .inr q) : q.2 < 34 ∧ b < q.1 ∧ q.1 ≤ oN o := by
  unfold pWhat at h
  split at h
  · rename_i h1; cases h; have := ho.2.1 b (ho.wrd h1 (by decide)); exact ⟨by show (32 : Nat) < 34; decide, this.1, this.2⟩
  · split at h
    · rename_i h1; cases h; have := ho.2.1 b (ho.wrd h1 (by decide)); exact ⟨by show (33 : Nat) < 34; decide, this.1, this.2⟩
    · split at h
      · rename_i h1
        have h2 := pState_ok ho h
        have := ho.2.1 b (ho.wrd h1 (by decide))
        exact ⟨by omega, by omega, h2.2.2⟩
      · cases h
/-! what the class does on a LINE -/
def PQ (o : Ob) (rl : Bool) (g : GS) (cs : List Int32) (r : NR) (x : Int32) (g' : GS) : Prop := Fr fC aC g g' ∧ (match r with
  | .inl e => x = -1 ∧ gF g' 7 7 = nI e
  | .inr q => x = nI q.2 ∧ q.2 < 2 ^ 30 ∧ TS o rl g' q.1 cs)
theorem PN.pq {o : Ob} (ho : ObOK o) {rl : Bool} {g g' : GS} {b most : Nat} {cs : List Int32} {x : Int32} (hm : most < 2 ^ 30) (h : PN o rl g b cs (nI most) x g') : PQ o rl g cs (pNum o b most) x g' := by
  refine ⟨h.1, ?_⟩
  have h2 := h.2
  by_cases h1 : oNum o b < 0
  · rw [if_pos h1] at h2
    rw [show pNum o b most = .inl b from if_pos h1]; exact h2
  · rw [if_neg h1] at h2
    by_cases h3 : oNum o b ≤ nI most
    · rw [if_pos h3] at h2
      have e : pNum o b most = .inr (oNxt o b, (oNum o b).toNatClampNeg) := (if_neg h1).trans (if_pos h3)
      have k := pNum_ok ho (by omega) e
      rw [e]
      exact ⟨h2.1.trans k.2.2.2, by have := k.2.2.1; show (oNum o b).toNatClampNeg < 2 ^ 30; omega, h2.2⟩
    · rw [if_neg h3] at h2
      rw [show pNum o b most = .inl b from (if_neg h1).trans (if_neg h3)]; exact h2
theorem nI_ne {n : Nat} (h : n < 2 ^ 31) : ¬ nI n = -1 := by
  intro z
  have := congrArg Int32.toInt z
  rw [nI_toInt h, show (-1 : Int32).toInt = -1 by decide] at this
  omega
theorem PQ.no {o : Ob} {rl : Bool} {g g' : GS} {cs : List Int32} {r : NR} {x : Int32} (h : PQ o rl g cs r x g') (hx : x = -1) : ∃ e, r = .inl e ∧ gF g' 7 7 = nI e := by
  cases r with
  | inl e => exact ⟨e, rfl, h.2.2⟩
  | inr q => exact absurd (h.2.1.symm.trans hx) (nI_ne (by have := h.2.2.1; omega))
theorem PQ.goes {o : Ob} {rl : Bool} {g g' : GS} {cs : List Int32} {r : NR} {x : Int32} (h : PQ o rl g cs r x g') (hx : ¬ x = -1) : ∃ q, r = .inr q ∧ x = nI q.2 ∧ q.2 < 2 ^ 30 ∧ TS o rl g' q.1 cs := by
  cases r with
  | inl e => exact absurd h.2.1 hx
  | inr q => exact ⟨q, rfl, h.2⟩

theorem ct_takeNum (o : Ob) (ho : ObOK o) (rl : Bool) (g : GS) (b : Nat) (cs : List Int32) (h : TS o rl g b cs) (most : Nat) (hm : most < 2 ^ 30) : Ct mX8_takeNumber (rm 1 0 0) [.ref 7, .int (nI most)] (Wd g) (RXi (PQ o rl g cs (pNum o b most))) := (ct_takeNumber o ho rl g b cs h (nI most)).imp (fun r es q => by obtain ⟨x, g1, e1, e2, hp⟩ := q; exact ⟨x, g1, e1, e2, PN.pq ho hm hp⟩)
set_option maxRecDepth 100000 in
set_option maxHeartbeats 4000000 in
theorem ct_takeState (o : Ob) (ho : ObOK o) (rl : Bool) (g : GS) (b : Nat) (cs : List Int32) (h : TS o rl g b cs) : Ct mX8_takeState (rm 2 0 0) [.ref 7] (Wd g) (RXi (PQ o rl g cs (pState o b))) := by
  refine Ct.of (by decide +kernel) (Nat.le_of_ble_eq_true rfl) ?_
  show J _ _ _ _ 0 [some (.ref 7), none, none] [] _ 0 0
  refine J_aload_n (nx := 1) dX8_takeState_0 rfl rfl ?_
  refine J_bipush (nx := 3) (i := 7) (v := 7) (by decide) dX8_takeState_1 rfl ?_
  refine JiV1 (R' := rm (1) 0 0) (nx := 6) dX8_takeState_3 rfl ml_X8_takeNumber lk_X8_138 iv_X8_takeNumber rfl rfl ⟨(Nat.le_of_ble_eq_true rfl), (Nat.le_of_ble_eq_true rfl)⟩ (Nat.le_of_ble_eq_true rfl) ⟨rfl, rfl⟩ (ct_takeNum o ho rl g b cs h 7 (by decide)) (fun x_3 g_3 p_3 => ?_)
  refine J_istore_n (nx := 7) dX8_takeState_6 rfl rfl (Nat.le_of_ble_eq_true rfl) ?_
  refine J_iload_n (nx := 8) dX8_takeState_7 rfl rfl ?_
  refine J_iconst (nx := 9) (i := -1) (v := -1) (by decide) dX8_takeState_8 rfl ?_
  refine J_icmp_ne (nx := 12) (tgt := 16) dX8_takeState_9 rfl (by decide) (fun c_9 => ?_) (fun c_9 => ?_)
  · obtain ⟨q, hq, hx, hq2, hT⟩ := p_3.goes c_9
    refine J_aload_n (nx := 17) dX8_takeState_16 rfl rfl ?_
    refine J_iconst (nx := 18) (i := 3) (v := 3) (by decide) dX8_takeState_17 rfl ?_
    refine JiV1 (R' := rm (1) 0 0) (nx := 21) dX8_takeState_18 rfl ml_X8_takeNumber lk_X8_138 iv_X8_takeNumber rfl rfl ⟨(Nat.le_of_ble_eq_true rfl), (Nat.le_of_ble_eq_true rfl)⟩ (Nat.le_of_ble_eq_true rfl) ⟨rfl, rfl⟩ (ct_takeNum o ho rl g_3 q.1 cs hT 3 (by decide)) (fun x_18 g_18 p_18 => ?_)
    refine J_istore_n (nx := 22) dX8_takeState_21 rfl rfl (Nat.le_of_ble_eq_true rfl) ?_
    refine J_iload_n (nx := 23) dX8_takeState_22 rfl rfl ?_
    refine J_iconst (nx := 24) (i := -1) (v := -1) (by decide) dX8_takeState_23 rfl ?_
    refine J_icmp_ne (nx := 27) (tgt := 31) dX8_takeState_24 rfl (by decide) (fun c_24 => ?_) (fun c_24 => ?_)
    · refine J_iconst (nx := 32) (i := 4) (v := 4) (by decide) dX8_takeState_31 rfl ?_
      obtain ⟨u, hu, hx2, hu2, hU⟩ := p_18.goes c_24
      have e : pState o b = .inr (u.1, 4 * q.2 + u.2) := by unfold pState; rw [hq]; dsimp only; rw [hu]
      refine J_iload_n (nx := 33) dX8_takeState_32 rfl rfl ?_
      refine J_imul (nx := 34) dX8_takeState_33 rfl ?_
      refine J_iload_n (nx := 35) dX8_takeState_34 rfl rfl ?_
      refine J_iadd (nx := 36) dX8_takeState_35 rfl ?_
      skip
      exact Jri dX8_takeState_36 rfl (Nat.zero_le _) (Nat.zero_le _) (RXi.of ⟨p_3.1.tr p_18.1, by rw [e, hx, hx2, show (4 : Int32) = nI 4 from rfl, nI_mul, nI_add]; exact ⟨rfl, by have := pState_ok ho e; show 4 * q.2 + u.2 < 2 ^ 30; have : 4 * q.2 + u.2 < 32 := this.1; omega, hU⟩⟩)
    · refine J_iconst (nx := 28) (i := -1) (v := -1) (by decide) dX8_takeState_27 rfl ?_
      refine J_goto (nx := 36) dX8_takeState_28 (by decide) ?_
      skip
      exact Jri dX8_takeState_36 rfl (Nat.zero_le _) (Nat.zero_le _) (by obtain ⟨e, he, hf⟩ := p_18.no c_24; exact RXi.of ⟨p_3.1.tr p_18.1, by rw [show pState o b = .inl e from by unfold pState; rw [hq]; dsimp only; rw [he]]; exact ⟨rfl, hf⟩⟩)
  · refine J_iconst (nx := 13) (i := -1) (v := -1) (by decide) dX8_takeState_12 rfl ?_
    refine J_goto (nx := 21) dX8_takeState_13 (by decide) ?_
    refine J_istore_n (nx := 22) dX8_takeState_21 rfl rfl (Nat.le_of_ble_eq_true rfl) ?_
    refine J_iload_n (nx := 23) dX8_takeState_22 rfl rfl ?_
    refine J_iconst (nx := 24) (i := -1) (v := -1) (by decide) dX8_takeState_23 rfl ?_
    refine J_icmp_ne (nx := 27) (tgt := 31) dX8_takeState_24 rfl (by decide) (fun c_24 => ?_) (fun c_24 => ?_)
    · exact absurd rfl c_24
    · refine J_iconst (nx := 28) (i := -1) (v := -1) (by decide) dX8_takeState_27 rfl ?_
      refine J_goto (nx := 36) dX8_takeState_28 (by decide) ?_
      skip
      exact Jri dX8_takeState_36 rfl (Nat.zero_le _) (Nat.zero_le _) (by obtain ⟨e, he, hf⟩ := p_3.no c_9; exact RXi.of ⟨p_3.1, by rw [show pState o b = .inl e from by unfold pState; rw [he]]; exact ⟨rfl, hf⟩⟩)


def fG (c k : Nat) : Bool := fC c k || (Nat.beq c 8 && Nat.beq k 12)
def aG (c : Nat) : Bool := aC c || Nat.beq c 9 || Nat.beq c 10
abbrev Dr : Type := (Nat → Int32) × (Nat → Int32) × Int32
def drOf (g : GS) : Dr := (gA g 9, gA g 10, gF g 8 12)
def apE (e : Ed) (d : Dr) : Dr := match e.1 with
  | 0 => (upd d.1 e.2.1 (nI e.2.2), d.2.1, d.2.2)
  | 1 => (d.1, upd d.2.1 e.2.1 (nI e.2.2), d.2.2)
  | _ => (d.1, d.2.1, nI e.2.2)
def PG (o : Ob) (rl : Bool) (g : GS) (cs : List Int32) (r : Nat ⊕ (Nat × Ed)) (x : Int32) (g' : GS) : Prop := Fr fG aG g g' ∧ (match r with
  | .inl e => x = 0 ∧ gF g' 7 7 = nI e
  | .inr q => x = 1 ∧ TS o rl g' q.1 cs ∧ drOf g' = apE q.2 (drOf g))
theorem fr_CG {g g' : GS} (h : Fr fC aC g g') : Fr fG aG g g' := h.mono (fun _ _ e => or_ff e) (fun _ e => or_ff (or_ff e))
theorem drOf_C {g g' : GS} (h : Fr fC aC g g') : drOf g' = drOf g := by
  unfold drOf
  rw [h.2.1 9 rfl, h.2.1 10 rfl, h.1 8 12 rfl]
theorem PG.pre {o : Ob} {rl : Bool} {g0 g g' : GS} {cs : List Int32} {r : Nat ⊕ (Nat × Ed)} {x : Int32} (hf : Fr fC aC g0 g) (h : PG o rl g cs r x g') : PG o rl g0 cs r x g' := by
  refine ⟨(fr_CG hf).tr h.1, ?_⟩
  have h2 := h.2
  cases r with
  | inl e => exact h2
  | inr q => exact ⟨h2.1, h2.2.1, by rw [h2.2.2, drOf_C hf]⟩
theorem PG.bad {o : Ob} {rl : Bool} {g g' : GS} {cs : List Int32} {e : Nat} {r : Nat ⊕ (Nat × Ed)} (hf : Fr fC aC g g') (hr : r = .inl e) (h : gF g' 7 7 = nI e) : PG o rl g cs r 0 g' := by
  subst hr; exact ⟨fr_CG hf, rfl, h⟩
theorem PG.nar {o : Ob} {rl : Bool} {g g' : GS} {cs : List Int32} {r : Nat ⊕ (Nat × Ed)} {x : Int32} (h : PG o rl g cs r x g') : narrow .boolean (.int x) = .int x := by
  obtain ⟨h1, h2⟩ := h
  cases r with
  | inl e => rw [h2.1]; decide
  | inr q => rw [h2.1]; decide
theorem TS.fr9 {o : Ob} {rl : Bool} {g : GS} {b : Nat} {cs : List Int32} (h : TS o rl g b cs) (f : Nat → Int32) : TS o rl (sA g 9 f) b cs := ⟨h.1.fr (f := fun _ _ => false) (a := fun c => Nat.beq c 9) (Fr.rf.sA rfl) (fun _ => rfl) rfl rfl rfl rfl, h.2⟩
theorem TS.fr10 {o : Ob} {rl : Bool} {g : GS} {b : Nat} {cs : List Int32} (h : TS o rl g b cs) (f : Nat → Int32) : TS o rl (sA g 10 f) b cs := ⟨h.1.fr (f := fun _ _ => false) (a := fun c => Nat.beq c 10) (Fr.rf.sA rfl) (fun _ => rfl) rfl rfl rfl rfl, h.2⟩
theorem TS.fr8 {o : Ob} {rl : Bool} {g : GS} {b : Nat} {cs : List Int32} (h : TS o rl g b cs) (v : Int32) : TS o rl (sF g 8 12 v) b cs := ⟨h.1.fr (f := fun c _ => Nat.beq c 8) (a := fun _ => false) (Fr.rf.sF rfl) (fun _ => rfl) rfl rfl rfl rfl, h.2⟩

set_option maxRecDepth 100000 in
set_option maxHeartbeats 4000000 in
theorem sg_ch80 (o : Ob) (ho : ObOK o) (rl : Bool) (g g1 : GS) (cs : List Int32) (s : Nat) (hs : s < 32) (r2 : NR) (x2 : Int32) (r : Nat ⊕ (Nat × Ed)) (hP : PQ o rl g cs r2 x2 g1) (h34 : ∀ q, r2 = .inr q → q.2 < 34) (hr : r = chT o s r2) (n0 : Nat) : J mX8_readChance (rm 3 0 0) (RXi (PG o rl g cs r)) n0 80 [some (.ref 7), some (.int (nI s)), some (.int x2), none] [] (Wd g1) 0 0 := by
  refine J_iload_n (nx := 81) dX8_readChance_80 rfl rfl ?_
  refine J_iconst (nx := 82) (i := -1) (v := -1) (by decide) dX8_readChance_81 rfl ?_
  refine J_icmp_ne (nx := 85) (tgt := 89) dX8_readChance_82 rfl (by decide) (fun c_82 => ?_) (fun c_82 => ?_)
  · obtain ⟨u, hu, hx2, hu2, hU⟩ := PQ.goes hP c_82; have hu3 := h34 u hu
    refine J_aload_n (nx := 90) dX8_readChance_89 rfl rfl ?_
    refine J_bipush (nx := 92) (i := 100) (v := 100) (by decide) dX8_readChance_90 rfl ?_
    refine JiV1 (R' := rm (1) 0 0) (nx := 95) dX8_readChance_92 rfl ml_X8_takeNumber lk_X8_138 iv_X8_takeNumber rfl rfl ⟨(Nat.le_of_ble_eq_true rfl), (Nat.le_of_ble_eq_true rfl)⟩ (Nat.le_of_ble_eq_true rfl) ⟨rfl, rfl⟩ (ct_takeNum o ho rl g1 u.1 cs hU 100 (by decide)) (fun x_92 g_92 p_92 => ?_)
    refine J_istore_n (nx := 96) dX8_readChance_95 rfl rfl (Nat.le_of_ble_eq_true rfl) ?_
    refine J_iload_n (nx := 97) dX8_readChance_96 rfl rfl ?_
    refine J_iconst (nx := 98) (i := -1) (v := -1) (by decide) dX8_readChance_97 rfl ?_
    refine J_icmp_ne (nx := 101) (tgt := 103) dX8_readChance_98 rfl (by decide) (fun c_98 => ?_) (fun c_98 => ?_)
    · refine J_aload_n (nx := 104) dX8_readChance_103 rfl rfl ?_
      obtain ⟨v, hv, hx3, hv2, hV⟩ := p_92.goes c_98
      have k3 := pNum_ok ho (by decide) hv
      refine Jg_7_1 (nx := 107) dX8_readChance_104 rfl fl_X8_12 ?_
      refine J_iload_n (nx := 108) dX8_readChance_107 rfl rfl ?_
      refine J_iload_n (nx := 109) dX8_readChance_108 rfl rfl ?_
      refine J_iload_n (nx := 110) dX8_readChance_109 rfl rfl ?_
      refine JcV3 (R' := rm (1) 0 0) (nx := 113) dX8_readChance_110 rfl ml_X1_setChance lk_X8_141 iv_X1_setChance rfl rfl ⟨(Nat.le_of_ble_eq_true rfl), (Nat.le_of_ble_eq_true rfl)⟩ (Nat.le_of_ble_eq_true rfl) ⟨rfl, rfl⟩ (ct_X1_setChance_8 _ _ _ _) ?_
      refine J_iconst (nx := 114) (i := 1) (v := 1) (by decide) dX8_readChance_113 rfl ?_
      exact Jrz dX8_readChance_114 rfl (by decide) (Nat.zero_le _) (Nat.zero_le _) (by rw [hx2, hx3]; refine RXi.of ⟨(fr_CG (hP.1.tr p_92.1)).sA rfl, ?_⟩; rw [show r = .inr (v.1, 0, 34 * s + u.2, v.2) from by rw [hr, hu]; unfold chT; dsimp only; rw [hv]]; refine ⟨rfl, hV.fr9 _, ?_⟩; show (rPut 1088 (gA g_92 9) (34 * nI s + nI u.2) (nI v.2), gA g_92 10, gF g_92 8 12) = (upd (gA g 9) (34 * s + u.2) (nI v.2), gA g 10, gF g 8 12); have e9 := drOf_C (hP.1.tr p_92.1); unfold drOf at e9; rw [show (34 : Int32) = nI 34 from rfl, nI_mul, nI_add, rPut_in (by omega) (by decide), show gA g_92 9 = gA g 9 from congrArg Prod.fst e9]; exact congrArg (fun z => (upd (gA g 9) (34 * s + u.2) (nI v.2), z)) (congrArg Prod.snd e9))
    · refine J_iconst (nx := 102) (i := 0) (v := 0) (by decide) dX8_readChance_101 rfl ?_
      exact Jrz dX8_readChance_102 rfl (by decide) (Nat.zero_le _) (Nat.zero_le _) (by obtain ⟨e, he, hf⟩ := p_92.no c_98; exact RXi.of (PG.bad (hP.1.tr p_92.1) (by rw [hr, hu]; unfold chT; dsimp only; rw [he]) hf))
  · refine J_iconst (nx := 86) (i := -1) (v := -1) (by decide) dX8_readChance_85 rfl ?_
    refine J_goto (nx := 95) dX8_readChance_86 (by decide) ?_
    refine J_istore_n (nx := 96) dX8_readChance_95 rfl rfl (Nat.le_of_ble_eq_true rfl) ?_
    refine J_iload_n (nx := 97) dX8_readChance_96 rfl rfl ?_
    refine J_iconst (nx := 98) (i := -1) (v := -1) (by decide) dX8_readChance_97 rfl ?_
    refine J_icmp_ne (nx := 101) (tgt := 103) dX8_readChance_98 rfl (by decide) (fun c_98 => ?_) (fun c_98 => ?_)
    · exact absurd rfl c_98
    · refine J_iconst (nx := 102) (i := 0) (v := 0) (by decide) dX8_readChance_101 rfl ?_
      exact Jrz dX8_readChance_102 rfl (by decide) (Nat.zero_le _) (Nat.zero_le _) (by obtain ⟨e, he, hf⟩ := PQ.no hP c_82; exact RXi.of (PG.bad hP.1 (by rw [hr, he]; rfl) hf))

set_option maxRecDepth 100000 in
set_option maxHeartbeats 4000000 in
theorem ct_readChance (o : Ob) (ho : ObOK o) (rl : Bool) (g : GS) (b : Nat) (cs : List Int32) (h : TS o rl g b cs) : Ct mX8_readChance (rm 3 0 0) [.ref 7] (Wd g) (RXi (PG o rl g cs (pChance o b))) := by
  refine Ct.of (by decide +kernel) (Nat.le_of_ble_eq_true rfl) ?_
  show J _ _ _ _ 0 [some (.ref 7), none, none, none] [] _ 0 0
  refine J_aload_n (nx := 1) dX8_readChance_0 rfl rfl ?_
  refine JiV0 (R' := rm (2) 0 0) (nx := 4) dX8_readChance_1 rfl ml_X8_takeState lk_X8_121 iv_X8_takeState rfl rfl ⟨(Nat.le_of_ble_eq_true rfl), (Nat.le_of_ble_eq_true rfl)⟩ (Nat.le_of_ble_eq_true rfl) ⟨rfl, rfl⟩ (ct_takeState o ho rl g b cs h) (fun x_1 g_1 p_1 => ?_)
  refine J_istore_n (nx := 5) dX8_readChance_4 rfl rfl (Nat.le_of_ble_eq_true rfl) ?_
  refine J_iload_n (nx := 6) dX8_readChance_5 rfl rfl ?_
  refine J_iconst (nx := 7) (i := -1) (v := -1) (by decide) dX8_readChance_6 rfl ?_
  refine J_icmp_ne (nx := 10) (tgt := 12) dX8_readChance_7 rfl (by decide) (fun c_7 => ?_) (fun c_7 => ?_)
  · obtain ⟨q, hq, hx, hq2, hT⟩ := p_1.goes c_7
    have k1 := pState_ok ho hq
    have hr : pChance o b = chT o q.2 (pWhat o q.1) := by unfold pChance; rw [hq]
    rw [hx]
    refine J_aload_n (nx := 13) dX8_readChance_12 rfl rfl ?_
    refine Jg_7_0 (nx := 16) dX8_readChance_13 rfl fl_X8_31 ?_
    refine Jg_1_11 (nx := 19) dX8_readChance_16 rfl fl_X8_88 ?_
    rw [hT.wrd]
    refine J_getsW (nx := 22) (j := 3) dX8_readChance_19 rfl (by decide) gs_X8_125 ?_
    refine J_acmp_ne (nx := 25) (i := (oWrd o q.1)) (j := 3) (tgt := 30) dX8_readChance_22 rfl (by decide) (ho.2.2.2.1 _) (by decide) (fun c_22 => ?_) (fun c_22 => ?_)
    · refine J_aload_n (nx := 31) dX8_readChance_30 rfl rfl ?_
      refine Jg_7_0 (nx := 34) dX8_readChance_31 rfl fl_X8_31 ?_
      refine Jg_1_11 (nx := 37) dX8_readChance_34 rfl fl_X8_88 ?_
      rw [hT.wrd]
      refine J_getsW (nx := 40) (j := 4) dX8_readChance_37 rfl (by decide) gs_X8_128 ?_
      refine J_acmp_ne (nx := 43) (i := (oWrd o q.1)) (j := 4) (tgt := 48) dX8_readChance_40 rfl (by decide) (ho.2.2.2.1 _) (by decide) (fun c_40 => ?_) (fun c_40 => ?_)
      · refine J_iconst (nx := 49) (i := -1) (v := -1) (by decide) dX8_readChance_48 rfl ?_
        refine J_istore_n (nx := 50) dX8_readChance_49 rfl rfl (Nat.le_of_ble_eq_true rfl) ?_
        refine J_iload_n (nx := 51) dX8_readChance_50 rfl rfl ?_
        refine J_iconst (nx := 52) (i := -1) (v := -1) (by decide) dX8_readChance_51 rfl ?_
        refine J_icmp_eq (nx := 55) (tgt := 65) dX8_readChance_52 rfl (by decide) (fun c_52 => ?_) (fun c_52 => ?_)
        · refine J_aload_n (nx := 66) dX8_readChance_65 rfl rfl ?_
          refine J_getsW (nx := 69) (j := 2) dX8_readChance_66 rfl (by decide) gs_X8_131 ?_
          refine JiV1 (R' := rm (1) 0 0) (nx := 72) dX8_readChance_69 rfl ml_X8_takeWord lk_X8_134 iv_X8_takeWord rfl rfl ⟨(Nat.le_of_ble_eq_true rfl), (Nat.le_of_ble_eq_true rfl)⟩ (Nat.le_of_ble_eq_true rfl) ⟨rfl, rfl⟩ (ct_takeWord o ho rl g_1 q.1 cs hT 2 (by decide) (by decide)) (fun x_69 g_69 p_69 => ?_)
          refine J_if_eq (nx := 75) (tgt := 80) dX8_readChance_72 rfl (by decide) (fun c_72 => ?_) (fun c_72 => ?_)
          · have hw : ¬ oWrd o q.1 = 2 := by
              intro hw
              have p2 := p_69.2
              rw [if_pos hw] at p2
              exact absurd (p2.1.symm.trans c_72) (by decide)
            have p2 := p_69.2
            rw [if_neg hw] at p2
            have eW : pWhat o q.1 = .inl q.1 := (if_neg c_22).trans ((if_neg c_40).trans (if_neg hw))
            exact sg_ch80 o ho rl g g_69 cs q.2 k1.1 _ _ _ (by rw [eW]; exact ⟨p_1.1.tr p_69.1, rfl, p2.2⟩) (fun q1 h1 => (pWhat_ok ho h1).1) hr _
          · obtain ⟨u, hu, hU⟩ := p_69.goes c_72
            have k2 : oWrd o q.1 = 2 ∧ u = (oNxt o q.1, cs) := by
              by_cases hw : oWrd o q.1 = 2
              · rw [if_pos hw] at hu; cases hu; exact ⟨hw, rfl⟩
              · rw [if_neg hw] at hu; cases hu
            have hU : TS o rl g_69 (oNxt o q.1) cs := by rw [k2.2] at hU; exact hU
            have eW : pWhat o q.1 = pState o (oNxt o q.1) := (if_neg c_22).trans ((if_neg c_40).trans (if_pos k2.1))
            refine J_aload_n (nx := 76) dX8_readChance_75 rfl rfl ?_
            refine JiV0 (R' := rm (2) 0 0) (nx := 79) dX8_readChance_76 rfl ml_X8_takeState lk_X8_121 iv_X8_takeState rfl rfl ⟨(Nat.le_of_ble_eq_true rfl), (Nat.le_of_ble_eq_true rfl)⟩ (Nat.le_of_ble_eq_true rfl) ⟨rfl, rfl⟩ (ct_takeState o ho rl g_69 (oNxt o q.1) cs hU) (fun x_76 g_76 p_76 => ?_)
            refine J_istore_n (nx := 80) dX8_readChance_79 rfl rfl (Nat.le_of_ble_eq_true rfl) ?_
            exact sg_ch80 o ho rl g g_76 cs q.2 k1.1 _ _ _ (by rw [eW]; exact ⟨(p_1.1.tr p_69.1).tr p_76.1, p_76.2⟩) (fun q1 h1 => (pWhat_ok ho h1).1) hr _
        · exact absurd rfl c_52
      · refine J_bipush (nx := 45) (i := 33) (v := 33) (by decide) dX8_readChance_43 rfl ?_
        refine J_goto (nx := 49) dX8_readChance_45 (by decide) ?_
        refine J_istore_n (nx := 50) dX8_readChance_49 rfl rfl (Nat.le_of_ble_eq_true rfl) ?_
        refine J_iload_n (nx := 51) dX8_readChance_50 rfl rfl ?_
        refine J_iconst (nx := 52) (i := -1) (v := -1) (by decide) dX8_readChance_51 rfl ?_
        refine J_icmp_eq (nx := 55) (tgt := 65) dX8_readChance_52 rfl (by decide) (fun c_52 => ?_) (fun c_52 => ?_)
        · exact absurd c_52 (by decide)
        · refine J_aload_n (nx := 56) dX8_readChance_55 rfl rfl ?_
          refine Jg_7_0 (nx := 59) dX8_readChance_56 rfl fl_X8_31 ?_
          refine JvV0 (R' := rm (0) 0 0) (nx := 62) dX8_readChance_59 rfl ml_X7_next lk_X8_92 iv_X7_next rfl rfl ⟨(Nat.le_of_ble_eq_true rfl), (Nat.le_of_ble_eq_true rfl)⟩ (Nat.le_of_ble_eq_true rfl) ⟨rfl, rfl⟩ (ct_nextx o ho rl g_1 q.1 cs hT (ho.wrd c_40 (by decide))) (fun g_59 p_59 => ?_)
          refine J_goto (nx := 80) dX8_readChance_62 (by decide) ?_
          have eW : pWhat o q.1 = .inr (oNxt o q.1, 33) := (if_neg c_22).trans (if_pos c_40)
          exact sg_ch80 o ho rl g g_59 cs q.2 k1.1 _ _ _ (by rw [eW]; exact ⟨p_1.1.tr p_59.1, rfl, by show (33 : Nat) < 2 ^ 30; decide, p_59.2⟩) (fun q1 h1 => (pWhat_ok ho h1).1) hr _
    · refine J_bipush (nx := 27) (i := 32) (v := 32) (by decide) dX8_readChance_25 rfl ?_
      refine J_goto (nx := 49) dX8_readChance_27 (by decide) ?_
      refine J_istore_n (nx := 50) dX8_readChance_49 rfl rfl (Nat.le_of_ble_eq_true rfl) ?_
      refine J_iload_n (nx := 51) dX8_readChance_50 rfl rfl ?_
      refine J_iconst (nx := 52) (i := -1) (v := -1) (by decide) dX8_readChance_51 rfl ?_
      refine J_icmp_eq (nx := 55) (tgt := 65) dX8_readChance_52 rfl (by decide) (fun c_52 => ?_) (fun c_52 => ?_)
      · exact absurd c_52 (by decide)
      · refine J_aload_n (nx := 56) dX8_readChance_55 rfl rfl ?_
        refine Jg_7_0 (nx := 59) dX8_readChance_56 rfl fl_X8_31 ?_
        refine JvV0 (R' := rm (0) 0 0) (nx := 62) dX8_readChance_59 rfl ml_X7_next lk_X8_92 iv_X7_next rfl rfl ⟨(Nat.le_of_ble_eq_true rfl), (Nat.le_of_ble_eq_true rfl)⟩ (Nat.le_of_ble_eq_true rfl) ⟨rfl, rfl⟩ (ct_nextx o ho rl g_1 q.1 cs hT (ho.wrd c_22 (by decide))) (fun g_59 p_59 => ?_)
        refine J_goto (nx := 80) dX8_readChance_62 (by decide) ?_
        have eW : pWhat o q.1 = .inr (oNxt o q.1, 32) := if_pos c_22
        exact sg_ch80 o ho rl g g_59 cs q.2 k1.1 _ _ _ (by rw [eW]; exact ⟨p_1.1.tr p_59.1, rfl, by show (32 : Nat) < 2 ^ 30; decide, p_59.2⟩) (fun q1 h1 => (pWhat_ok ho h1).1) hr _
  · refine J_iconst (nx := 11) (i := 0) (v := 0) (by decide) dX8_readChance_10 rfl ?_
    exact Jrz dX8_readChance_11 rfl (by decide) (Nat.zero_le _) (Nat.zero_le _) (by obtain ⟨e, he, hf⟩ := p_1.no c_7; exact RXi.of (PG.bad p_1.1 (by unfold pChance; rw [he]) hf))

set_option maxRecDepth 100000 in
set_option maxHeartbeats 4000000 in
theorem ct_readKick (o : Ob) (ho : ObOK o) (rl : Bool) (g : GS) (b : Nat) (cs : List Int32) (h : TS o rl g b cs) : Ct mX8_readKick (rm 2 0 0) [.ref 7] (Wd g) (RXi (PG o rl g cs (pKick o b))) := by
  refine Ct.of (by decide +kernel) (Nat.le_of_ble_eq_true rfl) ?_
  show J _ _ _ _ 0 [some (.ref 7), none, none] [] _ 0 0
  refine J_aload_n (nx := 1) dX8_readKick_0 rfl rfl ?_
  refine J_bipush (nx := 3) (i := 7) (v := 7) (by decide) dX8_readKick_1 rfl ?_
  refine JiV1 (R' := rm (1) 0 0) (nx := 6) dX8_readKick_3 rfl ml_X8_takeNumber lk_X8_138 iv_X8_takeNumber rfl rfl ⟨(Nat.le_of_ble_eq_true rfl), (Nat.le_of_ble_eq_true rfl)⟩ (Nat.le_of_ble_eq_true rfl) ⟨rfl, rfl⟩ (ct_takeNum o ho rl g b cs h 7 (by decide)) (fun x_3 g_3 p_3 => ?_)
  refine J_istore_n (nx := 7) dX8_readKick_6 rfl rfl (Nat.le_of_ble_eq_true rfl) ?_
  refine J_iload_n (nx := 8) dX8_readKick_7 rfl rfl ?_
  refine J_iconst (nx := 9) (i := -1) (v := -1) (by decide) dX8_readKick_8 rfl ?_
  refine J_icmp_ne (nx := 12) (tgt := 16) dX8_readKick_9 rfl (by decide) (fun c_9 => ?_) (fun c_9 => ?_)
  · obtain ⟨q, hq, hx, hq2, hT⟩ := p_3.goes c_9
    have k1 := pNum_ok ho (by decide) hq
    refine J_aload_n (nx := 17) dX8_readKick_16 rfl rfl ?_
    refine J_sipush (nx := 20) (i := 9999) (v := 9999) (by decide) dX8_readKick_17 rfl ?_
    refine JiV1 (R' := rm (1) 0 0) (nx := 23) dX8_readKick_20 rfl ml_X8_takeNumber lk_X8_138 iv_X8_takeNumber rfl rfl ⟨(Nat.le_of_ble_eq_true rfl), (Nat.le_of_ble_eq_true rfl)⟩ (Nat.le_of_ble_eq_true rfl) ⟨rfl, rfl⟩ (ct_takeNum o ho rl g_3 q.1 cs hT 9999 (by decide)) (fun x_20 g_20 p_20 => ?_)
    refine J_istore_n (nx := 24) dX8_readKick_23 rfl rfl (Nat.le_of_ble_eq_true rfl) ?_
    refine J_iload_n (nx := 25) dX8_readKick_24 rfl rfl ?_
    refine J_iconst (nx := 26) (i := -1) (v := -1) (by decide) dX8_readKick_25 rfl ?_
    refine J_icmp_ne (nx := 29) (tgt := 31) dX8_readKick_26 rfl (by decide) (fun c_26 => ?_) (fun c_26 => ?_)
    · refine J_aload_n (nx := 32) dX8_readKick_31 rfl rfl ?_
      obtain ⟨v, hv, hx3, hv2, hV⟩ := p_20.goes c_26
      rw [hx, hx3]
      refine Jg_7_1 (nx := 35) dX8_readKick_32 rfl fl_X8_12 ?_
      refine Jg_8_1 (nx := 38) dX8_readKick_35 rfl fl_X8_145 ?_
      refine J_iload_n (nx := 39) dX8_readKick_38 rfl rfl ?_
      refine J_iload_n (nx := 40) dX8_readKick_39 rfl rfl ?_
      refine JcS3 (R' := rm (0) 0 0) (nx := 43) dX8_readKick_40 rfl ml_X6_put lk_X8_148 st_X6_put ⟨(Nat.le_of_ble_eq_true rfl), (Nat.le_of_ble_eq_true rfl)⟩ (Nat.le_of_ble_eq_true rfl) ⟨rfl, rfl⟩ (ct_put _ 10 8 _ _ rfl (fun _ => rfl) (by decide)) ?_
      refine J_iconst (nx := 44) (i := 1) (v := 1) (by decide) dX8_readKick_43 rfl ?_
      exact Jrz dX8_readKick_44 rfl (by decide) (Nat.zero_le _) (Nat.zero_le _) (by refine RXi.of ⟨(fr_CG (p_3.1.tr p_20.1)).sA rfl, ?_⟩; rw [show pKick o b = .inr (v.1, 1, q.2, v.2) from by unfold pKick; rw [hq]; dsimp only; rw [hv]]; refine ⟨rfl, hV.fr10 _, ?_⟩; have e9 := drOf_C (p_3.1.tr p_20.1); unfold drOf at e9; show (gA g_20 9, rPut 8 (gA g_20 10) (nI q.2) (nI v.2), gF g_20 8 12) = (gA g 9, upd (gA g 10) q.2 (nI v.2), gF g 8 12); rw [rPut_in (by omega) (by decide), show gA g_20 9 = gA g 9 from congrArg Prod.fst e9, show gA g_20 10 = gA g 10 from congrArg (fun z => z.2.1) e9, show gF g_20 8 12 = gF g 8 12 from congrArg (fun z => z.2.2) e9])
    · refine J_iconst (nx := 30) (i := 0) (v := 0) (by decide) dX8_readKick_29 rfl ?_
      exact Jrz dX8_readKick_30 rfl (by decide) (Nat.zero_le _) (Nat.zero_le _) (by obtain ⟨e, he, hf⟩ := p_20.no c_26; exact RXi.of (PG.bad (p_3.1.tr p_20.1) (by unfold pKick; rw [hq]; dsimp only; rw [he]) hf))
  · refine J_iconst (nx := 13) (i := -1) (v := -1) (by decide) dX8_readKick_12 rfl ?_
    refine J_goto (nx := 23) dX8_readKick_13 (by decide) ?_
    refine J_istore_n (nx := 24) dX8_readKick_23 rfl rfl (Nat.le_of_ble_eq_true rfl) ?_
    refine J_iload_n (nx := 25) dX8_readKick_24 rfl rfl ?_
    refine J_iconst (nx := 26) (i := -1) (v := -1) (by decide) dX8_readKick_25 rfl ?_
    refine J_icmp_ne (nx := 29) (tgt := 31) dX8_readKick_26 rfl (by decide) (fun c_26 => ?_) (fun c_26 => ?_)
    · exact absurd rfl c_26
    · refine J_iconst (nx := 30) (i := 0) (v := 0) (by decide) dX8_readKick_29 rfl ?_
      exact Jrz dX8_readKick_30 rfl (by decide) (Nat.zero_le _) (Nat.zero_le _) (by obtain ⟨e, he, hf⟩ := p_3.no c_9; exact RXi.of (PG.bad p_3.1 (by unfold pKick; rw [he]) hf))

set_option maxRecDepth 100000 in
set_option maxHeartbeats 4000000 in
theorem ct_readGrace (o : Ob) (ho : ObOK o) (rl : Bool) (g : GS) (b : Nat) (cs : List Int32) (h : TS o rl g b cs) : Ct mX8_readGrace (rm 2 0 0) [.ref 7] (Wd g) (RXi (PG o rl g cs (pGrace o b))) := by
  refine Ct.of (by decide +kernel) (Nat.le_of_ble_eq_true rfl) ?_
  show J _ _ _ _ 0 [some (.ref 7), none] [] _ 0 0
  refine J_aload_n (nx := 1) dX8_readGrace_0 rfl rfl ?_
  refine J_bipush (nx := 3) (i := 10) (v := 10) (by decide) dX8_readGrace_1 rfl ?_
  refine JiV1 (R' := rm (1) 0 0) (nx := 6) dX8_readGrace_3 rfl ml_X8_takeNumber lk_X8_138 iv_X8_takeNumber rfl rfl ⟨(Nat.le_of_ble_eq_true rfl), (Nat.le_of_ble_eq_true rfl)⟩ (Nat.le_of_ble_eq_true rfl) ⟨rfl, rfl⟩ (ct_takeNum o ho rl g b cs h 10 (by decide)) (fun x_3 g_3 p_3 => ?_)
  refine J_istore_n (nx := 7) dX8_readGrace_6 rfl rfl (Nat.le_of_ble_eq_true rfl) ?_
  refine J_iload_n (nx := 8) dX8_readGrace_7 rfl rfl ?_
  refine J_iconst (nx := 9) (i := -1) (v := -1) (by decide) dX8_readGrace_8 rfl ?_
  refine J_icmp_ne (nx := 12) (tgt := 14) dX8_readGrace_9 rfl (by decide) (fun c_9 => ?_) (fun c_9 => ?_)
  · obtain ⟨v, hv, hx3, hv2, hV⟩ := p_3.goes c_9
    rw [hx3]
    refine J_aload_n (nx := 15) dX8_readGrace_14 rfl rfl ?_
    refine Jg_7_1 (nx := 18) dX8_readGrace_15 rfl fl_X8_12 ?_
    refine J_iload_n (nx := 19) dX8_readGrace_18 rfl rfl ?_
    refine Jp_8_12 (nx := 22) dX8_readGrace_19 rfl fl_X8_154 ?_
    refine J_iconst (nx := 23) (i := 1) (v := 1) (by decide) dX8_readGrace_22 rfl ?_
    exact Jrz dX8_readGrace_23 rfl (by decide) (Nat.zero_le _) (Nat.zero_le _) (by refine RXi.of ⟨(fr_CG p_3.1).sF rfl, ?_⟩; rw [show pGrace o b = .inr (v.1, 2, 0, v.2) from by unfold pGrace; rw [hv]]; refine ⟨rfl, hV.fr8 _, ?_⟩; have e9 := drOf_C p_3.1; unfold drOf at e9; show (gA g_3 9, gA g_3 10, nI v.2) = (gA g 9, gA g 10, nI v.2); rw [show gA g_3 9 = gA g 9 from congrArg Prod.fst e9, show gA g_3 10 = gA g 10 from congrArg (fun z => z.2.1) e9])
  · refine J_iconst (nx := 13) (i := 0) (v := 0) (by decide) dX8_readGrace_12 rfl ?_
    exact Jrz dX8_readGrace_13 rfl (by decide) (Nat.zero_le _) (Nat.zero_le _) (by obtain ⟨e, he, hf⟩ := p_3.no c_9; exact RXi.of (PG.bad p_3.1 (by unfold pGrace; rw [he]) hf))

set_option maxRecDepth 100000 in
set_option maxHeartbeats 4000000 in
theorem sg_gl34 (o : Ob) (ho : ObOK o) (rl : Bool) (g : GS) (b : Nat) (cs : List Int32) (h : TS o rl g b cs) (hw : oWrd o b = 1 ∨ oWrd o b = 19 ∨ oWrd o b = 5) (n0 : Nat) : J mX8_readGameLine (rm 4 0 0) (RXi (PG o rl g cs (pGame o b))) n0 34 [some (.ref 7), some (.ref (CST + oWrd o b))] [] (Wd g) 0 0 := by
  refine J_aload_n (nx := 35) dX8_readGameLine_34 rfl rfl ?_
  refine Jg_7_0 (nx := 38) dX8_readGameLine_35 rfl fl_X8_31 ?_
  refine JvV0 (R' := rm (0) 0 0) (nx := 41) dX8_readGameLine_38 rfl ml_X7_next lk_X8_92 iv_X7_next rfl rfl ⟨(Nat.le_of_ble_eq_true rfl), (Nat.le_of_ble_eq_true rfl)⟩ (Nat.le_of_ble_eq_true rfl) ⟨rfl, rfl⟩ (ct_nextx o ho rl g b cs h (hw.elim (fun z => ho.wrd z (by decide)) (fun z => z.elim (fun z => ho.wrd z (by decide)) (fun z => ho.wrd z (by decide))))) (fun g_38 p_38 => ?_)
  refine J_aload_n (nx := 42) dX8_readGameLine_41 rfl rfl ?_
  refine J_getsW (nx := 45) (j := 1) dX8_readGameLine_42 rfl (by decide) gs_X8_101 ?_
  refine J_acmp_ne (nx := 48) (i := (oWrd o b)) (j := 1) (tgt := 55) dX8_readGameLine_45 rfl (by decide) (ho.2.2.2.1 _) (by decide) (fun c_45 => ?_) (fun c_45 => ?_)
  · refine J_aload_n (nx := 56) dX8_readGameLine_55 rfl rfl ?_
    refine J_getsW (nx := 59) (j := 19) dX8_readGameLine_56 rfl (by decide) gs_X8_106 ?_
    refine J_acmp_ne (nx := 62) (i := (oWrd o b)) (j := 19) (tgt := 69) dX8_readGameLine_59 rfl (by decide) (ho.2.2.2.1 _) (by decide) (fun c_59 => ?_) (fun c_59 => ?_)
    · refine J_aload_n (nx := 70) dX8_readGameLine_69 rfl rfl ?_
      refine JiV0 (R' := rm (2) 0 0) (nx := 73) dX8_readGameLine_70 rfl ml_X8_readGrace lk_X8_118 iv_X8_readGrace rfl rfl ⟨(Nat.le_of_ble_eq_true rfl), (Nat.le_of_ble_eq_true rfl)⟩ (Nat.le_of_ble_eq_true rfl) ⟨rfl, rfl⟩ (ct_readGrace o ho rl g_38 (oNxt o b) cs p_38.2) (fun x_70 g_70 p_70 => ?_)
      exact Jrz dX8_readGameLine_73 rfl (p_70.nar) (Nat.zero_le _) (Nat.zero_le _) (RXi.of (by rw [show pGame o b = _ from (if_neg c_45).trans ((if_neg c_59).trans (if_pos ((hw.resolve_left c_45).resolve_left c_59)))]; exact PG.pre p_38.1 p_70))
    · refine J_aload_n (nx := 63) dX8_readGameLine_62 rfl rfl ?_
      refine JiV0 (R' := rm (2) 0 0) (nx := 66) dX8_readGameLine_63 rfl ml_X8_readKick lk_X8_115 iv_X8_readKick rfl rfl ⟨(Nat.le_of_ble_eq_true rfl), (Nat.le_of_ble_eq_true rfl)⟩ (Nat.le_of_ble_eq_true rfl) ⟨rfl, rfl⟩ (ct_readKick o ho rl g_38 (oNxt o b) cs p_38.2) (fun x_63 g_63 p_63 => ?_)
      refine J_goto (nx := 73) dX8_readGameLine_66 (by decide) ?_
      exact Jrz dX8_readGameLine_73 rfl (p_63.nar) (Nat.zero_le _) (Nat.zero_le _) (RXi.of (by rw [show pGame o b = _ from (if_neg c_45).trans (if_pos c_59)]; exact PG.pre p_38.1 p_63))
  · refine J_aload_n (nx := 49) dX8_readGameLine_48 rfl rfl ?_
    refine JiV0 (R' := rm (3) 0 0) (nx := 52) dX8_readGameLine_49 rfl ml_X8_readChance lk_X8_112 iv_X8_readChance rfl rfl ⟨(Nat.le_of_ble_eq_true rfl), (Nat.le_of_ble_eq_true rfl)⟩ (Nat.le_of_ble_eq_true rfl) ⟨rfl, rfl⟩ (ct_readChance o ho rl g_38 (oNxt o b) cs p_38.2) (fun x_49 g_49 p_49 => ?_)
    refine J_goto (nx := 73) dX8_readGameLine_52 (by decide) ?_
    exact Jrz dX8_readGameLine_73 rfl (p_49.nar) (Nat.zero_le _) (Nat.zero_le _) (RXi.of (by rw [show pGame o b = _ from if_pos c_45]; exact PG.pre p_38.1 p_49))

set_option maxRecDepth 100000 in
set_option maxHeartbeats 4000000 in
theorem ct_gameLine (o : Ob) (ho : ObOK o) (rl : Bool) (g : GS) (b : Nat) (cs : List Int32) (h : TS o rl g b cs) : Ct mX8_readGameLine (rm 4 0 0) [.ref 7] (Wd g) (RXi (PG o rl g cs (pGame o b))) := by
  refine Ct.of (by decide +kernel) (Nat.le_of_ble_eq_true rfl) ?_
  show J _ _ _ _ 0 [some (.ref 7), none] [] _ 0 0
  refine J_aload_n (nx := 1) dX8_readGameLine_0 rfl rfl ?_
  refine Jg_7_0 (nx := 4) dX8_readGameLine_1 rfl fl_X8_31 ?_
  refine Jg_1_11 (nx := 7) dX8_readGameLine_4 rfl fl_X8_88 ?_
  rw [h.wrd]
  refine J_astore_n (nx := 8) dX8_readGameLine_7 rfl rfl (Nat.le_of_ble_eq_true rfl) ?_
  refine J_aload_n (nx := 9) dX8_readGameLine_8 rfl rfl ?_
  refine J_getsW (nx := 12) (j := 1) dX8_readGameLine_9 rfl (by decide) gs_X8_101 ?_
  refine J_acmp_eq (nx := 15) (i := (oWrd o b)) (j := 1) (tgt := 34) dX8_readGameLine_12 rfl (by decide) (ho.2.2.2.1 _) (by decide) (fun c_12 => ?_) (fun c_12 => ?_)
  · exact sg_gl34 o ho rl g b cs h (Or.inl c_12) _
  · refine J_aload_n (nx := 16) dX8_readGameLine_15 rfl rfl ?_
    refine J_getsW (nx := 19) (j := 19) dX8_readGameLine_16 rfl (by decide) gs_X8_106 ?_
    refine J_acmp_eq (nx := 22) (i := (oWrd o b)) (j := 19) (tgt := 34) dX8_readGameLine_19 rfl (by decide) (ho.2.2.2.1 _) (by decide) (fun c_19 => ?_) (fun c_19 => ?_)
    · exact sg_gl34 o ho rl g b cs h (Or.inr (Or.inl c_19)) _
    · refine J_aload_n (nx := 23) dX8_readGameLine_22 rfl rfl ?_
      refine J_getsW (nx := 26) (j := 5) dX8_readGameLine_23 rfl (by decide) gs_X8_109 ?_
      refine J_acmp_eq (nx := 29) (i := (oWrd o b)) (j := 5) (tgt := 34) dX8_readGameLine_26 rfl (by decide) (ho.2.2.2.1 _) (by decide) (fun c_26 => ?_) (fun c_26 => ?_)
      · exact sg_gl34 o ho rl g b cs h (Or.inr (Or.inr c_26)) _
      · refine J_aload_n (nx := 30) dX8_readGameLine_29 rfl rfl ?_
        refine JcV0 (R' := rm (0) 0 0) (nx := 33) dX8_readGameLine_30 rfl ml_X8_wrong lk_X8_47 iv_X8_wrong rfl rfl ⟨(Nat.le_of_ble_eq_true rfl), (Nat.le_of_ble_eq_true rfl)⟩ (Nat.le_of_ble_eq_true rfl) ⟨rfl, rfl⟩ (ct_wrong _) ?_
        exact Jrz dX8_readGameLine_33 rfl (by decide) (Nat.zero_le _) (Nat.zero_le _) (RXi.of (PG.bad (wrG_fr g) ((if_neg c_12).trans ((if_neg c_19).trans (if_neg c_26))) h.beg))

