
/-! a whole text -/
def fR (c k : Nat) : Bool := fG c k || (Nat.beq c 7 && (Nat.beq k 5 || Nat.beq k 6)) || fT c k
def aR (c : Nat) : Bool := aG c || Nat.beq c 18 || aT c
theorem fr_GR {g g' : GS} (h : Fr fG aG g g') : Fr fR aR g g' := h.mono (fun _ _ e => or_ff (or_ff e)) (fun _ e => or_ff (or_ff e))
theorem or_fr {a b : Bool} (h : (a || b) = false) : b = false := by cases a with | false => exact h | true => cases h
theorem fr_LR {g g' : GS} (h : Fr fC aL g g') : Fr fR aR g g' := h.mono (fun _ _ e => or_ff (or_ff (or_ff e))) (fun c e => by
  have e1 := or_ff e
  have h1 : aC c = false := or_ff (or_ff (or_ff e1))
  have h2 : Nat.beq c 18 = false := or_fr e1
  show (aC c || Nat.beq c 18) = false
  rw [h1, h2]; rfl)
theorem fr_CR {g g' : GS} (h : Fr fC aC g g') : Fr fR aR g g' := fr_GR (fr_CG h)
theorem fr_TR {g g' : GS} (h : Fr fT aT g g') : Fr fR aR g g' := h.mono (fun _ _ e => or_fr e) (fun _ e => or_fr e)
def gaLine (o : Ob) (b : Nat) (d : Dr) : Nat ⊕ (Nat × Dr) := match pGame o b with
  | .inl e => .inl e
  | .inr q => .inr (q.1, apE q.2 d)
abbrev HC : Type := List Hd × List Int32
def hdLine (p : Nat → List Int32 → LR) (b : Nat) (s : HC) : Nat ⊕ (Nat × HC) := match p b s.2 with
  | .inl e => .inl e
  | .inr q => .inr (q.1, s.1 ++ [q.2.1], q.2.2)
def IG (o : Ob) (g : GS) (b : Nat) (d : Dr) (_ : Nat) : Prop := TS o false g b [] ∧ drOf g = d
def IHd (o : Ob) (rl : Bool) (g : GS) (b : Nat) (s : HC) (n : Nat) : Prop := TS o rl g b s.2 ∧ s.2.length ≤ b ∧ HS g s.1 ∧ s.1.length = n
def PT {α : Type} (o : Ob) (I : GS → Nat → α → Nat → Prop) (g0 : GS) (r : Nat ⊕ α) (x : Int32) (g' : GS) : Prop := Fr fR aR g0 g' ∧ (match r with
  | .inl e => x = 0 ∧ gF g' 7 7 = nI e
  | .inr s => x = 1 ∧ ∃ b n, b = oN o ∧ n ≤ 12 ∧ I g' b s n ∧ gF g' 7 5 = nI n)
theorem PT.bad {α : Type} {o : Ob} {I : GS → Nat → α → Nat → Prop} {g0 g' : GS} {r : Nat ⊕ α} {e : Nat} (hf : Fr fR aR g0 g') (hr : r = .inl e) (h : gF g' 7 7 = nI e) : PT o I g0 r 0 g' := by
  subst hr; exact ⟨hf, rfl, h⟩
theorem PT.good {α : Type} {o : Ob} {I : GS → Nat → α → Nat → Prop} {g0 g' : GS} {r : Nat ⊕ α} {s : α} {b n : Nat} (hf : Fr fR aR g0 g') (hr : r = .inr s) (hb : b = oN o) (hn : n ≤ 12) (h : I g' b s n) (h5 : gF g' 7 5 = nI n) : PT o I g0 r 1 g' := by
  subst hr; exact ⟨hf, rfl, b, n, hb, hn, h, h5⟩
theorem TS.fr75 {o : Ob} {rl : Bool} {g : GS} {b : Nat} {cs : List Int32} (h : TS o rl g b cs) (v : Int32) : TS o rl (sF g 7 5 v) b cs := ⟨h.1.fr (f := fun c _ => Nat.beq c 7) (a := fun _ => false) (Fr.rf.sF rfl) (fun _ => rfl) rfl rfl rfl rfl, h.2⟩
theorem aeB_T {o : Ob} {rl : Bool} {g : GS} {b : Nat} {cs : List Int32} (ho : ObOK o) (h : TS o rl g b cs) : aeB g = decide (oN o ≤ b) := by
  unfold aeB
  rw [h.beg, h.1.1]
  have := h.1.le
  have := ho.1
  by_cases h1 : oN o ≤ b
  · rw [if_neg (nI_nlt h1 (by omega)), decide_eq_true h1]
  · rw [if_pos (nI_lt (by omega) (by omega)), decide_eq_false h1]
theorem PG.ln {o : Ob} {g g' : GS} {b : Nat} {d : Dr} {x : Int32} (hd : drOf g = d) (h : PG o false g [] (pGame o b) x g') : (x = 0 → ∃ e, gaLine o b d = .inl e ∧ gF g' 7 7 = nI e) ∧ (¬ x = 0 → ∃ q, gaLine o b d = .inr q ∧ TS o false g' q.1 [] ∧ drOf g' = q.2) := by
  unfold gaLine
  obtain ⟨h1, h2⟩ := h
  cases hr : pGame o b with
  | inl e => rw [hr] at h2; exact ⟨fun _ => ⟨e, rfl, h2.2⟩, fun z => absurd h2.1 z⟩
  | inr q => rw [hr] at h2; exact ⟨fun z => absurd (h2.1.symm.trans z) (by decide), fun _ => ⟨_, rfl, h2.2.1, by rw [h2.2.2, hd]⟩⟩
theorem PL.ln {o : Ob} {rl : Bool} {p : Nat → List Int32 → LR} {g g' : GS} {b : Nat} {s : HC} {x : Int32} (h : PL o rl g s.1 (p b s.2) x g') : (x = 0 → ∃ e, hdLine p b s = .inl e ∧ gF g' 7 7 = nI e) ∧ (¬ x = 0 → ∃ q, hdLine p b s = .inr q ∧ TS o rl g' q.1 q.2.2 ∧ HS g' q.2.1 ∧ q.2.1.length = s.1.length + 1 ∧ ∃ u, p b s.2 = .inr u ∧ u.1 = q.1 ∧ u.2.2 = q.2.2) := by
  unfold hdLine
  obtain ⟨h1, h2⟩ := h
  cases hr : p b s.2 with
  | inl e => rw [hr] at h2; exact ⟨fun _ => ⟨e, rfl, h2.2⟩, fun z => absurd h2.1 z⟩
  | inr q => rw [hr] at h2; exact ⟨fun z => absurd (h2.1.symm.trans z) (by decide), fun _ => ⟨_, rfl, h2.2.1, h2.2.2, by rw [List.length_append, List.length_singleton], q, rfl, rfl, rfl⟩⟩
theorem pText_bad {α : Type} {o : Ob} {line : Nat → α → Nat ⊕ (Nat × α)} {k b : Nat} {s : α} {e : Nat} (h : line b s = .inl e) : pText o line (k + 1) b s = .inl e := by
  show (match line b s with | .inl e => _ | .inr q => _) = _
  rw [h]
theorem pText_end {α : Type} {o : Ob} {line : Nat → α → Nat ⊕ (Nat × α)} {k b : Nat} {s : α} {q : Nat × α} (h : line b s = .inr q) (hE : oN o ≤ q.1) : pText o line (k + 1) b s = .inr q.2 := by
  show (match line b s with | .inl e => _ | .inr q => _) = _
  rw [h]
  exact if_pos hE
theorem pText_go {α : Type} {o : Ob} {line : Nat → α → Nat ⊕ (Nat × α)} {k b : Nat} {s : α} {q : Nat × α} (h : line b s = .inr q) (hE : ¬ oN o ≤ q.1) : pText o line (k + 1) b s = if oSgn o q.1 = 59 then pText o line k (oNxt o q.1) q.2 else .inl q.1 := by
  show (match line b s with | .inl e => _ | .inr q => _) = _
  rw [h]
  exact if_neg hE
theorem sgn_no {o : Ob} {b e : Nat} {x : Int32} {q : Nat × List Int32} (h : (if oSgn o b = x then (.inr q : PR) else .inl b) = .inl e) : ¬ oSgn o b = x ∧ b = e := by
  by_cases hs : oSgn o b = x
  · rw [if_pos hs] at h; cases h
  · rw [if_neg hs] at h; cases h; exact ⟨hs, rfl⟩
/-- a line's cells are no more than its bytes -/
def LRok (o : Ob) (b : Nat) (cs : List Int32) (r : LR) : Prop := match r with
  | .inl e => e ≤ oN o
  | .inr q => b < q.1 ∧ q.1 ≤ oN o ∧ q.2.2.length + b ≤ q.1 + cs.length ∧ q.2.1.2.2 = (cs.length, q.2.2.length)
theorem pRule_ok {o : Ob} (ho : ObOK o) (b : Nat) (cs : List Int32) (hb : b ≤ oN o) : LRok o b cs (pRule o b cs) := by
  unfold pRule
  split
  · exact hb
  · rename_i h1
    have h2 : b < oN o := by
      unfold pDeed at h1
      by_cases w1 : oWrd o b = 9
      · exact ho.wrd w1 (by decide)
      · by_cases w2 : oWrd o b = 10
        · exact ho.wrd w2 (by decide)
        · by_cases w3 : oWrd o b = 11
          · exact ho.wrd w3 (by decide)
          · rw [if_neg w1, if_neg w2, if_neg w3] at h1; exact absurd rfl h1
    have n1 := ho.2.1 b h2
    split
    · rename_i h3
      have n2 := ho.2.1 _ (ho.wrd h3 (by decide))
      have hok := pCond_ok ho true 6 _ cs n2.2
      split
      · rename_i e he; rw [he] at hok; exact hok
      · rename_i q hq
        rw [hq] at hok
        exact ⟨by have := hok.1; show b < q.1; omega, hok.2.1, by have := hok.2.2; show q.2.length + b ≤ q.1 + cs.length; omega, rfl⟩
    · exact n1.2
theorem pGoal_ok {o : Ob} (ho : ObOK o) (b : Nat) (cs : List Int32) (hb : b ≤ oN o) : LRok o b cs (pGoal o b cs) := by
  unfold pGoal
  split
  · rename_i hw
    have h2 : b < oN o := hw.elim (fun z => ho.wrd z (by decide)) (fun z => ho.wrd z (by decide))
    have n1 := ho.2.1 b h2
    split
    · rename_i e he
      unfold pNum at he
      split at he
      · cases he; exact n1.2
      · split at he
        · cases he
        · cases he; exact n1.2
    · rename_i q hq
      have k1 := pNum_ok ho (by decide) hq
      have n2 := ho.2.1 _ k1.1
      have k11 := k1.2.1
      have hF : (∃ e, pFac o q.1 = .inl e ∧ e ≤ oN o) ∨ ∃ u, pFac o q.1 = .inr u ∧ q.1 ≤ u.1 ∧ u.1 ≤ oN o := by
        unfold pFac
        split
        · rename_i h4
          have n3 := ho.2.1 _ (ho.sgn h4 (by decide))
          split
          · exact Or.inl ⟨_, rfl, n3.2⟩
          · rename_i h5
            have n4 := ho.2.1 _ (ho.cell (rl := false) (b := oNxt o q.1) (by unfold pCell; rw [if_neg h5]; exact pCell_n ho))
            exact Or.inr ⟨_, rfl, by show q.1 ≤ oNxt o (oNxt o q.1); omega, n4.2⟩
        · exact Or.inr ⟨_, rfl, Nat.le_refl _, by show q.1 ≤ oN o; omega⟩
      rcases hF with ⟨e, he, hle⟩ | ⟨u, hu, hu1, hu2⟩
      · rw [he]; exact hle
      · rw [hu]
        dsimp only
        have hI : (∃ e, pIf o u.1 cs = .inl e ∧ e ≤ oN o) ∨ ∃ v, pIf o u.1 cs = .inr v ∧ u.1 ≤ v.1 ∧ v.1 ≤ oN o ∧ v.2.length + u.1 ≤ v.1 + cs.length := by
          unfold pIf
          split
          · rename_i h6
            have n5 := ho.2.1 _ (ho.wrd h6 (by decide))
            have hok := pCond_ok ho false 6 _ cs n5.2
            cases hp : pCond o false 6 (oNxt o u.1) cs with
            | inl e => rw [hp] at hok; exact Or.inl ⟨e, rfl, hok⟩
            | inr v => rw [hp] at hok; exact Or.inr ⟨v, rfl, by have := hok.1; omega, hok.2.1, by have := hok.2.2; omega⟩
          · exact Or.inr ⟨_, rfl, Nat.le_refl _, hu2, Nat.le_of_eq (Nat.add_comm _ _)⟩
        rcases hI with ⟨e, he, hle⟩ | ⟨v, hv, hv1, hv2, hv3⟩
        · rw [he]; exact hle
        · rw [hv]
          exact ⟨by show b < v.1; omega, hv2, by show v.2.length + b ≤ v.1 + cs.length; omega, rfl⟩
  · exact hb

set_option maxRecDepth 100000 in
set_option maxHeartbeats 4000000 in
theorem lp_read0 (o : Ob) (ho : ObOK o) (g0 : GS) (n0 : Nat) : ∀ (k : Nat) (n b : Nat) (s : Dr) (g : GS) (r : Nat ⊕ Dr), k + n = 12 → IG o g b s n → gF g 7 5 = nI n → Fr fR aR g0 g → r = pText o (gaLine o) k b s → J mX8_read (rm 30 0 0) (RXi (PT o (IG o) g0 r)) n0 50 [some (.ref 7), some (.int 0), some (.int (nI n)), none] [] (Wd g) 0 0 := by
  intro k
  induction k with
  | zero =>
    intro n b s g r hkn hI h5 h0 hr
    refine J_iload_n (nx := 51) dX8_read_50 rfl rfl ?_
    refine J_bipush (nx := 53) (i := 12) (v := 12) (by decide) dX8_read_51 rfl ?_
    refine J_icmp_ge (nx := 56) (tgt := 126) dX8_read_53 rfl (by decide) (fun c_53 => ?_) (fun c_53 => ?_)
    · refine J_aload_n (nx := 127) dX8_read_126 rfl rfl ?_
      refine JcV0 (R' := rm (0) 0 0) (nx := 130) dX8_read_127 rfl ml_X8_wrong lk_X8_47 iv_X8_wrong rfl rfl ⟨(Nat.le_of_ble_eq_true rfl), (Nat.le_of_ble_eq_true rfl)⟩ (Nat.le_of_ble_eq_true rfl) ⟨rfl, rfl⟩ (ct_wrong _) ?_
      exact Jrz dX8_read_130 rfl (by decide) (Nat.zero_le _) (Nat.zero_le _) (RXi.of (PT.bad (h0.tr (fr_CR (wrG_fr g))) hr hI.1.beg))
    · exact absurd (show nI 12 ≤ nI n from by rw [show n = 12 by omega]; exact le_self_nI) c_53
  | succ k ih =>
    intro n b s g r hkn hI h5 h0 hr
    refine J_iload_n (nx := 51) dX8_read_50 rfl rfl ?_
    refine J_bipush (nx := 53) (i := 12) (v := 12) (by decide) dX8_read_51 rfl ?_
    refine J_icmp_ge (nx := 56) (tgt := 126) dX8_read_53 rfl (by decide) (fun c_53 => ?_) (fun c_53 => ?_)
    · exact absurd c_53 (nlt_nI (n := 12) (by omega) (by omega))
    · refine J_iload_n (nx := 57) dX8_read_56 rfl rfl ?_
      refine J_if_ne (nx := 60) (tgt := 67) dX8_read_57 rfl (by decide) (fun c_57 => ?_) (fun c_57 => ?_)
      · exact absurd rfl c_57
      · refine J_aload_n (nx := 61) dX8_read_60 rfl rfl ?_
        refine JiV0 (R' := rm (4) 0 0) (nx := 64) dX8_read_61 rfl ml_X8_readGameLine lk_X8_69 iv_X8_readGameLine rfl rfl ⟨(Nat.le_of_ble_eq_true rfl), (Nat.le_of_ble_eq_true rfl)⟩ (Nat.le_of_ble_eq_true rfl) ⟨rfl, rfl⟩ (ct_gameLine o ho false g b [] hI.1) (fun x_61 g_61 p_61 => ?_)
        refine J_goto (nx := 83) dX8_read_64 (by decide) ?_
        refine J_istore_n (nx := 84) dX8_read_83 rfl rfl (Nat.le_of_ble_eq_true rfl) ?_
        refine J_iload_n (nx := 85) dX8_read_84 rfl rfl ?_
        refine J_if_ne (nx := 88) (tgt := 90) dX8_read_85 rfl (by decide) (fun c_85 => ?_) (fun c_85 => ?_)
        · obtain ⟨q, hq, hQ⟩ := (PG.ln hI.2 p_61).2 c_85
          
          refine J_aload_n (nx := 91) dX8_read_90 rfl rfl ?_
          refine J_iload_n (nx := 92) dX8_read_91 rfl rfl ?_
          refine J_iconst (nx := 93) (i := 1) (v := 1) (by decide) dX8_read_92 rfl ?_
          refine J_iadd (nx := 94) dX8_read_93 rfl ?_
          refine Jp_7_5 (nx := 97) dX8_read_94 rfl fl_X8_59 ?_
          refine J.gen (fun g_94 hg_94 => ?_)
          have h1 : Fr fR aR g0 g_94 := by rw [hg_94]; exact (h0.tr (fr_GR p_61.1)).sF rfl
          have hT : TS o false g_94 q.1 [] := by rw [hg_94]; exact hQ.1.fr75 _
          have hI : IG o g_94 q.1 q.2 (n + 1) := ⟨hT, by rw [hg_94]; exact hQ.2⟩
          have h5 : gF g_94 7 5 = nI (n + 1) := by rw [hg_94]; show nI n + 1 = _; rw [nI_1]
          refine J_aload_n (nx := 98) dX8_read_97 rfl rfl ?_
          refine Jg_7_0 (nx := 101) dX8_read_98 rfl fl_X8_31 ?_
          refine JcV0 (R' := rm (0) 0 0) (nx := 104) dX8_read_101 rfl ml_X7_atEnd lk_X8_66 iv_X7_atEnd rfl rfl ⟨(Nat.le_of_ble_eq_true rfl), (Nat.le_of_ble_eq_true rfl)⟩ (Nat.le_of_ble_eq_true rfl) ⟨rfl, rfl⟩ (ct_atEnd _) ?_
          rw [aeB_T ho hT]
          refine J_if_eq (nx := 107) (tgt := 109) dX8_read_104 rfl (by decide) (fun c_104 => ?_) (fun c_104 => ?_)
          · have hE : ¬ oN o ≤ q.1 := by simpa using bI_0.mp c_104
            refine J_aload_n (nx := 110) dX8_read_109 rfl rfl ?_
            refine J_bipush (nx := 112) (i := 59) (v := 59) (by decide) dX8_read_110 rfl ?_
            refine JiV1 (R' := rm (1) 0 0) (nx := 115) dX8_read_112 rfl ml_X8_takeSign lk_X8_78 iv_X8_takeSign rfl rfl ⟨(Nat.le_of_ble_eq_true rfl), (Nat.le_of_ble_eq_true rfl)⟩ (Nat.le_of_ble_eq_true rfl) ⟨rfl, rfl⟩ (ct_takeSign o ho false g_94 q.1 [] hT 59 (by decide)) (fun x_112 g_112 p_112 => ?_)
            refine J_if_ne (nx := 118) (tgt := 120) dX8_read_115 rfl (by decide) (fun c_115 => ?_) (fun c_115 => ?_)
            · refine J_iinc (nx := 123) dX8_read_120 rfl rfl rfl (Nat.le_of_ble_eq_true rfl) ?_
              refine J_goto (nx := 50) dX8_read_123 (by decide) ?_
              refine J_kill (nx := 0) 3 ?_
              show J _ _ _ _ 50 [some (.ref 7), some (.int 0), some (.int (nI n + Int32.ofInt 1)), none] [] _ 0 0
              rw [nI_s]
              obtain ⟨u, hu, hU⟩ := p_112.goes c_115
              have hs : oSgn o q.1 = 59 ∧ u = (oNxt o q.1, []) := by
                by_cases hs : oSgn o q.1 = 59
                · rw [if_pos hs] at hu; cases hu; exact ⟨hs, rfl⟩
                · rw [if_neg hs] at hu; cases hu
              rw [hs.2] at hU
              have n9 := ho.2.1 _ (ho.sgn hs.1 (by decide))
              exact ih (n + 1) (oNxt o q.1) q.2 g_112 r (by omega) ⟨hU, by rw [drOf_C p_112.1]; exact hI.2⟩ ((p_112.1.1 7 5 rfl).trans h5) (h1.tr (fr_CR p_112.1)) (hr.trans ((pText_go hq hE).trans (if_pos hs.1)))
            · refine J_iconst (nx := 119) (i := 0) (v := 0) (by decide) dX8_read_118 rfl ?_
              exact Jrz dX8_read_119 rfl (by decide) (Nat.zero_le _) (Nat.zero_le _) (by obtain ⟨e, he, hff⟩ := p_112.bad c_115; exact RXi.of (PT.bad (h1.tr (fr_CR p_112.1)) (hr.trans ((pText_go hq hE).trans ((if_neg (sgn_no he).1).trans (by rw [(sgn_no he).2])))) hff))
          · have hE : oN o ≤ q.1 := by simpa using bI_n0.mp c_104
            refine J_iconst (nx := 108) (i := 1) (v := 1) (by decide) dX8_read_107 rfl ?_
            exact Jrz dX8_read_108 rfl (by decide) (Nat.zero_le _) (Nat.zero_le _) (RXi.of (PT.good h1 (hr.trans (pText_end hq hE)) (by have := hT.1.le; omega) (by omega) hI h5))
        · refine J_iconst (nx := 89) (i := 0) (v := 0) (by decide) dX8_read_88 rfl ?_
          exact Jrz dX8_read_89 rfl (by decide) (Nat.zero_le _) (Nat.zero_le _) (by obtain ⟨e, he, hff⟩ := (PG.ln hI.2 p_61).1 c_85; exact RXi.of (PT.bad (h0.tr (fr_GR p_61.1)) (hr.trans (pText_bad he)) hff))

set_option maxRecDepth 100000 in
set_option maxHeartbeats 4000000 in
theorem lp_read1 (o : Ob) (ho : ObOK o) (g0 : GS) (n0 : Nat) : ∀ (k : Nat) (n b : Nat) (s : HC) (g : GS) (r : Nat ⊕ HC), k + n = 12 → IHd o false g b s n → gF g 7 5 = nI n → Fr fR aR g0 g → r = pText o (hdLine (pGoal o)) k b s → J mX8_read (rm 30 0 0) (RXi (PT o (IHd o false) g0 r)) n0 50 [some (.ref 7), some (.int 1), some (.int (nI n)), none] [] (Wd g) 0 0 := by
  intro k
  induction k with
  | zero =>
    intro n b s g r hkn hI h5 h0 hr
    refine J_iload_n (nx := 51) dX8_read_50 rfl rfl ?_
    refine J_bipush (nx := 53) (i := 12) (v := 12) (by decide) dX8_read_51 rfl ?_
    refine J_icmp_ge (nx := 56) (tgt := 126) dX8_read_53 rfl (by decide) (fun c_53 => ?_) (fun c_53 => ?_)
    · refine J_aload_n (nx := 127) dX8_read_126 rfl rfl ?_
      refine JcV0 (R' := rm (0) 0 0) (nx := 130) dX8_read_127 rfl ml_X8_wrong lk_X8_47 iv_X8_wrong rfl rfl ⟨(Nat.le_of_ble_eq_true rfl), (Nat.le_of_ble_eq_true rfl)⟩ (Nat.le_of_ble_eq_true rfl) ⟨rfl, rfl⟩ (ct_wrong _) ?_
      exact Jrz dX8_read_130 rfl (by decide) (Nat.zero_le _) (Nat.zero_le _) (RXi.of (PT.bad (h0.tr (fr_CR (wrG_fr g))) hr hI.1.beg))
    · exact absurd (show nI 12 ≤ nI n from by rw [show n = 12 by omega]; exact le_self_nI) c_53
  | succ k ih =>
    intro n b s g r hkn hI h5 h0 hr
    refine J_iload_n (nx := 51) dX8_read_50 rfl rfl ?_
    refine J_bipush (nx := 53) (i := 12) (v := 12) (by decide) dX8_read_51 rfl ?_
    refine J_icmp_ge (nx := 56) (tgt := 126) dX8_read_53 rfl (by decide) (fun c_53 => ?_) (fun c_53 => ?_)
    · exact absurd c_53 (nlt_nI (n := 12) (by omega) (by omega))
    · refine J_iload_n (nx := 57) dX8_read_56 rfl rfl ?_
      refine J_if_ne (nx := 60) (tgt := 67) dX8_read_57 rfl (by decide) (fun c_57 => ?_) (fun c_57 => ?_)
      · refine J_iload_n (nx := 68) dX8_read_67 rfl rfl ?_
        refine J_iconst (nx := 69) (i := 1) (v := 1) (by decide) dX8_read_68 rfl ?_
        refine J_icmp_ne (nx := 72) (tgt := 79) dX8_read_69 rfl (by decide) (fun c_69 => ?_) (fun c_69 => ?_)
        · exact absurd rfl c_69
        · refine J_aload_n (nx := 73) dX8_read_72 rfl rfl ?_
          refine JiV0 (R' := rm (29) 0 0) (nx := 76) dX8_read_73 rfl ml_X8_readGoalLine lk_X8_72 iv_X8_readGoalLine rfl rfl ⟨(Nat.le_of_ble_eq_true rfl), (Nat.le_of_ble_eq_true rfl)⟩ (Nat.le_of_ble_eq_true rfl) ⟨rfl, rfl⟩ (ct_goalLine o ho g b s.2 s.1 hI.1 hI.2.2.1 (by rw [hI.2.2.2]; exact h5) (by rw [hI.2.2.2]; omega) hI.2.1) (fun x_73 g_73 p_73 => ?_)
          refine J_goto (nx := 83) dX8_read_76 (by decide) ?_
          refine J_istore_n (nx := 84) dX8_read_83 rfl rfl (Nat.le_of_ble_eq_true rfl) ?_
          refine J_iload_n (nx := 85) dX8_read_84 rfl rfl ?_
          refine J_if_ne (nx := 88) (tgt := 90) dX8_read_85 rfl (by decide) (fun c_85 => ?_) (fun c_85 => ?_)
          · obtain ⟨q, hq, hQ⟩ := (PL.ln (p := pGoal o) p_73).2 c_85
            
            refine J_aload_n (nx := 91) dX8_read_90 rfl rfl ?_
            refine J_iload_n (nx := 92) dX8_read_91 rfl rfl ?_
            refine J_iconst (nx := 93) (i := 1) (v := 1) (by decide) dX8_read_92 rfl ?_
            refine J_iadd (nx := 94) dX8_read_93 rfl ?_
            refine Jp_7_5 (nx := 97) dX8_read_94 rfl fl_X8_59 ?_
            refine J.gen (fun g_94 hg_94 => ?_)
            have h1 : Fr fR aR g0 g_94 := by rw [hg_94]; exact (h0.tr (fr_LR p_73.1)).sF rfl
            have hok := pGoal_ok ho b s.2 hI.1.1.le
            obtain ⟨hQ1, hQ2, hQ3, v, hv, hv1, hv2⟩ := hQ
            rw [hv] at hok
            have hok1 : q.2.2.length + b ≤ q.1 + s.2.length := by have := hok.2.2.1; rw [hv1, hv2] at this; exact this
            have hT : TS o false g_94 q.1 q.2.2 := by rw [hg_94]; exact hQ1.fr75 _
            have hlq : q.2.2.length ≤ q.1 := by have := hI.2.1; omega
            have hI' : IHd o false g_94 q.1 q.2 (n + 1) := ⟨hT, hlq, by rw [hg_94]; exact hQ2, by rw [hQ3, hI.2.2.2]⟩
            clear hI
            have hI := hI'
            have h5 : gF g_94 7 5 = nI (n + 1) := by rw [hg_94]; show nI n + 1 = _; rw [nI_1]
            refine J_aload_n (nx := 98) dX8_read_97 rfl rfl ?_
            refine Jg_7_0 (nx := 101) dX8_read_98 rfl fl_X8_31 ?_
            refine JcV0 (R' := rm (0) 0 0) (nx := 104) dX8_read_101 rfl ml_X7_atEnd lk_X8_66 iv_X7_atEnd rfl rfl ⟨(Nat.le_of_ble_eq_true rfl), (Nat.le_of_ble_eq_true rfl)⟩ (Nat.le_of_ble_eq_true rfl) ⟨rfl, rfl⟩ (ct_atEnd _) ?_
            rw [aeB_T ho hT]
            refine J_if_eq (nx := 107) (tgt := 109) dX8_read_104 rfl (by decide) (fun c_104 => ?_) (fun c_104 => ?_)
            · have hE : ¬ oN o ≤ q.1 := by simpa using bI_0.mp c_104
              refine J_aload_n (nx := 110) dX8_read_109 rfl rfl ?_
              refine J_bipush (nx := 112) (i := 59) (v := 59) (by decide) dX8_read_110 rfl ?_
              refine JiV1 (R' := rm (1) 0 0) (nx := 115) dX8_read_112 rfl ml_X8_takeSign lk_X8_78 iv_X8_takeSign rfl rfl ⟨(Nat.le_of_ble_eq_true rfl), (Nat.le_of_ble_eq_true rfl)⟩ (Nat.le_of_ble_eq_true rfl) ⟨rfl, rfl⟩ (ct_takeSign o ho false g_94 q.1 q.2.2 hT 59 (by decide)) (fun x_112 g_112 p_112 => ?_)
              refine J_if_ne (nx := 118) (tgt := 120) dX8_read_115 rfl (by decide) (fun c_115 => ?_) (fun c_115 => ?_)
              · refine J_iinc (nx := 123) dX8_read_120 rfl rfl rfl (Nat.le_of_ble_eq_true rfl) ?_
                refine J_goto (nx := 50) dX8_read_123 (by decide) ?_
                refine J_kill (nx := 0) 3 ?_
                show J _ _ _ _ 50 [some (.ref 7), some (.int 1), some (.int (nI n + Int32.ofInt 1)), none] [] _ 0 0
                rw [nI_s]
                obtain ⟨u, hu, hU⟩ := p_112.goes c_115
                have hs : oSgn o q.1 = 59 ∧ u = (oNxt o q.1, q.2.2) := by
                  by_cases hs : oSgn o q.1 = 59
                  · rw [if_pos hs] at hu; cases hu; exact ⟨hs, rfl⟩
                  · rw [if_neg hs] at hu; cases hu
                rw [hs.2] at hU
                have n9 := ho.2.1 _ (ho.sgn hs.1 (by decide))
                exact ih (n + 1) (oNxt o q.1) q.2 g_112 r (by omega) ⟨hU, by show q.2.2.length ≤ oNxt o q.1; have := hI.2.1; omega, hI.2.2.1.fr (p_112.1.2.1 18 rfl), hI.2.2.2⟩ ((p_112.1.1 7 5 rfl).trans h5) (h1.tr (fr_CR p_112.1)) (hr.trans ((pText_go hq hE).trans (if_pos hs.1)))
              · refine J_iconst (nx := 119) (i := 0) (v := 0) (by decide) dX8_read_118 rfl ?_
                exact Jrz dX8_read_119 rfl (by decide) (Nat.zero_le _) (Nat.zero_le _) (by obtain ⟨e, he, hff⟩ := p_112.bad c_115; exact RXi.of (PT.bad (h1.tr (fr_CR p_112.1)) (hr.trans ((pText_go hq hE).trans ((if_neg (sgn_no he).1).trans (by rw [(sgn_no he).2])))) hff))
            · have hE : oN o ≤ q.1 := by simpa using bI_n0.mp c_104
              refine J_iconst (nx := 108) (i := 1) (v := 1) (by decide) dX8_read_107 rfl ?_
              exact Jrz dX8_read_108 rfl (by decide) (Nat.zero_le _) (Nat.zero_le _) (RXi.of (PT.good h1 (hr.trans (pText_end hq hE)) (by have := hT.1.le; omega) (by omega) hI h5))
          · refine J_iconst (nx := 89) (i := 0) (v := 0) (by decide) dX8_read_88 rfl ?_
            exact Jrz dX8_read_89 rfl (by decide) (Nat.zero_le _) (Nat.zero_le _) (by obtain ⟨e, he, hff⟩ := (PL.ln (p := pGoal o) p_73).1 c_85; exact RXi.of (PT.bad (h0.tr (fr_LR p_73.1)) (hr.trans (pText_bad he)) hff))
      · exact absurd c_57 (by decide)

set_option maxRecDepth 100000 in
set_option maxHeartbeats 4000000 in
theorem lp_read2 (o : Ob) (ho : ObOK o) (g0 : GS) (n0 : Nat) : ∀ (k : Nat) (n b : Nat) (s : HC) (g : GS) (r : Nat ⊕ HC), k + n = 12 → IHd o true g b s n → gF g 7 5 = nI n → Fr fR aR g0 g → r = pText o (hdLine (pRule o)) k b s → J mX8_read (rm 30 0 0) (RXi (PT o (IHd o true) g0 r)) n0 50 [some (.ref 7), some (.int 2), some (.int (nI n)), none] [] (Wd g) 0 0 := by
  intro k
  induction k with
  | zero =>
    intro n b s g r hkn hI h5 h0 hr
    refine J_iload_n (nx := 51) dX8_read_50 rfl rfl ?_
    refine J_bipush (nx := 53) (i := 12) (v := 12) (by decide) dX8_read_51 rfl ?_
    refine J_icmp_ge (nx := 56) (tgt := 126) dX8_read_53 rfl (by decide) (fun c_53 => ?_) (fun c_53 => ?_)
    · refine J_aload_n (nx := 127) dX8_read_126 rfl rfl ?_
      refine JcV0 (R' := rm (0) 0 0) (nx := 130) dX8_read_127 rfl ml_X8_wrong lk_X8_47 iv_X8_wrong rfl rfl ⟨(Nat.le_of_ble_eq_true rfl), (Nat.le_of_ble_eq_true rfl)⟩ (Nat.le_of_ble_eq_true rfl) ⟨rfl, rfl⟩ (ct_wrong _) ?_
      exact Jrz dX8_read_130 rfl (by decide) (Nat.zero_le _) (Nat.zero_le _) (RXi.of (PT.bad (h0.tr (fr_CR (wrG_fr g))) hr hI.1.beg))
    · exact absurd (show nI 12 ≤ nI n from by rw [show n = 12 by omega]; exact le_self_nI) c_53
  | succ k ih =>
    intro n b s g r hkn hI h5 h0 hr
    refine J_iload_n (nx := 51) dX8_read_50 rfl rfl ?_
    refine J_bipush (nx := 53) (i := 12) (v := 12) (by decide) dX8_read_51 rfl ?_
    refine J_icmp_ge (nx := 56) (tgt := 126) dX8_read_53 rfl (by decide) (fun c_53 => ?_) (fun c_53 => ?_)
    · exact absurd c_53 (nlt_nI (n := 12) (by omega) (by omega))
    · refine J_iload_n (nx := 57) dX8_read_56 rfl rfl ?_
      refine J_if_ne (nx := 60) (tgt := 67) dX8_read_57 rfl (by decide) (fun c_57 => ?_) (fun c_57 => ?_)
      · refine J_iload_n (nx := 68) dX8_read_67 rfl rfl ?_
        refine J_iconst (nx := 69) (i := 1) (v := 1) (by decide) dX8_read_68 rfl ?_
        refine J_icmp_ne (nx := 72) (tgt := 79) dX8_read_69 rfl (by decide) (fun c_69 => ?_) (fun c_69 => ?_)
        · refine J_aload_n (nx := 80) dX8_read_79 rfl rfl ?_
          refine JiV0 (R' := rm (29) 0 0) (nx := 83) dX8_read_80 rfl ml_X8_readRuleLine lk_X8_75 iv_X8_readRuleLine rfl rfl ⟨(Nat.le_of_ble_eq_true rfl), (Nat.le_of_ble_eq_true rfl)⟩ (Nat.le_of_ble_eq_true rfl) ⟨rfl, rfl⟩ (ct_ruleLine o ho g b s.2 s.1 hI.1 hI.2.2.1 (by rw [hI.2.2.2]; exact h5) (by rw [hI.2.2.2]; omega) hI.2.1) (fun x_80 g_80 p_80 => ?_)
          refine J_istore_n (nx := 84) dX8_read_83 rfl rfl (Nat.le_of_ble_eq_true rfl) ?_
          refine J_iload_n (nx := 85) dX8_read_84 rfl rfl ?_
          refine J_if_ne (nx := 88) (tgt := 90) dX8_read_85 rfl (by decide) (fun c_85 => ?_) (fun c_85 => ?_)
          · obtain ⟨q, hq, hQ⟩ := (PL.ln (p := pRule o) p_80).2 c_85
            
            refine J_aload_n (nx := 91) dX8_read_90 rfl rfl ?_
            refine J_iload_n (nx := 92) dX8_read_91 rfl rfl ?_
            refine J_iconst (nx := 93) (i := 1) (v := 1) (by decide) dX8_read_92 rfl ?_
            refine J_iadd (nx := 94) dX8_read_93 rfl ?_
            refine Jp_7_5 (nx := 97) dX8_read_94 rfl fl_X8_59 ?_
            refine J.gen (fun g_94 hg_94 => ?_)
            have h1 : Fr fR aR g0 g_94 := by rw [hg_94]; exact (h0.tr (fr_LR p_80.1)).sF rfl
            have hok := pRule_ok ho b s.2 hI.1.1.le
            obtain ⟨hQ1, hQ2, hQ3, v, hv, hv1, hv2⟩ := hQ
            rw [hv] at hok
            have hok1 : q.2.2.length + b ≤ q.1 + s.2.length := by have := hok.2.2.1; rw [hv1, hv2] at this; exact this
            have hT : TS o true g_94 q.1 q.2.2 := by rw [hg_94]; exact hQ1.fr75 _
            have hlq : q.2.2.length ≤ q.1 := by have := hI.2.1; omega
            have hI' : IHd o true g_94 q.1 q.2 (n + 1) := ⟨hT, hlq, by rw [hg_94]; exact hQ2, by rw [hQ3, hI.2.2.2]⟩
            clear hI
            have hI := hI'
            have h5 : gF g_94 7 5 = nI (n + 1) := by rw [hg_94]; show nI n + 1 = _; rw [nI_1]
            refine J_aload_n (nx := 98) dX8_read_97 rfl rfl ?_
            refine Jg_7_0 (nx := 101) dX8_read_98 rfl fl_X8_31 ?_
            refine JcV0 (R' := rm (0) 0 0) (nx := 104) dX8_read_101 rfl ml_X7_atEnd lk_X8_66 iv_X7_atEnd rfl rfl ⟨(Nat.le_of_ble_eq_true rfl), (Nat.le_of_ble_eq_true rfl)⟩ (Nat.le_of_ble_eq_true rfl) ⟨rfl, rfl⟩ (ct_atEnd _) ?_
            rw [aeB_T ho hT]
            refine J_if_eq (nx := 107) (tgt := 109) dX8_read_104 rfl (by decide) (fun c_104 => ?_) (fun c_104 => ?_)
            · have hE : ¬ oN o ≤ q.1 := by simpa using bI_0.mp c_104
              refine J_aload_n (nx := 110) dX8_read_109 rfl rfl ?_
              refine J_bipush (nx := 112) (i := 59) (v := 59) (by decide) dX8_read_110 rfl ?_
              refine JiV1 (R' := rm (1) 0 0) (nx := 115) dX8_read_112 rfl ml_X8_takeSign lk_X8_78 iv_X8_takeSign rfl rfl ⟨(Nat.le_of_ble_eq_true rfl), (Nat.le_of_ble_eq_true rfl)⟩ (Nat.le_of_ble_eq_true rfl) ⟨rfl, rfl⟩ (ct_takeSign o ho true g_94 q.1 q.2.2 hT 59 (by decide)) (fun x_112 g_112 p_112 => ?_)
              refine J_if_ne (nx := 118) (tgt := 120) dX8_read_115 rfl (by decide) (fun c_115 => ?_) (fun c_115 => ?_)
              · refine J_iinc (nx := 123) dX8_read_120 rfl rfl rfl (Nat.le_of_ble_eq_true rfl) ?_
                refine J_goto (nx := 50) dX8_read_123 (by decide) ?_
                refine J_kill (nx := 0) 3 ?_
                show J _ _ _ _ 50 [some (.ref 7), some (.int 2), some (.int (nI n + Int32.ofInt 1)), none] [] _ 0 0
                rw [nI_s]
                obtain ⟨u, hu, hU⟩ := p_112.goes c_115
                have hs : oSgn o q.1 = 59 ∧ u = (oNxt o q.1, q.2.2) := by
                  by_cases hs : oSgn o q.1 = 59
                  · rw [if_pos hs] at hu; cases hu; exact ⟨hs, rfl⟩
                  · rw [if_neg hs] at hu; cases hu
                rw [hs.2] at hU
                have n9 := ho.2.1 _ (ho.sgn hs.1 (by decide))
                exact ih (n + 1) (oNxt o q.1) q.2 g_112 r (by omega) ⟨hU, by show q.2.2.length ≤ oNxt o q.1; have := hI.2.1; omega, hI.2.2.1.fr (p_112.1.2.1 18 rfl), hI.2.2.2⟩ ((p_112.1.1 7 5 rfl).trans h5) (h1.tr (fr_CR p_112.1)) (hr.trans ((pText_go hq hE).trans (if_pos hs.1)))
              · refine J_iconst (nx := 119) (i := 0) (v := 0) (by decide) dX8_read_118 rfl ?_
                exact Jrz dX8_read_119 rfl (by decide) (Nat.zero_le _) (Nat.zero_le _) (by obtain ⟨e, he, hff⟩ := p_112.bad c_115; exact RXi.of (PT.bad (h1.tr (fr_CR p_112.1)) (hr.trans ((pText_go hq hE).trans ((if_neg (sgn_no he).1).trans (by rw [(sgn_no he).2])))) hff))
            · have hE : oN o ≤ q.1 := by simpa using bI_n0.mp c_104
              refine J_iconst (nx := 108) (i := 1) (v := 1) (by decide) dX8_read_107 rfl ?_
              exact Jrz dX8_read_108 rfl (by decide) (Nat.zero_le _) (Nat.zero_le _) (RXi.of (PT.good h1 (hr.trans (pText_end hq hE)) (by have := hT.1.le; omega) (by omega) hI h5))
          · refine J_iconst (nx := 89) (i := 0) (v := 0) (by decide) dX8_read_88 rfl ?_
            exact Jrz dX8_read_89 rfl (by decide) (Nat.zero_le _) (Nat.zero_le _) (by obtain ⟨e, he, hff⟩ := (PL.ln (p := pRule o) p_80).1 c_85; exact RXi.of (PT.bad (h0.tr (fr_LR p_80.1)) (hr.trans (pText_bad he)) hff))
        · exact absurd c_69 (by decide)
      · exact absurd c_57 (by decide)


/-- the state in which LINES begin -/
def rd0 (L : Nat) (g : GS) (n : Nat) : GS := sF (sF (sF (sF (ftG n g) 7 7 (-1)) 7 4 0) 7 5 0) 7 6 (bI (decide (L = 2)))
theorem rd0_fr {L : Nat} {g : GS} {n : Nat} (h : Fr fT aT g (ftG n g)) : Fr fR aR g (rd0 L g n) := ((((fr_TR h).sF rfl).sF rfl).sF rfl).sF rfl
theorem rd0_T {L : Nat} {g : GS} {n : Nat} (hn : gF g 1 1 = nI n) (hn4 : n ≤ 400) : TS (obT n (gA g 2)) (decide (L = 2)) (rd0 L g n) (sk n (gA g 2) 0) [] ∧ gF (rd0 L g n) 7 5 = 0 ∧ Fr fR aR g (rd0 L g n) := by
  have h := ftG_ok hn hn4
  refine ⟨⟨?_, rfl, rfl, fun i hi => absurd hi (Nat.not_lt_zero i), rfl⟩, rfl, rd0_fr h.2⟩
  exact h.1.fr (f := fun c _ => Nat.beq c 7) (a := fun _ => false) ((((Fr.rf.sF rfl).sF rfl).sF rfl).sF rfl) (fun _ => rfl) rfl rfl rfl rfl
theorem drOf_R0 {L : Nat} {g : GS} {n : Nat} (h : Fr fT aT g (ftG n g)) : drOf (rd0 L g n) = drOf g := by
  unfold drOf
  show (gA (ftG n g) 9, gA (ftG n g) 10, gF (ftG n g) 8 12) = _
  rw [h.2.1 9 rfl, h.2.1 10 rfl, h.1 8 12 rfl]

set_option maxRecDepth 100000 in
set_option maxHeartbeats 4000000 in
theorem ct_read0 (g : GS) (n : Nat) (hn : gF g 1 1 = nI n) (hn4 : n ≤ 400) : Ct mX8_read (rm 30 0 0) [.ref 7, .int 0] (Wd g) (RXi (PT (obT n (gA g 2)) (IG (obT n (gA g 2))) g (pRead (obT n (gA g 2)) (gaLine (obT n (gA g 2))) (sk n (gA g 2) 0) (drOf g)))) := by
  refine Ct.of (by decide +kernel) (Nat.le_of_ble_eq_true rfl) ?_
  show J _ _ _ _ 0 [some (.ref 7), some (.int 0), none, none] [] _ 0 0
  refine J_aload_n (nx := 1) dX8_read_0 rfl rfl ?_
  refine Jg_7_0 (nx := 4) dX8_read_1 rfl fl_X8_31 ?_
  refine JcV0 (R' := rm (7) 0 0) (nx := 7) dX8_read_4 rfl ml_X7_findThings lk_X8_51 iv_X7_findThings rfl rfl ⟨(Nat.le_of_ble_eq_true rfl), (Nat.le_of_ble_eq_true rfl)⟩ (Nat.le_of_ble_eq_true rfl) ⟨rfl, rfl⟩ (ct_findThings _ n hn hn4) ?_
  refine J.gen (fun g_4 hg_4 => ?_)
  refine J_aload_n (nx := 8) dX8_read_7 rfl rfl ?_
  refine J_iconst (nx := 9) (i := -1) (v := -1) (by decide) dX8_read_8 rfl ?_
  refine Jp_7_7 (nx := 12) dX8_read_9 rfl fl_X8_27 ?_
  refine J.gen (fun g_9 hg_9 => ?_)
  refine J_aload_n (nx := 13) dX8_read_12 rfl rfl ?_
  refine J_iconst (nx := 14) (i := 0) (v := 0) (by decide) dX8_read_13 rfl ?_
  refine Jp_7_4 (nx := 17) dX8_read_14 rfl fl_X8_56 ?_
  refine J.gen (fun g_14 hg_14 => ?_)
  refine J_aload_n (nx := 18) dX8_read_17 rfl rfl ?_
  refine J_iconst (nx := 19) (i := 0) (v := 0) (by decide) dX8_read_18 rfl ?_
  refine Jp_7_5 (nx := 22) dX8_read_19 rfl fl_X8_59 ?_
  refine J.gen (fun g_19 hg_19 => ?_)
  refine J_aload_n (nx := 23) dX8_read_22 rfl rfl ?_
  refine J_iload_n (nx := 24) dX8_read_23 rfl rfl ?_
  refine J_iconst (nx := 25) (i := 2) (v := 2) (by decide) dX8_read_24 rfl ?_
  refine J_icmp_ne (nx := 28) (tgt := 32) dX8_read_25 rfl (by decide) (fun c_25 => ?_) (fun c_25 => ?_)
  · refine J_iconst (nx := 33) (i := 0) (v := 0) (by decide) dX8_read_32 rfl ?_
    refine Jp_7_6 (nx := 36) dX8_read_33 rfl fl_X8_62 (by decide) (by decide) ?_
    refine J.gen (fun g_33 hg_33 => ?_)
    have eS : g_33 = rd0 0 g n := by rw [hg_33, hg_19, hg_14, hg_9, hg_4]; rfl
    have hS : TS (obT n (gA g 2)) false g_33 (sk n (gA g 2) 0) [] ∧ gF g_33 7 5 = 0 ∧ Fr fR aR g g_33 := by rw [eS]; exact rd0_T hn hn4
    refine J_aload_n (nx := 37) dX8_read_36 rfl rfl ?_
    refine Jg_7_0 (nx := 40) dX8_read_37 rfl fl_X8_31 ?_
    refine JcV0 (R' := rm (0) 0 0) (nx := 43) dX8_read_40 rfl ml_X7_atEnd lk_X8_66 iv_X7_atEnd rfl rfl ⟨(Nat.le_of_ble_eq_true rfl), (Nat.le_of_ble_eq_true rfl)⟩ (Nat.le_of_ble_eq_true rfl) ⟨rfl, rfl⟩ (ct_atEnd _) ?_
    rw [aeB_T (obT_ok n _ hn4) hS.1]
    refine J_if_eq (nx := 46) (tgt := 48) dX8_read_43 rfl (by decide) (fun c_43 => ?_) (fun c_43 => ?_)
    · have hE : ¬ oN (obT n (gA g 2)) ≤ sk n (gA g 2) 0 := by simpa using bI_0.mp c_43
      refine J_iconst (nx := 49) (i := 0) (v := 0) (by decide) dX8_read_48 rfl ?_
      refine J_istore_n (nx := 50) dX8_read_49 rfl rfl (Nat.le_of_ble_eq_true rfl) ?_
      exact lp_read0 (obT n (gA g 2)) (obT_ok n _ hn4) g _ 12 0 _ (drOf g) g_33 _ rfl (by exact ⟨hS.1, by rw [eS]; exact drOf_R0 (ftG_ok hn hn4).2⟩) hS.2.1 hS.2.2 (if_neg hE)
    · have hE : oN (obT n (gA g 2)) ≤ sk n (gA g 2) 0 := by simpa using bI_n0.mp c_43
      refine J_iconst (nx := 47) (i := 1) (v := 1) (by decide) dX8_read_46 rfl ?_
      exact Jrz dX8_read_47 rfl (by decide) (Nat.zero_le _) (Nat.zero_le _) (RXi.of (PT.good (n := 0) (b := sk n (gA g 2) 0) hS.2.2 (if_pos hE) (by have := hS.1.1.le; omega) (by omega) (by exact ⟨hS.1, by rw [eS]; exact drOf_R0 (ftG_ok hn hn4).2⟩) hS.2.1))
  · exact absurd c_25 (by decide)

set_option maxRecDepth 100000 in
set_option maxHeartbeats 4000000 in
theorem ct_read1 (g : GS) (n : Nat) (hn : gF g 1 1 = nI n) (hn4 : n ≤ 400) : Ct mX8_read (rm 30 0 0) [.ref 7, .int 1] (Wd g) (RXi (PT (obT n (gA g 2)) (IHd (obT n (gA g 2)) false) g (pRead (obT n (gA g 2)) (hdLine (pGoal (obT n (gA g 2)))) (sk n (gA g 2) 0) ([], [])))) := by
  refine Ct.of (by decide +kernel) (Nat.le_of_ble_eq_true rfl) ?_
  show J _ _ _ _ 0 [some (.ref 7), some (.int 1), none, none] [] _ 0 0
  refine J_aload_n (nx := 1) dX8_read_0 rfl rfl ?_
  refine Jg_7_0 (nx := 4) dX8_read_1 rfl fl_X8_31 ?_
  refine JcV0 (R' := rm (7) 0 0) (nx := 7) dX8_read_4 rfl ml_X7_findThings lk_X8_51 iv_X7_findThings rfl rfl ⟨(Nat.le_of_ble_eq_true rfl), (Nat.le_of_ble_eq_true rfl)⟩ (Nat.le_of_ble_eq_true rfl) ⟨rfl, rfl⟩ (ct_findThings _ n hn hn4) ?_
  refine J.gen (fun g_4 hg_4 => ?_)
  refine J_aload_n (nx := 8) dX8_read_7 rfl rfl ?_
  refine J_iconst (nx := 9) (i := -1) (v := -1) (by decide) dX8_read_8 rfl ?_
  refine Jp_7_7 (nx := 12) dX8_read_9 rfl fl_X8_27 ?_
  refine J.gen (fun g_9 hg_9 => ?_)
  refine J_aload_n (nx := 13) dX8_read_12 rfl rfl ?_
  refine J_iconst (nx := 14) (i := 0) (v := 0) (by decide) dX8_read_13 rfl ?_
  refine Jp_7_4 (nx := 17) dX8_read_14 rfl fl_X8_56 ?_
  refine J.gen (fun g_14 hg_14 => ?_)
  refine J_aload_n (nx := 18) dX8_read_17 rfl rfl ?_
  refine J_iconst (nx := 19) (i := 0) (v := 0) (by decide) dX8_read_18 rfl ?_
  refine Jp_7_5 (nx := 22) dX8_read_19 rfl fl_X8_59 ?_
  refine J.gen (fun g_19 hg_19 => ?_)
  refine J_aload_n (nx := 23) dX8_read_22 rfl rfl ?_
  refine J_iload_n (nx := 24) dX8_read_23 rfl rfl ?_
  refine J_iconst (nx := 25) (i := 2) (v := 2) (by decide) dX8_read_24 rfl ?_
  refine J_icmp_ne (nx := 28) (tgt := 32) dX8_read_25 rfl (by decide) (fun c_25 => ?_) (fun c_25 => ?_)
  · refine J_iconst (nx := 33) (i := 0) (v := 0) (by decide) dX8_read_32 rfl ?_
    refine Jp_7_6 (nx := 36) dX8_read_33 rfl fl_X8_62 (by decide) (by decide) ?_
    refine J.gen (fun g_33 hg_33 => ?_)
    have eS : g_33 = rd0 1 g n := by rw [hg_33, hg_19, hg_14, hg_9, hg_4]; rfl
    have hS : TS (obT n (gA g 2)) false g_33 (sk n (gA g 2) 0) [] ∧ gF g_33 7 5 = 0 ∧ Fr fR aR g g_33 := by rw [eS]; exact rd0_T hn hn4
    refine J_aload_n (nx := 37) dX8_read_36 rfl rfl ?_
    refine Jg_7_0 (nx := 40) dX8_read_37 rfl fl_X8_31 ?_
    refine JcV0 (R' := rm (0) 0 0) (nx := 43) dX8_read_40 rfl ml_X7_atEnd lk_X8_66 iv_X7_atEnd rfl rfl ⟨(Nat.le_of_ble_eq_true rfl), (Nat.le_of_ble_eq_true rfl)⟩ (Nat.le_of_ble_eq_true rfl) ⟨rfl, rfl⟩ (ct_atEnd _) ?_
    rw [aeB_T (obT_ok n _ hn4) hS.1]
    refine J_if_eq (nx := 46) (tgt := 48) dX8_read_43 rfl (by decide) (fun c_43 => ?_) (fun c_43 => ?_)
    · have hE : ¬ oN (obT n (gA g 2)) ≤ sk n (gA g 2) 0 := by simpa using bI_0.mp c_43
      refine J_iconst (nx := 49) (i := 0) (v := 0) (by decide) dX8_read_48 rfl ?_
      refine J_istore_n (nx := 50) dX8_read_49 rfl rfl (Nat.le_of_ble_eq_true rfl) ?_
      exact lp_read1 (obT n (gA g 2)) (obT_ok n _ hn4) g _ 12 0 _ ([], []) g_33 _ rfl (by exact ⟨hS.1, Nat.zero_le _, fun i hi => absurd hi (Nat.not_lt_zero i), rfl⟩) hS.2.1 hS.2.2 (if_neg hE)
    · have hE : oN (obT n (gA g 2)) ≤ sk n (gA g 2) 0 := by simpa using bI_n0.mp c_43
      refine J_iconst (nx := 47) (i := 1) (v := 1) (by decide) dX8_read_46 rfl ?_
      exact Jrz dX8_read_47 rfl (by decide) (Nat.zero_le _) (Nat.zero_le _) (RXi.of (PT.good (n := 0) (b := sk n (gA g 2) 0) hS.2.2 (if_pos hE) (by have := hS.1.1.le; omega) (by omega) (by exact ⟨hS.1, Nat.zero_le _, fun i hi => absurd hi (Nat.not_lt_zero i), rfl⟩) hS.2.1))
  · exact absurd c_25 (by decide)

set_option maxRecDepth 100000 in
set_option maxHeartbeats 4000000 in
theorem ct_read2 (g : GS) (n : Nat) (hn : gF g 1 1 = nI n) (hn4 : n ≤ 400) : Ct mX8_read (rm 30 0 0) [.ref 7, .int 2] (Wd g) (RXi (PT (obT n (gA g 2)) (IHd (obT n (gA g 2)) true) g (pRead (obT n (gA g 2)) (hdLine (pRule (obT n (gA g 2)))) (sk n (gA g 2) 0) ([], [])))) := by
  refine Ct.of (by decide +kernel) (Nat.le_of_ble_eq_true rfl) ?_
  show J _ _ _ _ 0 [some (.ref 7), some (.int 2), none, none] [] _ 0 0
  refine J_aload_n (nx := 1) dX8_read_0 rfl rfl ?_
  refine Jg_7_0 (nx := 4) dX8_read_1 rfl fl_X8_31 ?_
  refine JcV0 (R' := rm (7) 0 0) (nx := 7) dX8_read_4 rfl ml_X7_findThings lk_X8_51 iv_X7_findThings rfl rfl ⟨(Nat.le_of_ble_eq_true rfl), (Nat.le_of_ble_eq_true rfl)⟩ (Nat.le_of_ble_eq_true rfl) ⟨rfl, rfl⟩ (ct_findThings _ n hn hn4) ?_
  refine J.gen (fun g_4 hg_4 => ?_)
  refine J_aload_n (nx := 8) dX8_read_7 rfl rfl ?_
  refine J_iconst (nx := 9) (i := -1) (v := -1) (by decide) dX8_read_8 rfl ?_
  refine Jp_7_7 (nx := 12) dX8_read_9 rfl fl_X8_27 ?_
  refine J.gen (fun g_9 hg_9 => ?_)
  refine J_aload_n (nx := 13) dX8_read_12 rfl rfl ?_
  refine J_iconst (nx := 14) (i := 0) (v := 0) (by decide) dX8_read_13 rfl ?_
  refine Jp_7_4 (nx := 17) dX8_read_14 rfl fl_X8_56 ?_
  refine J.gen (fun g_14 hg_14 => ?_)
  refine J_aload_n (nx := 18) dX8_read_17 rfl rfl ?_
  refine J_iconst (nx := 19) (i := 0) (v := 0) (by decide) dX8_read_18 rfl ?_
  refine Jp_7_5 (nx := 22) dX8_read_19 rfl fl_X8_59 ?_
  refine J.gen (fun g_19 hg_19 => ?_)
  refine J_aload_n (nx := 23) dX8_read_22 rfl rfl ?_
  refine J_iload_n (nx := 24) dX8_read_23 rfl rfl ?_
  refine J_iconst (nx := 25) (i := 2) (v := 2) (by decide) dX8_read_24 rfl ?_
  refine J_icmp_ne (nx := 28) (tgt := 32) dX8_read_25 rfl (by decide) (fun c_25 => ?_) (fun c_25 => ?_)
  · exact absurd rfl c_25
  · refine J_iconst (nx := 29) (i := 1) (v := 1) (by decide) dX8_read_28 rfl ?_
    refine J_goto (nx := 33) dX8_read_29 (by decide) ?_
    refine Jp_7_6 (nx := 36) dX8_read_33 rfl fl_X8_62 (by decide) (by decide) ?_
    refine J.gen (fun g_33 hg_33 => ?_)
    have eS : g_33 = rd0 2 g n := by rw [hg_33, hg_19, hg_14, hg_9, hg_4]; rfl
    have hS : TS (obT n (gA g 2)) true g_33 (sk n (gA g 2) 0) [] ∧ gF g_33 7 5 = 0 ∧ Fr fR aR g g_33 := by rw [eS]; exact rd0_T hn hn4
    refine J_aload_n (nx := 37) dX8_read_36 rfl rfl ?_
    refine Jg_7_0 (nx := 40) dX8_read_37 rfl fl_X8_31 ?_
    refine JcV0 (R' := rm (0) 0 0) (nx := 43) dX8_read_40 rfl ml_X7_atEnd lk_X8_66 iv_X7_atEnd rfl rfl ⟨(Nat.le_of_ble_eq_true rfl), (Nat.le_of_ble_eq_true rfl)⟩ (Nat.le_of_ble_eq_true rfl) ⟨rfl, rfl⟩ (ct_atEnd _) ?_
    rw [aeB_T (obT_ok n _ hn4) hS.1]
    refine J_if_eq (nx := 46) (tgt := 48) dX8_read_43 rfl (by decide) (fun c_43 => ?_) (fun c_43 => ?_)
    · have hE : ¬ oN (obT n (gA g 2)) ≤ sk n (gA g 2) 0 := by simpa using bI_0.mp c_43
      refine J_iconst (nx := 49) (i := 0) (v := 0) (by decide) dX8_read_48 rfl ?_
      refine J_istore_n (nx := 50) dX8_read_49 rfl rfl (Nat.le_of_ble_eq_true rfl) ?_
      exact lp_read2 (obT n (gA g 2)) (obT_ok n _ hn4) g _ 12 0 _ ([], []) g_33 _ rfl (by exact ⟨hS.1, Nat.zero_le _, fun i hi => absurd hi (Nat.not_lt_zero i), rfl⟩) hS.2.1 hS.2.2 (if_neg hE)
    · have hE : oN (obT n (gA g 2)) ≤ sk n (gA g 2) 0 := by simpa using bI_n0.mp c_43
      refine J_iconst (nx := 47) (i := 1) (v := 1) (by decide) dX8_read_46 rfl ?_
      exact Jrz dX8_read_47 rfl (by decide) (Nat.zero_le _) (Nat.zero_le _) (RXi.of (PT.good (n := 0) (b := sk n (gA g 2) 0) hS.2.2 (if_pos hE) (by have := hS.1.1.le; omega) (by omega) (by exact ⟨hS.1, Nat.zero_le _, fun i hi => absurd hi (Nat.not_lt_zero i), rfl⟩) hS.2.1))

