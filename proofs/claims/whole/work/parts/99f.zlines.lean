
/-! lines -/
def Gl (c : Int32) : Prop := (cv c).1 < 3 ∨ 8 ≤ (cv c).1
def AllG (cs : List Int32) : Prop := ∀ c, c ∈ cs → Gl c
theorem AllG.app {a b : List Int32} (h1 : AllG a) (h2 : AllG b) : AllG (a ++ b) := fun c hc => (List.mem_append.mp hc).elim (h1 c) (h2 c)
theorem AllG.one {c : Int32} (h : Gl c) : AllG [c] := fun d hd => by rw [List.mem_singleton.mp hd]; exact h
theorem Gl_ops : Gl 10010 ∧ Gl 10011 ∧ Gl 10012 ∧ Gl 10013 ∧ Gl 10014 ∧ Gl 10015 := by
  obtain ⟨a, b, c, d, e, f⟩ := cv_ops
  unfold Gl
  rw [a, b, c, d, e, f]
  exact ⟨Or.inr (by decide), Or.inr (by decide), Or.inr (by decide), Or.inr (by decide), Or.inr (by decide), Or.inr (by decide)⟩
theorem cvF_lo : ∀ f : Fin 7, 4 ≤ f.val → cvF f.val < 3 := by decide
theorem cell_G {o : Ob} (ho : ObOK o) {b : Nat} (h : ¬ pCell o false b = -1) : Gl (pCell o false b) := by
  unfold pCell at h ⊢
  by_cases c : pFact o false b = -1
  · rw [if_pos c] at h ⊢
    rcases ho.2.2.2.2 b with h1 | ⟨v, hv, e⟩
    · exact absurd h1 h
    · rw [e]; unfold Gl; rw [cv_n hv]; exact Or.inr (Nat.le_refl 8)
  · rw [if_neg c]
    rcases pFact_v ho false b with h1 | ⟨f, hf, h2, e⟩
    · exact absurd h1 c
    · rw [e, (lt4 ⟨f, hf⟩).2.2]
      unfold Gl
      rw [(cv_f ⟨f, by omega⟩).1]
      exact Or.inl (cvF_lo ⟨f, hf⟩ (h2.resolve_left (by decide)))
theorem sumL_G {o : Ob} (ho : ObOK o) : ∀ (k n b : Nat) (cs : List Int32) (q : Nat × List Int32), AllG cs → pSumL o false k n b cs = .inr q → AllG q.2
  | 0, n, b, cs, q, hn, h => by cases h
  | k + 1, n, b, cs, q, hn, h => by
    unfold pSumL at h
    by_cases c : pCell o false b = -1
    · rw [if_pos c] at h; cases h
    · rw [if_neg c] at h
      have hc : AllG (if n = 0 then cs ++ [pCell o false b] else cs ++ [pCell o false b] ++ [10010]) := by
        split
        · exact hn.app (AllG.one (cell_G ho c))
        · exact (hn.app (AllG.one (cell_G ho c))).app (AllG.one Gl_ops.1)
      by_cases d : oSgn o (oNxt o b) = 43
      · rw [if_pos d] at h
        exact sumL_G ho k (n + 1) _ _ q hc h
      · rw [if_neg d] at h
        cases h
        exact hc
def ItG (item : Nat → List Int32 → PR) : Prop := ∀ b cs q, AllG cs → item b cs = .inr q → AllG q.2
theorem base_G {o : Ob} (ho : ObOK o) : ItG (pBase o false) := by
  intro b cs q hn h
  unfold pBase at h
  rw [if_neg (fun z => z.1 rfl)] at h
  cases h1 : pSum o false b cs with
  | inl e => rw [h1] at h; cases h
  | inr p =>
    rw [h1] at h
    dsimp only at h
    have i1 := sumL_G ho 400 0 b cs p hn h1
    by_cases d : oSgn o p.1 = 60
    · rw [if_pos d] at h
      cases h2 : pSum o false (oNxt o p.1) p.2 with
      | inl e => rw [h2] at h; cases h
      | inr r => rw [h2] at h; cases h; exact (sumL_G ho 400 0 _ p.2 r i1 h2).app (AllG.one Gl_ops.2.1)
    · rw [if_neg d] at h
      by_cases d2 : oSgn o p.1 = 62
      · rw [if_pos d2] at h
        cases h2 : pSum o false (oNxt o p.1) p.2 with
        | inl e => rw [h2] at h; cases h
        | inr r => rw [h2] at h; cases h; exact (sumL_G ho 400 0 _ p.2 r i1 h2).app (AllG.one Gl_ops.2.2.1)
      · rw [if_neg d2] at h; cases h
theorem loop_G {o : Ob} {item : Nat → List Int32 → PR} (hi : ItG item) (w : Nat) {op : Int32} (ho : Gl op) : ∀ (k b : Nat) (cs : List Int32) (q : Nat × List Int32), AllG cs → pLoop o item w op k b cs = .inr q → AllG q.2
  | 0, b, cs, q, ha, h => by cases h; exact ha
  | k + 1, b, cs, q, ha, h => by
    unfold pLoop at h
    by_cases c : oWrd o b = w
    · rw [if_pos c] at h
      cases h1 : item (oNxt o b) cs with
      | inl e => rw [h1] at h; cases h
      | inr p => rw [h1] at h; exact loop_G hi w ho k _ _ q ((hi _ _ _ ha h1).app (AllG.one ho)) h
    · rw [if_neg c] at h; cases h; exact ha
theorem seq_G {o : Ob} {item : Nat → List Int32 → PR} (hi : ItG item) (w : Nat) {op : Int32} (ho : Gl op) : ItG (pSeq o item w op) := by
  intro b cs q hn h
  unfold pSeq at h
  cases h1 : item b cs with
  | inl e => rw [h1] at h; cases h
  | inr p => rw [h1] at h; exact loop_G hi w ho 400 _ _ q (hi _ _ _ hn h1) h
theorem atom_G {o : Ob} (ho : ObOK o) : ∀ d, ItG (pAtom o false d)
  | 0 => by
    intro b cs q hn h
    unfold pAtom at h
    by_cases c : oWrd o b = 14
    · rw [if_pos c] at h; cases h
    · rw [if_neg c] at h
      by_cases c2 : oSgn o b = 40
      · rw [if_pos c2] at h; cases h
      · rw [if_neg c2] at h; exact base_G ho _ _ _ hn h
  | d + 1 => by
    have ih := atom_G ho d
    intro b cs q hn h
    unfold pAtom at h
    by_cases c : oWrd o b = 14
    · rw [if_pos c] at h
      cases h1 : pAtom o false d (oNxt o b) cs with
      | inl e => rw [h1] at h; cases h
      | inr p => rw [h1] at h; cases h; exact (ih _ _ _ hn h1).app (AllG.one Gl_ops.2.2.2.1)
    · rw [if_neg c] at h
      by_cases c2 : oSgn o b = 40
      · rw [if_pos c2] at h
        cases h1 : pSeq o (pSeq o (pAtom o false d) 13 10014) 12 10015 (oNxt o b) cs with
        | inl e => rw [h1] at h; cases h
        | inr p =>
          rw [h1] at h
          dsimp only at h
          have r := seq_G (o := o) (seq_G (o := o) ih 13 Gl_ops.2.2.2.2.1) 12 Gl_ops.2.2.2.2.2 _ _ _ hn h1
          by_cases c3 : oSgn o p.1 = 41
          · rw [if_pos c3] at h; cases h; exact r
          · rw [if_neg c3] at h; cases h
      · rw [if_neg c2] at h; exact base_G ho _ _ _ hn h
theorem cond_G {o : Ob} (ho : ObOK o) : ItG (pCond o false 6) :=
  seq_G (o := o) (seq_G (o := o) (atom_G ho 6) 13 Gl_ops.2.2.2.2.1) 12 Gl_ops.2.2.2.2.2
/-- a line as it stands in a text -/
def GdLn (rl : Bool) (h : Hd) (cs : List Int32) : Prop := ∃ pre ws post, cs = pre ++ ws ++ post ∧ h.2.2.1 = pre.length ∧ h.2.2.2 = pre.length + ws.length ∧ (Cd rl 17 ws ∨ (rl = false ∧ ws = [])) ∧ (rl = true → h.1 = 0 ∨ h.1 = 1 ∨ h.1 = 2) ∧ (rl = false → (∃ v, v ≤ 9999 ∧ (h.1 = nI v ∨ h.1 = -(nI v))) ∧ (h.2.1 = -1 ∨ ∃ f, 4 ≤ f ∧ f < 7 ∧ h.2.1 = nI f))
theorem GdLn.app {rl : Bool} {h : Hd} {cs : List Int32} (hg : GdLn rl h cs) (w : List Int32) : GdLn rl h (cs ++ w) := by
  obtain ⟨pre, ws, post, e, r⟩ := hg
  exact ⟨pre, ws, post ++ w, by rw [e, List.append_assoc _ post w], r⟩
theorem rule_ln {o : Ob} (ho : ObOK o) {b : Nat} {cs : List Int32} {q : Nat × Hd × List Int32} (h : pRule o b cs = .inr q) : GdLn true q.2.1 q.2.2 ∧ ∃ w, q.2.2 = cs ++ w := by
  unfold pRule at h
  by_cases c : pDeed o b = -1
  · rw [if_pos c] at h; cases h
  · rw [if_neg c] at h
    by_cases c2 : oWrd o (oNxt o b) = 8
    · rw [if_pos c2] at h
      cases h1 : pCond o true 6 (oNxt o (oNxt o b)) cs with
      | inl e => rw [h1] at h; cases h
      | inr p =>
        rw [h1] at h
        cases h
        obtain ⟨ws, e, s⟩ := cond_ws ho h1
        refine ⟨⟨cs, ws, [], by rw [List.append_nil]; exact e, rfl, ?_, Or.inl s, fun _ => ?_, fun z => by cases z⟩, ws, e⟩
        · show p.2.length = _; rw [e, List.length_append]
        · show pDeed o b = 0 ∨ pDeed o b = 1 ∨ pDeed o b = 2
          unfold pDeed at c ⊢
          split
          · exact Or.inl rfl
          · split
            · exact Or.inr (Or.inl rfl)
            · split
              · exact Or.inr (Or.inr rfl)
              · rename_i a1 a2 a3; rw [if_neg a1, if_neg a2, if_neg a3] at c; exact absurd rfl c
    · rw [if_neg c2] at h; cases h
theorem goal_ln {o : Ob} (ho : ObOK o) {b : Nat} {cs : List Int32} {q : Nat × Hd × List Int32} (h : pGoal o b cs = .inr q) : GdLn false q.2.1 q.2.2 ∧ (∃ w, q.2.2 = cs ++ w) ∧ (AllG cs → AllG q.2.2) := by
  unfold pGoal at h
  by_cases c : oWrd o b = 6 ∨ oWrd o b = 7
  · rw [if_pos c] at h
    cases h1 : pNum o (oNxt o b) 9999 with
    | inl e => rw [h1] at h; cases h
    | inr p =>
      rw [h1] at h
      dsimp only at h
      have hv := (pNum_ok ho (by omega) h1).2.2.1
      cases h2 : pFac o p.1 with
      | inl e => rw [h2] at h; cases h
      | inr u =>
        rw [h2] at h
        dsimp only at h
        have hfac : u.2 = -1 ∨ ∃ f, 4 ≤ f ∧ f < 7 ∧ u.2 = nI f := by
          unfold pFac at h2
          by_cases d : oSgn o p.1 = 42
          · rw [if_pos d] at h2
            by_cases d2 : pFact o false (oNxt o p.1) = -1
            · rw [if_pos d2] at h2; cases h2
            · rw [if_neg d2] at h2
              cases h2
              rcases pFact_v ho false (oNxt o p.1) with z | ⟨f, hf, h4, e⟩
              · exact absurd z d2
              · exact Or.inr ⟨f, h4.resolve_left (by decide), hf, e⟩
          · rw [if_neg d] at h2; cases h2; exact Or.inl rfl
        cases h3 : pIf o u.1 cs with
        | inl e => rw [h3] at h; cases h
        | inr v =>
          rw [h3] at h
          cases h
          have key : ∃ ws, v.2 = cs ++ ws ∧ (Cd false 17 ws ∨ (false = false ∧ ws = [])) ∧ (AllG cs → AllG v.2) := by
            unfold pIf at h3
            by_cases d : oWrd o u.1 = 8
            · rw [if_pos d] at h3
              obtain ⟨ws, e, s⟩ := cond_ws ho h3
              exact ⟨ws, e, Or.inl s, fun hn => cond_G ho _ _ _ hn h3⟩
            · rw [if_neg d] at h3; cases h3
              exact ⟨[], by rw [List.append_nil], Or.inr ⟨rfl, rfl⟩, fun hn => hn⟩
          obtain ⟨ws, e, s, hg⟩ := key
          refine ⟨⟨cs, ws, [], by rw [List.append_nil]; exact e, rfl, ?_, s, (fun z => by cases z), fun _ => ⟨⟨p.2, hv, ?_⟩, hfac⟩⟩, ⟨ws, e⟩, hg⟩
          · show v.2.length = _; rw [e, List.length_append]
          · show (if oWrd o b = 6 then nI p.2 else -(nI p.2)) = nI p.2 ∨ _
            split
            · exact Or.inl rfl
            · exact Or.inr rfl
  · rw [if_neg c] at h; cases h
def GdTx (rl : Bool) (s : HC) : Prop := (∀ i, i < s.1.length → GdLn rl (hdAt s.1 i) s.2) ∧ (rl = false → AllG s.2)
theorem hd_in {rl : Bool} {s : HC} {hd : Hd} {cs : List Int32} (h : GdTx rl s) (h1 : GdLn rl hd cs) (h2 : ∃ w, cs = s.2 ++ w) (h3 : rl = false → AllG cs) : GdTx rl (s.1 ++ [hd], cs) := by
  obtain ⟨w, e⟩ := h2
  refine ⟨fun i hi => ?_, h3⟩
  rw [List.length_append, List.length_singleton] at hi
  by_cases c : i < s.1.length
  · show GdLn rl (hdAt (s.1 ++ [hd]) i) cs
    rw [hdAt_lt hd c, e]; exact (h.1 i c).app w
  · have ei : i = s.1.length := by omega
    subst ei
    show GdLn rl (hdAt (s.1 ++ [hd]) s.1.length) cs
    rw [hdAt_eq]; exact h1
theorem ruleLine_gd {o : Ob} (ho : ObOK o) {b : Nat} {s : HC} {q : Nat × HC} (hs : GdTx true s) (h : hdLine (pRule o) b s = .inr q) : GdTx true q.2 := by
  unfold hdLine at h
  cases h1 : pRule o b s.2 with
  | inl e => rw [h1] at h; cases h
  | inr p =>
    rw [h1] at h; cases h
    obtain ⟨a1, a2⟩ := rule_ln ho h1
    exact hd_in hs a1 a2 (fun z => by cases z)
theorem goalLine_gd {o : Ob} (ho : ObOK o) {b : Nat} {s : HC} {q : Nat × HC} (hs : GdTx false s) (h : hdLine (pGoal o) b s = .inr q) : GdTx false q.2 := by
  unfold hdLine at h
  cases h1 : pGoal o b s.2 with
  | inl e => rw [h1] at h; cases h
  | inr p =>
    rw [h1] at h; cases h
    obtain ⟨a1, a2, a3⟩ := goal_ln ho h1
    exact hd_in hs a1 a2 (fun _ => a3 (hs.2 rfl))
theorem pText_inv {α : Type} {o : Ob} {line : Nat → α → Nat ⊕ (Nat × α)} {P : α → Prop} (hl : ∀ b s q, P s → line b s = .inr q → P q.2) : ∀ (k b : Nat) (s r : α), P s → pText o line k b s = .inr r → P r
  | 0, b, s, r, hs, h => by cases h
  | k + 1, b, s, r, hs, h => by
    unfold pText at h
    cases h1 : line b s with
    | inl e => rw [h1] at h; cases h
    | inr q =>
      rw [h1] at h
      dsimp only at h
      have hq := hl b s q hs h1
      by_cases c : oN o ≤ q.1
      · rw [if_pos c] at h; cases h; exact hq
      · rw [if_neg c] at h
        by_cases d : oSgn o q.1 = 59
        · rw [if_pos d] at h; exact pText_inv hl k _ _ r hq h
        · rw [if_neg d] at h; cases h
theorem pRead_inv {α : Type} {o : Ob} {line : Nat → α → Nat ⊕ (Nat × α)} {P : α → Prop} (hl : ∀ b s q, P s → line b s = .inr q → P q.2) {b : Nat} {s r : α} (hs : P s) (h : pRead o line b s = .inr r) : P r := by
  unfold pRead at h
  by_cases c : oN o ≤ b
  · rw [if_pos c] at h; cases h; exact hs
  · rw [if_neg c] at h; exact pText_inv hl 12 b s r hs h
theorem Gd0 (rl : Bool) : GdTx rl ([], []) := ⟨fun i hi => absurd hi (Nat.not_lt_zero _), fun _ c hc => absurd hc List.not_mem_nil⟩
theorem read_rule {o : Ob} (ho : ObOK o) {b : Nat} {s : HC} (h : pRead o (hdLine (pRule o)) b ([], []) = .inr s) : GdTx true s := pRead_inv (fun _ _ _ hs h => ruleLine_gd ho hs h) (Gd0 true) h
theorem read_goal {o : Ob} (ho : ObOK o) {b : Nat} {s : HC} (h : pRead o (hdLine (pGoal o)) b ([], []) = .inr s) : GdTx false s := pRead_inv (fun _ _ _ hs h => goalLine_gd ho hs h) (Gd0 false) h
/-! the class's Code of a text -/
def CdOf (cd : CD) (s : HC) : Prop := cd.1 = s.1.length ∧ s.1.length ≤ 12 ∧ s.2.length ≤ 400 ∧ (∀ l, l < s.1.length → cd_hd cd (4 * nI l) = (hdAt s.1 l).1 ∧ cd_hd cd (4 * nI l + 1) = (hdAt s.1 l).2.1 ∧ cd_hd cd (4 * nI l + 2) = nI (hdAt s.1 l).2.2.1 ∧ cd_hd cd (4 * nI l + 3) = nI (hdAt s.1 l).2.2.2) ∧ ∀ i, i < s.2.length → cd_cl cd (nI i) = s.2.getD i 0
theorem hdRun_z {cd : CD} {F : Nat → Int32} : ∀ (ws : List Int32) (i : Nat) (q : CQt), i + ws.length ≤ 400 → (∀ j, j < ws.length → cd_cl cd (nI (i + j)) = ws.getD j 0) → hdRun cd F ws.length (nI i) q = ceR F ws q
  | [], i, q, _, _ => rfl
  | c :: ws, i, q, hl, h => by
    have h0 := h 0 (by rw [List.length_cons]; omega)
    show hdRun cd F ws.length (nI i + Int32.ofInt 1) (hdStep cd F (nI i) q) = ceR F ws (ceS F c q)
    have e : hdStep cd F (nI i) q = ceS F c q := by
      have : cd_cl cd (nI i) = c := h0
      unfold hdStep ceS
      rw [this]
    rw [e, nI_s]
    rw [List.length_cons] at hl
    exact hdRun_z ws (i + 1) _ (by omega) (fun j hj => by
      have := h (j + 1) (by rw [List.length_cons]; omega)
      rw [show i + 1 + j = i + (j + 1) by omega, this]; rfl)
def lnPs (s : HC) (h : Hd) : List SP := ((s.2.drop h.2.2.1).take (h.2.2.2 - h.2.2.1)).map cv
theorem slice {pre ws post : List Int32} : ((pre ++ ws ++ post).drop pre.length).take (pre.length + ws.length - pre.length) = ws := by
  rw [List.append_assoc, List.drop_left, show pre.length + ws.length - pre.length = ws.length by omega, List.take_left]
theorem cdH_z {rl : Bool} {cd : CD} {s : HC} (hc : CdOf cd s) (hg : GdTx rl s) {l : Nat} (hl : l < s.1.length) {Fc Fm : Nat → Int32} (ha : AG rl Fc Fm) (S : Nat → Int32) : cdH cd Fc S (nI l) = txH Fm (lnPs s (hdAt s.1 l)) := by
  obtain ⟨c1, c2, c3, c4, c5⟩ := hc
  obtain ⟨h1, h2, h3, h4⟩ := c4 l hl
  obtain ⟨pre, ws, post, e, e1, e2, e3, -⟩ := hg.1 l hl
  have hlen : pre.length + ws.length ≤ 400 := by
    rw [e, List.length_append, List.length_append] at c3; omega
  have hps : lnPs s (hdAt s.1 l) = ws.map cv := by
    unfold lnPs
    rw [e1, e2, e, slice]
  have hN : hdN cd (nI l) = ws.length := by
    unfold hdN
    rw [h3, h4, e1, e2, nI_toInt (by omega), nI_toInt (by omega)]; omega
  have hrun : cdS cd Fc S (nI l) = (ceR Fc ws (-1, S)).2 := by
    unfold cdS
    rw [hN, h3, e1, hdRun_z ws pre.length (-1, S) hlen (fun j hj => by
      rw [c5 (pre.length + j) (by rw [e, List.length_append, List.length_append]; omega), e, List.append_assoc]
      rw [List.getD_eq_getElem?_getD, List.getD_eq_getElem?_getD, List.getElem?_append_right (by omega), show pre.length + j - pre.length = j by omega, List.getElem?_append_left hj])]
  unfold cdH txH
  rw [hrun, h3, h4, e1, e2, hps]
  rcases e3 with hC | ⟨-, rfl⟩
  · obtain ⟨v, v0, ev⟩ := hC.2 Fc Fm ha
    have hne : 0 < ws.length := by
      cases ws with
      | nil => have := ev.1 []; cases this
      | cons c w => rw [List.length_cons]; omega
    have hI : CeI [] ((-1, S) : CQt) := ⟨rfl, fun q hq => by cases hq⟩
    obtain ⟨-, s2⟩ := ev.2 [] (-1, S) hI (by show 0 + 17 ≤ 32; omega)
    have g0 : (ceR Fc ws (-1, S)).2 0 = v := s2 0 (by show 0 < 1; omega)
    rw [decide_eq_false (fun z => by have := nI_led (by omega) (by omega) z; omega), Bool.false_or, show (0 : Int32) = nI 0 from rfl, rAt_in (by omega) (by omega), g0, ev.1]
    show (!decide (v = nI 0)) = (if (1 : Nat) = 0 then true else if ¬ v = 1 then false else true)
    rcases v0 with rfl | rfl <;> rfl
  · show (decide (nI (pre.length + 0) ≤ nI pre.length) || _) = true
    rw [Nat.add_zero, decide_eq_true (Int32.le_iff_toInt_le.mpr (Int.le_refl _)), Bool.true_or]
theorem cdD_z {cd : CD} {s : HC} {ls : List TxL} (hc : CdOf cd s) (hg : GdTx true s) (hn : ls.length = s.1.length) (hls : ∀ i, i < s.1.length → (ls.getD i (0, 0, 0, [])).1 = (hdAt s.1 i).1 ∧ (ls.getD i (0, 0, 0, [])).2.2.2 = lnPs s (hdAt s.1 i)) {Fc Fm : Nat → Int32} (ha : AG true Fc Fm) : ∀ (k l : Nat) (S : Nat → Int32), l + k = s.1.length → (cdD cd Fc k l S).1 = txDo Fm (ls.drop l)
  | 0, l, S, hl => by
    rw [List.drop_eq_nil_of_le (by omega)]; rfl
  | k + 1, l, S, hl => by
    have hlt : l < s.1.length := by omega
    obtain ⟨u1, u2⟩ := hls l hlt
    have ed : ls.drop l = ls.getD l (0, 0, 0, []) :: ls.drop (l + 1) := by
      rw [List.drop_eq_getElem_cons (by omega), List.getD_eq_getElem?_getD, List.getElem?_eq_getElem (by omega)]; rfl
    rw [ed]
    show _ = (if txH Fm (ls.getD l (0, 0, 0, [])).2.2.2 = false then txDo Fm (ls.drop (l + 1)) else (ls.getD l (0, 0, 0, [])).1)
    have hH := cdH_z hc hg hlt ha S
    rw [u2, u1]
    cases hx : cdH cd Fc S (nI l) with
    | true =>
      rw [hx] at hH
      rw [cdD_y hx, if_neg (by rw [← hH]; decide)]
      exact (hc.2.2.2.1 l hlt).1
    | false =>
      rw [hx] at hH
      rw [cdD_n hx, if_pos hH.symm]
      exact cdD_z hc hg hn hls ha k (l + 1) _ (by omega)
theorem RulQ_of {cd : CD} {s : HC} {ls : List TxL} (hc : CdOf cd s) (hg : GdTx true s) (hn : ls.length = s.1.length) (hls : ∀ i, i < s.1.length → (ls.getD i (0, 0, 0, [])).1 = (hdAt s.1 i).1 ∧ (ls.getD i (0, 0, 0, [])).2.2.2 = lnPs s (hdAt s.1 i)) : RulQ cd ls := by
  intro Fc Fm S h1 h2
  rw [hc.1]
  exact cdD_z hc hg hn hls ⟨fun _ => ⟨h1, h2⟩, fun z => by cases z⟩ s.1.length 0 S (by omega)
/-- a goals' line, as the Model has it -/
def GoL (l : TxL) (h : Hd) : Prop := (∃ v, v ≤ 9999 ∧ l.2.1 = nI v ∧ ((l.1 = 0 ∧ h.1 = nI v) ∨ (l.1 = 1 ∧ h.1 = -(nI v)))) ∧ l.2.2.1 = facM h.2.1 (-1)
theorem cdT_z {cd : CD} {s : HC} {ls : List TxL} (hc : CdOf cd s) (hg : GdTx false s) (hn : ls.length = s.1.length) (hls : ∀ i, i < s.1.length → GoL (ls.getD i (0, 0, 0, [])) (hdAt s.1 i) ∧ (ls.getD i (0, 0, 0, [])).2.2.2 = lnPs s (hdAt s.1 i)) {Fc Fm : Nat → Int32} (ha : AG false Fc Fm) (hb : ∀ i, i < 3 → 0 ≤ (Fm i).toInt ∧ (Fm i).toInt ≤ 90) : ∀ (k l : Nat) (S : Nat → Int32) (a : Int), l + k = s.1.length → -(910000 * (l : Int)) ≤ a → a ≤ 910000 * (l : Int) → ∃ A : Int, -(910000 * (s.1.length : Int)) ≤ A ∧ A ≤ 910000 * (s.1.length : Int) ∧ (cdT cd Fc k l (zI a) S).1 = zI A ∧ mGS Fm (ls.drop l) (zL a) = zL A
  | 0, l, S, a, hl, h1, h2 => by
    rw [List.drop_eq_nil_of_le (by omega)]
    exact ⟨a, by rw [← hl]; exact h1, by rw [← hl]; exact h2, rfl, rfl⟩
  | k + 1, l, S, a, hl, h1, h2 => by
    have hlt : l < s.1.length := by omega
    obtain ⟨⟨⟨v, hv, u0, u1⟩, u2⟩, u3⟩ := hls l hlt
    have ed : ls.drop l = ls.getD l (0, 0, 0, []) :: ls.drop (l + 1) := by
      rw [List.drop_eq_getElem_cons (by omega), List.getD_eq_getElem?_getD, List.getElem?_eq_getElem (by omega)]; rfl
    rw [ed]
    have hH := cdH_z hc hg hlt ha S
    obtain ⟨c1, c2, -, -⟩ := hc.2.2.2.1 l hlt
    have go : ∀ a' : Int, -(910000 * ((l + 1 : Nat) : Int)) ≤ a' → a' ≤ 910000 * ((l + 1 : Nat) : Int) → ∀ S', ∃ A : Int, -(910000 * (s.1.length : Int)) ≤ A ∧ A ≤ 910000 * (s.1.length : Int) ∧ (cdT cd Fc k (l + 1) (zI a') S').1 = zI A ∧ mGS Fm (ls.drop (l + 1)) (zL a') = zL A := fun a' x y S' => cdT_z hc hg hn hls ha hb k (l + 1) S' a' (by omega) x y
    show ∃ A : Int, _ ∧ _ ∧ _ ∧ mGS Fm (ls.drop (l + 1)) (if txH Fm (ls.getD l (0, 0, 0, [])).2.2.2 = false then zL a else zL a + (if ¬ (ls.getD l (0, 0, 0, [])).1 = 0 then -(mlV Fm (ls.getD l (0, 0, 0, []))) else mlV Fm (ls.getD l (0, 0, 0, [])))) = _
    rw [u3]
    generalize ls.getD l (0, 0, 0, []) = ln at u0 u1 u2
    cases hx : cdH cd Fc S (nI l) with
    | false =>
      rw [hx] at hH
      rw [cdT_n hx, if_pos hH.symm]
      exact go a (by omega) (by omega) _
    | true =>
      rw [hx] at hH
      rw [if_neg (show ¬ txH Fm (lnPs s (hdAt s.1 l)) = false by rw [← hH]; decide)]
      -- the factor
      obtain ⟨-, ws, -, -, -, -, -, -, hgo⟩ := hg.1 l hlt
      obtain ⟨-, hfac⟩ := hgo rfl
      have key : ∃ x : Int, 0 ≤ x ∧ x ≤ 90 ∧ (if ¬ (hdAt s.1 l).2.1 = -1 then rAt 8 Fc (hdAt s.1 l).2.1 else 1) = zI x ∧ (if 0 ≤ ln.2.2.1 then Fm ln.2.2.1.toNatClampNeg else 1) = zI x := by
        rcases hfac with e | ⟨f, f4, f7, e⟩
        · refine ⟨1, by omega, by omega, ?_, ?_⟩
          · rw [if_neg (fun z => z e)]; rfl
          · rw [u2, e]; rfl
        · obtain ⟨d1, d2, -⟩ := lt4 ⟨f, f7⟩
          obtain ⟨k1, k2, -⟩ := cv_f ⟨f, by omega⟩
          have kk : (10000 : Int32) + nI f = nI (10000 + f) := (lt4 ⟨f, f7⟩).2.2
          have el : ln.2.2.1 = nI (cvF f) := by
            rw [u2, e]
            unfold facM
            rw [if_neg d2, kk, show cv (nI (10000 + f)) = (cvF f, 0) from k1]
          have hlo := cvF_lo ⟨f, f7⟩ f4
          have hlo' : cvF f < 3 := hlo
          have bF := hb (cvF f) hlo'
          refine ⟨(Fm (cvF f)).toInt, bF.1, bF.2, ?_, ?_⟩
          · rw [e, if_pos d2, rAt_in (by omega) (by omega), zI_of]
            obtain ⟨a4, a5, a6⟩ := ha.2 rfl
            match f, f4, f7 with
            | 4, _, _ => exact a4
            | 5, _, _ => exact a5
            | 6, _, _ => exact a6
          · rw [el, if_pos (show (0 : Int32) ≤ nI (cvF f) from nI_le_n (a := 0) (by omega) (by omega)), show (nI (cvF f)).toNatClampNeg = cvF f from nN_nI (by omega), zI_of]
      obtain ⟨x, x1, x2, x3, x4⟩ := key
      have hT : cdT cd Fc (k + 1) l (zI a) S = cdT cd Fc k (l + 1) (zI a + (hdAt s.1 l).1 * zI x) (cdS cd Fc S (nI l)) := by
        by_cases d : cd_hd cd (4 * nI l + 1) = -1
        · rw [cdT_1 hx d, c1]
          rw [c2] at d
          rw [if_neg (fun z => z d)] at x3
          rw [x3]
        · rw [cdT_f hx d, c1, c2]
          rw [c2] at d
          rw [if_pos d] at x3
          rw [x3]
      have hM : mlV Fm ln = zL ((v : Int) * x) := by
        unfold mlV
        rw [x4, u0, zL_64, nI_toInt (by omega), zI_64 (by omega) (by omega), zL_mul]
      have p1 : 0 ≤ (v : Int) * x := Int.mul_nonneg (by omega) x1
      have p2 : (v : Int) * x ≤ 9999 * 90 := by
        have q1 := Int.mul_le_mul_of_nonneg_left x2 (show 0 ≤ (v : Int) by omega)
        omega
      rw [hT, hM]
      rcases u1 with ⟨w0, w1⟩ | ⟨w0, w1⟩
      · rw [w1, w0, if_neg (fun z => z rfl), zI_n, ← zI_mul, ← zI_add, ← zL_add]
        exact go _ (by omega) (by omega) _
      · rw [w1, w0, if_pos (by decide), zI_n, ← zI_neg, ← zI_mul, ← zI_add, ← zL_neg, ← zL_add, Int.neg_mul]
        exact go _ (by omega) (by omega) _
theorem clip_z {A : Int} (h1 : -20000000 ≤ A) (h2 : A ≤ 20000000) : mxI 0 (mnI 30000 (zI A)) = mxI32 (zL A) := by
  have e1 : mnI 30000 (zI A) = zI (min 30000 A) := mnI_z (a := 30000) (by omega) (by omega) (by omega) (by omega)
  have e2 : mxI 0 (zI (min 30000 A)) = zI (max 0 (min 30000 A)) := mxI_z (a := 0) (by omega) (by omega) (by omega) (by omega)
  rw [e1, e2]
  unfold mxI32
  have e3 : (mxL 0 (mnL 30000 (zL A))).toInt = max 0 (min 30000 A) := by
    rw [mxL_T, mnL_T, zL_T (by omega) (by omega)]; rfl
  rw [← zL_of (mxL 0 (mnL 30000 (zL A))), e3, zL_32 (by omega) (by omega)]
theorem GolC_of {cd : CD} {s : HC} {ls : List TxL} (hc : CdOf cd s) (hg : GdTx false s) (hn : ls.length = s.1.length) (hls : ∀ i, i < s.1.length → GoL (ls.getD i (0, 0, 0, [])) (hdAt s.1 i) ∧ (ls.getD i (0, 0, 0, [])).2.2.2 = lnPs s (hdAt s.1 i)) : GolC cd ls := by
  intro Fc Fm S h4 h5 h6 hb
  obtain ⟨A, a1, a2, a3, a4⟩ := cdT_z hc hg hn hls ⟨fun z => (by cases z), fun _ => ⟨h4, h5, h6⟩⟩ hb s.1.length 0 S 0 (by omega) (by omega) (by omega)
  have h12 := hc.2.1
  rw [hc.1, show (0 : Int32) = zI 0 from rfl, a3, show (0 : Int64) = zL 0 from rfl]
  rw [List.drop_zero] at a4
  rw [a4]
  exact clip_z (by omega) (by omega)
/-! the Model's lines -/
def lsW (W : Nat → Int32) (t : Nat) (s : HC) : List TxL := (List.range s.1.length).map (fun i => (W (1310 + 861 * t + 1 + 5 * i), W (1310 + 861 * t + 1 + 5 * i + 1), W (1310 + 861 * t + 1 + 5 * i + 2), lnPs s (hdAt s.1 i)))
theorem lsW_len (W : Nat → Int32) (t : Nat) (s : HC) : (lsW W t s).length = s.1.length := by unfold lsW; rw [List.length_map, List.length_range]
theorem lsW_at (W : Nat → Int32) (t : Nat) (s : HC) {i : Nat} (hi : i < s.1.length) : (lsW W t s).getD i (0, 0, 0, []) = (W (1310 + 861 * t + 1 + 5 * i), W (1310 + 861 * t + 1 + 5 * i + 1), W (1310 + 861 * t + 1 + 5 * i + 2), lnPs s (hdAt s.1 i)) := by
  unfold lsW
  rw [List.getD_eq_getElem?_getD, List.getElem?_map, List.getElem?_range hi]; rfl
theorem lsW_mem {W : Nat → Int32} {t : Nat} {s : HC} {l : TxL} (h : l ∈ lsW W t s) : ∃ i, i < s.1.length ∧ l = (W (1310 + 861 * t + 1 + 5 * i), W (1310 + 861 * t + 1 + 5 * i + 1), W (1310 + 861 * t + 1 + 5 * i + 2), lnPs s (hdAt s.1 i)) := by
  obtain ⟨i, h1, h2⟩ := List.mem_map.mp h
  exact ⟨i, List.mem_range.mp h1, h2.symm⟩
/-- a text of the row, as it was read -/
def TxQ (rl : Bool) (W : Nat → Int32) (t : Nat) (s : HC) : Prop := W (1310 + 861 * t) = nI s.1.length ∧ s.1.length ≤ 12 ∧ s.2.length ≤ 400 ∧ (∀ i, i < s.1.length → W (1310 + 861 * t + 1 + 5 * i + 3) = nI (hdAt s.1 i).2.2.1 ∧ W (1310 + 861 * t + 1 + 5 * i + 4) = nI (hdAt s.1 i).2.2.2 ∧ (rl = true → W (1310 + 861 * t + 1 + 5 * i) = (hdAt s.1 i).1 ∧ W (1310 + 861 * t + 1 + 5 * i + 2) = -1) ∧ (rl = false → GoL (W (1310 + 861 * t + 1 + 5 * i), W (1310 + 861 * t + 1 + 5 * i + 1), W (1310 + 861 * t + 1 + 5 * i + 2), lnPs s (hdAt s.1 i)) (hdAt s.1 i))) ∧ ∀ i, i < s.2.length → W (1310 + 861 * t + 61 + 2 * i) = nI (cv (s.2.getD i 0)).1 ∧ W (1310 + 861 * t + 61 + 2 * i + 1) = (cv (s.2.getD i 0)).2
theorem MTx_of {rl : Bool} {W : Nat → Int32} {t : Nat} {s : HC} (h : TxQ rl W t s) (hg : GdTx rl s) : MTx W t (lsW W t s) := by
  obtain ⟨h1, h2, h3, h4, h5⟩ := h
  refine ⟨by rw [lsW_len]; exact h1, by rw [lsW_len]; exact h2, fun i hi => ?_⟩
  rw [lsW_len] at hi
  rw [lsW_at W t s hi]
  obtain ⟨q3, q4, -, -⟩ := h4 i hi
  obtain ⟨pre, ws, post, e, e1, e2, e3, -⟩ := hg.1 i hi
  have hps : lnPs s (hdAt s.1 i) = ws.map cv := by
    unfold lnPs
    rw [e1, e2, e, slice]
  have hlen : pre.length + ws.length ≤ s.2.length := by
    rw [e, List.length_append, List.length_append]; omega
  refine ⟨rfl, rfl, rfl, pre.length, by rw [q3, e1], ?_, ?_, fun j hj => ?_, ?_⟩
  · rw [q4, e2]; dsimp only; rw [hps, List.length_map]
  · dsimp only; rw [hps, List.length_map]; omega
  · dsimp only at hj ⊢
    rw [hps, List.length_map] at hj
    have hj2 : ws.length > j := hj
    have eg : (lnPs s (hdAt s.1 i)).getD j (0, 0) = cv (s.2.getD (pre.length + j) 0) := by
      rw [hps, e, List.append_assoc, List.getD_eq_getElem?_getD, List.getD_eq_getElem?_getD, List.getElem?_append_right (by omega), show pre.length + j - pre.length = j by omega, List.getElem?_append_left hj2, List.getElem?_map, List.getElem?_eq_getElem hj2]; rfl
    rw [eg]
    exact h5 (pre.length + j) (by omega)
  · dsimp only
    rw [hps]
    rcases e3 with hC | ⟨-, rfl⟩
    · have := hC.1 [] 0 (by omega) trivial
      rwa [List.append_nil] at this
    · trivial
theorem KOK_of {W : Nat → Int32} {t : Nat} {s : HC} (h : TxQ true W t s) (hg : GdTx true s) : ∀ l, l ∈ lsW W t s → l.1 = 0 ∨ l.1 = 1 ∨ l.1 = 2 := by
  intro l hl
  obtain ⟨i, hi, rfl⟩ := lsW_mem hl
  obtain ⟨-, -, -, -, -, -, -, hk, -⟩ := hg.1 i hi
  have := ((h.2.2.2.1 i hi).2.2.1 rfl).1
  dsimp only
  rw [this]; exact hk rfl
theorem GOK_of {W : Nat → Int32} {t : Nat} {s : HC} (h : TxQ false W t s) (hg : GdTx false s) : GOK (lsW W t s) := by
  intro l hl
  obtain ⟨i, hi, rfl⟩ := lsW_mem hl
  obtain ⟨pre, ws, post, e, e1, e2, -, -, hgo⟩ := hg.1 i hi
  have hG := ((h.2.2.2.1 i hi).2.2.2 rfl).2
  dsimp only at hG ⊢
  refine ⟨?_, fun p hp => ?_⟩
  · rw [hG]
    rcases (hgo rfl).2 with z | ⟨f, f4, f7, z⟩
    · rw [z]; exact Or.inl (by decide)
    · obtain ⟨d1, d2, d3⟩ := lt4 ⟨f, f7⟩
      obtain ⟨k1, k2, -⟩ := cv_f ⟨f, by omega⟩
      refine Or.inr ⟨cvF f, cvF_lo ⟨f, f7⟩ f4, ?_⟩
      rw [z]
      unfold facM
      rw [if_neg d2, show (10000 : Int32) + nI f = nI (10000 + f) from d3, show cv (nI (10000 + f)) = (cvF f, 0) from k1]
  · have hps : lnPs s (hdAt s.1 i) = ws.map cv := by
      unfold lnPs
      rw [e1, e2, e, slice]
    rw [hps] at hp
    obtain ⟨c, hc, rfl⟩ := List.mem_map.mp hp
    exact hg.2 rfl c (by rw [e]; exact List.mem_append.mpr (Or.inl (List.mem_append.mpr (Or.inr hc))))
theorem RulQ_W {cd : CD} {W : Nat → Int32} {t : Nat} {s : HC} (hc : CdOf cd s) (h : TxQ true W t s) (hg : GdTx true s) : RulQ cd (lsW W t s) :=
  RulQ_of hc hg (lsW_len W t s) (fun i hi => by rw [lsW_at W t s hi]; exact ⟨((h.2.2.2.1 i hi).2.2.1 rfl).1, rfl⟩)
theorem GolC_W {cd : CD} {W : Nat → Int32} {t : Nat} {s : HC} (hc : CdOf cd s) (h : TxQ false W t s) (hg : GdTx false s) : GolC cd (lsW W t s) :=
  GolC_of hc hg (lsW_len W t s) (fun i hi => by rw [lsW_at W t s hi]; exact ⟨(h.2.2.2.1 i hi).2.2.2 rfl, rfl⟩)
