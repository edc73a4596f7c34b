
/-! conditions: the class's cells and the Model's steps mean the same -/
def AG (rl : Bool) (Fc Fm : Nat → Int32) : Prop := (rl = true → (∀ f, f < 8 → Fc f = Fm (cvF f)) ∧ (Fm 7 = 0 ∨ Fm 7 = 1)) ∧ (rl = false → Fc 4 = Fm 0 ∧ Fc 5 = Fm 1 ∧ Fc 6 = Fm 2)
abbrev CQt : Type := Int32 × (Nat → Int32)
def ceS (F : Nat → Int32) (c : Int32) (q : CQt) : CQt :=
  if 10010 ≤ c then
    (if ¬ c = 10013 then (q.1 + Int32.ofInt (-1), rPut 32 q.2 (q.1 + Int32.ofInt (-1)) (joinedF c (rAt 32 q.2 (q.1 + Int32.ofInt (-1))) (rAt 32 q.2 (q.1 + Int32.ofInt (-1) + 1))))
     else (q.1, rPut 32 q.2 q.1 (1 - rAt 32 q.2 q.1)))
  else (q.1 + Int32.ofInt 1, rPut 32 q.2 (q.1 + Int32.ofInt 1) (if 10000 ≤ c then rAt 8 F (c - 10000) else c))
def ceR (F : Nat → Int32) : List Int32 → CQt → CQt
  | [], q => q
  | c :: r, q => ceR F r (ceS F c q)
theorem ceR_app (F : Nat → Int32) : ∀ (a b : List Int32) (q : CQt), ceR F (a ++ b) q = ceR F b (ceR F a q)
  | [], b, q => rfl
  | c :: a, b, q => ceR_app F a b (ceS F c q)
theorem evA_app (F : Nat → Int32) : ∀ (a b : List SP) (st : List Int32), evA F (a ++ b) st = evA F b (evA F a st)
  | [], b, st => rfl
  | p :: a, b, st => evA_app F a b (evP F p st)
def CeI (st : List Int32) (q : CQt) : Prop := q.1 = zI ((st.length : Int) - 1) ∧ SV q.2 st
def DpOK (D : Nat) (ws : List Int32) : Prop := ∀ (rest : List SP) (d : Nat), d + D ≤ 400 → dpo rest (d + 1) → dpo (ws.map cv ++ rest) d
def EvOK (D : Nat) (ws : List Int32) (Fc Fm : Nat → Int32) (v : Int32) : Prop := (∀ st, evA Fm (ws.map cv) st = v :: st) ∧ ∀ st q, CeI st q → st.length + D ≤ 32 → CeI (v :: st) (ceR Fc ws q)
def Sm (rl : Bool) (D : Nat) (ws : List Int32) : Prop := DpOK D ws ∧ ∀ Fc Fm, AG rl Fc Fm → ∃ v, EvOK D ws Fc Fm v
def Cd (rl : Bool) (D : Nat) (ws : List Int32) : Prop := DpOK D ws ∧ ∀ Fc Fm, AG rl Fc Fm → ∃ v, (v = 0 ∨ v = 1) ∧ EvOK D ws Fc Fm v
theorem DpOK.mono {D D' : Nat} {ws : List Int32} (h : DpOK D ws) (hd : D ≤ D') : DpOK D' ws := fun rest d h1 h2 => h rest d (by omega) h2
theorem EvOK.mono {D D' : Nat} {ws : List Int32} {Fc Fm : Nat → Int32} {v : Int32} (h : EvOK D ws Fc Fm v) (hd : D ≤ D') : EvOK D' ws Fc Fm v := ⟨h.1, fun st q h1 h2 => h.2 st q h1 (by omega)⟩
theorem Sm.mono {rl : Bool} {D D' : Nat} {ws : List Int32} (h : Sm rl D ws) (hd : D ≤ D') : Sm rl D' ws := ⟨h.1.mono hd, fun Fc Fm ha => by obtain ⟨v, hv⟩ := h.2 Fc Fm ha; exact ⟨v, hv.mono hd⟩⟩
theorem Cd.mono {rl : Bool} {D D' : Nat} {ws : List Int32} (h : Cd rl D ws) (hd : D ≤ D') : Cd rl D' ws := ⟨h.1.mono hd, fun Fc Fm ha => by obtain ⟨v, h0, hv⟩ := h.2 Fc Fm ha; exact ⟨v, h0, hv.mono hd⟩⟩
theorem zI_s (n : Nat) : zI ((n : Int) - 1) + Int32.ofInt 1 = nI n := by
  rw [zI_n, show Int32.ofInt 1 = zI 1 from rfl, ← zI_add]; congr 1; omega
theorem zI_d (n : Nat) : zI (((n + 1 : Nat) : Int) - 1) + Int32.ofInt (-1) = zI ((n : Int) - 1) := by
  rw [show Int32.ofInt (-1) = zI (-1) from rfl, ← zI_add]; congr 1; omega
/-- one thing pushed -/
theorem push_ok {c : Int32} {Fc Fm : Nat → Int32} {v : Int32} (h1 : ¬ 10010 ≤ c) (h2 : (if 10000 ≤ c then rAt 8 Fc (c - 10000) else c) = v) (h3 : ∀ st, evP Fm (cv c) st = v :: st) : EvOK 1 [c] Fc Fm v := by
  refine ⟨fun st => h3 st, fun st q hI hl => ?_⟩
  show CeI (v :: st) (ceS Fc c q)
  unfold ceS
  rw [if_neg h1, h2, hI.1, zI_s, rPut_in (by omega) (by omega)]
  refine ⟨?_, hI.2.push v⟩
  show nI st.length = zI (((st.length + 1 : Nat) : Int) - 1)
  rw [zI_n]; congr 1; omega
theorem dp_push {c : Int32} (h : (cv c).1 ≤ 8) : DpOK 1 [c] := by
  intro rest d hd hr
  show (cv c).1 ≤ 14 ∧ (if (cv c).1 ≤ 8 then d < 400 ∧ dpo rest (d + 1) else _)
  refine ⟨by omega, ?_⟩
  rw [if_pos h]; exact ⟨by omega, hr⟩
theorem cv_n {v : Nat} (h : v ≤ 9999) : cv (nI v) = (8, nI v) := cv_num h
theorem nle_of {a b : Nat} (ha : a < 2 ^ 31) (hb : b < 2 ^ 31) (h : b < a) : ¬ nI a ≤ nI b := fun z => by have := nI_led ha hb z; omega
theorem num_Sm (rl : Bool) {v : Nat} (h : v ≤ 9999) : Sm rl 1 [nI v] := by
  refine ⟨dp_push (by rw [cv_n h]; exact Nat.le_refl 8), fun Fc Fm _ => ⟨nI v, push_ok (nle_of (a := 10010) (by omega) (by omega) (by omega)) (if_neg (nle_of (a := 10000) (by omega) (by omega) (by omega))) (fun st => ?_)⟩⟩
  rw [cv_n h]
  show (if (8 : Nat) ≤ 8 then (if (8 : Nat) = 8 then nI v else Fm 8) :: st else _) = _
  rfl
theorem cv_f : ∀ f : Fin 8, cv (nI (10000 + f.val)) = (cvF f.val, 0) ∧ cvF f.val < 8 ∧ nI (10000 + f.val) - 10000 = nI f.val := by decide +kernel
theorem fact_Ev {f : Nat} (hf : f < 8) {Fc Fm : Nat → Int32} (h : Fc f = Fm (cvF f)) : EvOK 1 [nI (10000 + f)] Fc Fm (Fm (cvF f)) := by
  obtain ⟨c1, c2, c3⟩ := cv_f ⟨f, hf⟩
  refine push_ok (nle_of (a := 10010) (by omega) (by omega) (by omega)) ?_ (fun st => ?_)
  · rw [if_pos (show (10000 : Int32) ≤ nI (10000 + f) from nI_le_n (a := 10000) (by omega) (by omega)), c3, rAt_in hf (by omega), h]
  · rw [c1]
    show (if cvF f ≤ 8 then (if cvF f = 8 then (0 : Int32) else Fm (cvF f)) :: st else _) = _
    have c2' : cvF f < 8 := c2
    rw [if_pos (by omega), if_neg (by omega)]
theorem fact_dp {f : Nat} (hf : f < 8) : DpOK 1 [nI (10000 + f)] := dp_push (by rw [(cv_f ⟨f, hf⟩).1]; have := (cv_f ⟨f, hf⟩).2.1; omega)
theorem fact_Sm {rl : Bool} {f : Nat} (hf : f < 7) (h : rl = true ∨ 4 ≤ f) : Sm rl 1 [nI (10000 + f)] := by
  refine ⟨fact_dp (by omega), fun Fc Fm ha => ⟨_, fact_Ev (show f < 8 by omega) ?_⟩⟩
  cases rl with
  | true => exact (ha.1 rfl).1 f (by omega)
  | false =>
    have h4 : 4 ≤ f := h.resolve_left (by decide)
    obtain ⟨a4, a5, a6⟩ := ha.2 rfl
    match f, hf, h4 with
    | 4, _, _ => exact a4
    | 5, _, _ => exact a5
    | 6, _, _ => exact a6
theorem late_Cd : Cd true 1 [10007] := by
  refine ⟨fact_dp (f := 7) (by omega), fun Fc Fm ha => ?_⟩
  obtain ⟨a1, a2⟩ := ha.1 rfl
  exact ⟨Fm 7, a2, fact_Ev (f := 7) (by omega) (a1 7 (by omega))⟩
/-- two joined -/
theorem join_ev {D1 D2 : Nat} {a b : List Int32} {Fc Fm : Nat → Int32} {x y w : Int32} {c : Int32} (hD2 : 1 ≤ D2) (h1 : EvOK D1 a Fc Fm x) (h2 : EvOK D2 b Fc Fm y) (hc : 10010 ≤ c) (hn : ¬ c = 10013) (hj : joinedF c x y = w) (hm : ∀ st, evP Fm (cv c) (y :: x :: st) = w :: st) : EvOK (max D1 (1 + D2)) (a ++ b ++ [c]) Fc Fm w := by
  refine ⟨fun st => ?_, fun st q hI hl => ?_⟩
  · rw [List.map_append, List.map_append, evA_app, evA_app, h1.1, h2.1]
    exact hm st
  · rw [ceR_app, ceR_app]
    have i1 := h1.2 st q hI (by omega)
    have i2 := h2.2 (x :: st) _ i1 (by rw [List.length_cons]; omega)
    generalize ceR Fc b (ceR Fc a q) = p at i2
    obtain ⟨p1, p2⟩ := i2
    show CeI (w :: st) (ceS Fc c p)
    unfold ceS
    have e1 : p.1 + Int32.ofInt (-1) = nI st.length := by
      rw [p1, show (y :: x :: st).length = st.length + 1 + 1 from rfl, zI_d, zI_n]; congr 1; omega
    have g1 : p.2 st.length = x := by
      have := p2 1 (by show 1 < st.length + 1 + 1; omega)
      rwa [show (y :: x :: st).length - 1 - 1 = st.length by show st.length + 1 + 1 - 1 - 1 = _; omega] at this
    have g0 : p.2 (st.length + 1) = y := by
      have := p2 0 (by show 0 < st.length + 1 + 1; omega)
      rwa [show (y :: x :: st).length - 1 - 0 = st.length + 1 by show st.length + 1 + 1 - 1 - 0 = _; omega] at this
    have hD : st.length + (1 + D2) ≤ 32 := by omega
    rw [if_pos hc, if_pos hn, e1, show nI st.length + 1 = nI (st.length + 1) from nI_s _, rAt_in (show st.length < 32 by omega) (by omega), rAt_in (show st.length + 1 < 32 by omega) (by omega), rPut_in (by omega) (by omega), g1, g0, hj]
    refine ⟨?_, ?_⟩
    · show nI st.length = zI (((st.length + 1 : Nat) : Int) - 1); rw [zI_n]; congr 1; omega
    · exact p2.rep 2 (by show 2 ≤ st.length + 1 + 1; omega) w
theorem dp_app {D1 D2 : Nat} {a b : List Int32} {c : Int32} (h1 : DpOK D1 a) (h2 : DpOK D2 b) (hc : ¬ (cv c).1 ≤ 8) (hc2 : (cv c).1 ≤ 14) (hc3 : ¬ (cv c).1 = 12) : DpOK (max D1 (1 + D2)) (a ++ b ++ [c]) := by
  intro rest d hd hr
  rw [List.map_append, List.map_append, List.append_assoc, List.append_assoc]
  refine h1 _ d (by omega) (h2 _ (d + 1) (by omega) ?_)
  show (cv c).1 ≤ 14 ∧ (if (cv c).1 ≤ 8 then _ else if (cv c).1 = 12 then _ else 2 ≤ d + 1 + 1 ∧ dpo rest (d + 1 + 1 - 1))
  refine ⟨hc2, ?_⟩
  rw [if_neg hc, if_neg hc3]
  exact ⟨by omega, hr⟩
theorem cv_ops : cv 10010 = (9, 0) ∧ cv 10011 = (10, 0) ∧ cv 10012 = (11, 0) ∧ cv 10013 = (12, 0) ∧ cv 10014 = (13, 0) ∧ cv 10015 = (14, 0) := by decide +kernel
theorem evP_join {F : Nat → Int32} {p : SP} (h1 : ¬ p.1 ≤ 8) (h2 : ¬ p.1 = 12) (x y : Int32) (st : List Int32) : evP F p (y :: x :: st) = jnI (nI p.1) x y :: st := by
  unfold evP
  rw [if_neg h1, if_neg h2]; rfl
theorem plus_Sm {rl : Bool} {D1 D2 : Nat} {a b : List Int32} (h1 : Sm rl D1 a) (hD : 1 ≤ D2) (h2 : Sm rl D2 b) : Sm rl (max D1 (1 + D2)) (a ++ b ++ [10010]) := by
  have c := cv_ops.1
  refine ⟨dp_app h1.1 h2.1 (by rw [c]; decide) (by rw [c]; decide) (by rw [c]; decide), fun Fc Fm ha => ?_⟩
  obtain ⟨x, hx⟩ := h1.2 Fc Fm ha
  obtain ⟨y, hy⟩ := h2.2 Fc Fm ha
  refine ⟨x + y, join_ev hD hx hy (by decide) (by decide) (if_pos rfl) (fun st => ?_)⟩
  rw [c, evP_join (by decide) (by decide)]; rfl
theorem cmp_Cd {rl : Bool} {D1 D2 : Nat} {a b : List Int32} (h1 : Sm rl D1 a) (hD : 1 ≤ D2) (h2 : Sm rl D2 b) : Cd rl (max D1 (1 + D2)) (a ++ b ++ [10011]) ∧ Cd rl (max D1 (1 + D2)) (a ++ b ++ [10012]) := by
  have c1 := cv_ops.2.1
  have c2 := cv_ops.2.2.1
  constructor
  · refine ⟨dp_app h1.1 h2.1 (by rw [c1]; decide) (by rw [c1]; decide) (by rw [c1]; decide), fun Fc Fm ha => ?_⟩
    obtain ⟨x, hx⟩ := h1.2 Fc Fm ha
    obtain ⟨y, hy⟩ := h2.2 Fc Fm ha
    refine ⟨if y ≤ x then 0 else 1, by split; exact Or.inl rfl; exact Or.inr rfl, join_ev hD hx hy (by decide) (by decide) rfl (fun st => ?_)⟩
    rw [c1, evP_join (by decide) (by decide)]
    show (if jnB (nI 10) x y = 0 then (0 : Int32) else 1) :: st = _
    show (if (if y ≤ x then (0 : Int32) else 1) = 0 then (0 : Int32) else 1) :: st = _
    by_cases d : y ≤ x
    · rw [if_pos d, if_pos rfl]
    · rw [if_neg d, if_neg (by decide)]
  · refine ⟨dp_app h1.1 h2.1 (by rw [c2]; decide) (by rw [c2]; decide) (by rw [c2]; decide), fun Fc Fm ha => ?_⟩
    obtain ⟨x, hx⟩ := h1.2 Fc Fm ha
    obtain ⟨y, hy⟩ := h2.2 Fc Fm ha
    refine ⟨if x ≤ y then 0 else 1, by split; exact Or.inl rfl; exact Or.inr rfl, join_ev hD hx hy (by decide) (by decide) rfl (fun st => ?_)⟩
    rw [c2, evP_join (by decide) (by decide)]
    show (if (if x ≤ y then (0 : Int32) else 1) = 0 then (0 : Int32) else 1) :: st = _
    by_cases d : x ≤ y
    · rw [if_pos d, if_pos rfl]
    · rw [if_neg d, if_neg (by decide)]
theorem op_Cd {rl : Bool} {D1 D2 : Nat} {a b : List Int32} (h1 : Cd rl D1 a) (hD : 1 ≤ D2) (h2 : Cd rl D2 b) {c : Int32} (hc : c = 10014 ∨ c = 10015) : Cd rl (max D1 (1 + D2)) (a ++ b ++ [c]) := by
  have c1 := cv_ops.2.2.2.2.1
  have c2 := cv_ops.2.2.2.2.2
  rcases hc with rfl | rfl
  · refine ⟨dp_app h1.1 h2.1 (by rw [c1]; decide) (by rw [c1]; decide) (by rw [c1]; decide), fun Fc Fm ha => ?_⟩
    obtain ⟨x, x0, hx⟩ := h1.2 Fc Fm ha
    obtain ⟨y, y0, hy⟩ := h2.2 Fc Fm ha
    refine ⟨jnI (nI 13) x y, ?_, join_ev hD hx hy (by decide) (by decide) ?_ (fun st => by rw [c1, evP_join (by decide) (by decide)])⟩
    · rcases x0 with rfl | rfl <;> rcases y0 with rfl | rfl <;> decide
    · rcases x0 with rfl | rfl <;> rcases y0 with rfl | rfl <;> decide
  · refine ⟨dp_app h1.1 h2.1 (by rw [c2]; decide) (by rw [c2]; decide) (by rw [c2]; decide), fun Fc Fm ha => ?_⟩
    obtain ⟨x, x0, hx⟩ := h1.2 Fc Fm ha
    obtain ⟨y, y0, hy⟩ := h2.2 Fc Fm ha
    refine ⟨jnI (nI 14) x y, ?_, join_ev hD hx hy (by decide) (by decide) ?_ (fun st => by rw [c2, evP_join (by decide) (by decide)])⟩
    · rcases x0 with rfl | rfl <;> rcases y0 with rfl | rfl <;> decide
    · rcases x0 with rfl | rfl <;> rcases y0 with rfl | rfl <;> decide
theorem not_Cd {rl : Bool} {D : Nat} {a : List Int32} (hD : 1 ≤ D) (h : Cd rl D a) : Cd rl D (a ++ [10013]) := by
  have c := cv_ops.2.2.2.1
  refine ⟨fun rest d hd hr => ?_, fun Fc Fm ha => ?_⟩
  · rw [List.map_append, List.append_assoc]
    refine h.1 _ d hd ?_
    show (cv 10013).1 ≤ 14 ∧ (if (cv 10013).1 ≤ 8 then _ else if (cv 10013).1 = 12 then 1 ≤ d + 1 ∧ dpo rest (d + 1) else _)
    rw [c]
    exact ⟨by decide, by omega, hr⟩
  · obtain ⟨x, x0, hx⟩ := h.2 Fc Fm ha
    refine ⟨1 - x, by rcases x0 with rfl | rfl <;> decide, fun st => ?_, fun st q hI hl => ?_⟩
    · rw [List.map_append, evA_app, hx.1]
      show evP Fm (cv 10013) (x :: st) = _
      rw [c]; rfl
    · rw [ceR_app]
      have i1 := hx.2 st q hI hl
      generalize ceR Fc a q = p at i1
      obtain ⟨p1, p2⟩ := i1
      have e1 : p.1 = nI st.length := by
        rw [p1, zI_n]; congr 1; show ((st.length + 1 : Nat) : Int) - 1 = _; omega
      have g0 : p.2 st.length = x := by
        have := p2 0 (by show 0 < st.length + 1; omega)
        rwa [show (x :: st).length - 1 - 0 = st.length by show st.length + 1 - 1 - 0 = _; omega] at this
      show CeI ((1 - x) :: st) (ceS Fc 10013 p)
      unfold ceS
      rw [if_pos (by decide), if_neg (by decide), e1, rAt_in (show st.length < 32 by omega) (by omega), rPut_in (by omega) (by omega), g0]
      refine ⟨?_, ?_⟩
      · show nI st.length = zI (((st.length + 1 : Nat) : Int) - 1); rw [zI_n]; congr 1; omega
      · exact p2.rep 1 (by show 1 ≤ st.length + 1; omega) (1 - x)
/-! what is read is such -/
theorem wFact_v : ∀ j : Fin 23, wFact.getD j.val 0 = -1 ∨ ∃ f : Fin 7, wFact.getD j.val 0 = nI f.val := by decide +kernel
theorem lt4 : ∀ f : Fin 7, (nI f.val < 4 → f.val < 4) ∧ ¬ nI f.val = -1 ∧ (10000 : Int32) + nI f.val = nI (10000 + f.val) := by decide +kernel
theorem pFact_v {o : Ob} (ho : ObOK o) (rl : Bool) (b : Nat) : pFact o rl b = -1 ∨ ∃ f : Nat, f < 7 ∧ (rl = true ∨ 4 ≤ f) ∧ pFact o rl b = nI f := by
  have h := wFact_v ⟨oWrd o b, ho.2.2.2.1 b⟩
  unfold pFact
  cases rl with
  | true =>
    rw [if_neg (show ¬ bI true = 0 by decide)]
    rcases h with h | ⟨f, h⟩
    · exact Or.inl h
    · exact Or.inr ⟨f.val, f.isLt, Or.inl rfl, h⟩
  | false =>
    rw [if_pos (show bI false = 0 from rfl)]
    by_cases c : wFact.getD (oWrd o b) 0 < 4
    · rw [if_pos c]; exact Or.inl rfl
    · rw [if_neg c]
      rcases h with h | ⟨f, h⟩
      · exact absurd (by rw [show wFact.getD (oWrd o b) 0 = -1 from h]; decide) c
      · refine Or.inr ⟨f.val, f.isLt, Or.inr ?_, h⟩
        rw [show wFact.getD (oWrd o b) 0 = nI f.val from h] at c
        have : ¬ f.val < 4 := fun z => c (nI_ltn (b := 4) z (by omega))
        omega
theorem cell_Sm {o : Ob} (ho : ObOK o) {rl : Bool} {b : Nat} (h : ¬ pCell o rl b = -1) : Sm rl 1 [pCell o rl b] := by
  unfold pCell at h ⊢
  by_cases c : pFact o rl b = -1
  · rw [if_pos c] at h ⊢
    rcases ho.2.2.2.2 b with h1 | ⟨v, hv, e⟩
    · exact absurd h1 h
    · rw [e]; exact num_Sm rl hv
  · rw [if_neg c]
    rcases pFact_v ho rl b with h1 | ⟨f, hf, h2, e⟩
    · exact absurd h1 c
    · rw [e, (lt4 ⟨f, hf⟩).2.2]; exact fact_Sm hf h2
theorem sumL_ws {o : Ob} (ho : ObOK o) {rl : Bool} : ∀ (k n b : Nat) (cs0 acc : List Int32) (q : Nat × List Int32), (n = 0 ∧ acc = []) ∨ (0 < n ∧ Sm rl 2 acc) → pSumL o rl k n b (cs0 ++ acc) = .inr q → ∃ ws, q.2 = cs0 ++ ws ∧ Sm rl 2 ws
  | 0, n, b, cs0, acc, q, hn, h => by cases h
  | k + 1, n, b, cs0, acc, q, hn, h => by
    unfold pSumL at h
    by_cases c : pCell o rl b = -1
    · rw [if_pos c] at h; cases h
    · rw [if_neg c] at h
      have hc := cell_Sm ho c
      have key : ∃ acc', (if n = 0 then cs0 ++ acc ++ [pCell o rl b] else cs0 ++ acc ++ [pCell o rl b] ++ [10010]) = cs0 ++ acc' ∧ Sm rl 2 acc' := by
        rcases hn with ⟨rfl, rfl⟩ | ⟨h0, ha⟩
        · exact ⟨[pCell o rl b], by rw [if_pos rfl, List.append_nil], hc.mono (by omega)⟩
        · refine ⟨acc ++ [pCell o rl b] ++ [10010], by rw [if_neg (by omega), List.append_assoc, List.append_assoc, List.append_assoc], (plus_Sm ha (by omega) hc).mono (by omega)⟩
      obtain ⟨acc', e, ha⟩ := key
      rw [e] at h
      by_cases d : oSgn o (oNxt o b) = 43
      · rw [if_pos d] at h
        exact sumL_ws ho k (n + 1) _ cs0 acc' q (Or.inr ⟨by omega, ha⟩) h
      · rw [if_neg d] at h
        cases h
        exact ⟨acc', rfl, ha⟩
theorem sum_ws {o : Ob} (ho : ObOK o) {rl : Bool} {b : Nat} {cs : List Int32} {q : Nat × List Int32} (h : pSum o rl b cs = .inr q) : ∃ ws, q.2 = cs ++ ws ∧ Sm rl 2 ws := by
  unfold pSum at h
  exact sumL_ws ho 400 0 b cs [] q (Or.inl ⟨rfl, rfl⟩) (by rw [List.append_nil]; exact h)
theorem base_ws {o : Ob} (ho : ObOK o) {rl : Bool} {b : Nat} {cs : List Int32} {q : Nat × List Int32} (h : pBase o rl b cs = .inr q) : ∃ ws, q.2 = cs ++ ws ∧ Cd rl 3 ws := by
  unfold pBase at h
  by_cases c : ¬ bI rl = 0 ∧ oWrd o b = 15
  · rw [if_pos c] at h
    cases h
    cases rl with
    | true => exact ⟨[10007], rfl, late_Cd.mono (by omega)⟩
    | false => exact absurd rfl c.1
  · rw [if_neg c] at h
    cases h1 : pSum o rl b cs with
    | inl e => rw [h1] at h; cases h
    | inr p =>
      rw [h1] at h
      dsimp only at h
      obtain ⟨w1, e1, s1⟩ := sum_ws ho h1
      by_cases d : oSgn o p.1 = 60
      · rw [if_pos d] at h
        cases h2 : pSum o rl (oNxt o p.1) p.2 with
        | inl e => rw [h2] at h; cases h
        | inr r =>
          rw [h2] at h
          cases h
          obtain ⟨w2, e2, s2⟩ := sum_ws ho h2
          refine ⟨w1 ++ w2 ++ [10011], ?_, (cmp_Cd s1 (by omega) s2).1.mono (by omega)⟩
          show r.2 ++ [10011] = _
          rw [e2, e1, List.append_assoc, List.append_assoc, List.append_assoc]
      · rw [if_neg d] at h
        by_cases d2 : oSgn o p.1 = 62
        · rw [if_pos d2] at h
          cases h2 : pSum o rl (oNxt o p.1) p.2 with
          | inl e => rw [h2] at h; cases h
          | inr r =>
            rw [h2] at h
            cases h
            obtain ⟨w2, e2, s2⟩ := sum_ws ho h2
            refine ⟨w1 ++ w2 ++ [10012], ?_, (cmp_Cd s1 (by omega) s2).2.mono (by omega)⟩
            show r.2 ++ [10012] = _
            rw [e2, e1, List.append_assoc, List.append_assoc, List.append_assoc]
        · rw [if_neg d2] at h; cases h
def ItW (rl : Bool) (D : Nat) (item : Nat → List Int32 → PR) : Prop := ∀ b cs q, item b cs = .inr q → ∃ ws, q.2 = cs ++ ws ∧ Cd rl D ws
theorem loop_ws {o : Ob} {rl : Bool} {D : Nat} (hD : 1 ≤ D) {item : Nat → List Int32 → PR} (hi : ItW rl D item) (w : Nat) {op : Int32} (ho : op = 10014 ∨ op = 10015) : ∀ (k b : Nat) (cs0 acc : List Int32) (q : Nat × List Int32), Cd rl (D + 1) acc → pLoop o item w op k b (cs0 ++ acc) = .inr q → ∃ ws, q.2 = cs0 ++ ws ∧ Cd rl (D + 1) ws
  | 0, b, cs0, acc, q, ha, h => by cases h; exact ⟨acc, rfl, ha⟩
  | k + 1, b, cs0, acc, q, ha, h => by
    unfold pLoop at h
    by_cases c : oWrd o b = w
    · rw [if_pos c] at h
      cases h1 : item (oNxt o b) (cs0 ++ acc) with
      | inl e => rw [h1] at h; cases h
      | inr p =>
        rw [h1] at h
        dsimp only at h
        obtain ⟨w1, e1, s1⟩ := hi _ _ _ h1
        rw [e1, List.append_assoc cs0, List.append_assoc cs0] at h
        exact loop_ws hD hi w ho k _ cs0 (acc ++ w1 ++ [op]) q ((op_Cd ha hD s1 ho).mono (by omega)) h
    · rw [if_neg c] at h; cases h; exact ⟨acc, rfl, ha⟩
theorem seq_ws {o : Ob} {rl : Bool} {D : Nat} (hD : 1 ≤ D) {item : Nat → List Int32 → PR} (hi : ItW rl D item) (w : Nat) {op : Int32} (ho : op = 10014 ∨ op = 10015) : ItW rl (D + 1) (pSeq o item w op) := by
  intro b cs q h
  unfold pSeq at h
  cases h1 : item b cs with
  | inl e => rw [h1] at h; cases h
  | inr p =>
    rw [h1] at h
    dsimp only at h
    obtain ⟨w1, e1, s1⟩ := hi _ _ _ h1
    rw [e1] at h
    exact loop_ws hD hi w ho 400 _ cs w1 q (s1.mono (by omega)) h
theorem atom_ws {o : Ob} (ho : ObOK o) {rl : Bool} : ∀ d, ItW rl (3 + 2 * d) (pAtom o rl d)
  | 0 => by
    intro b cs q h
    unfold pAtom at h
    by_cases c : oWrd o b = 14
    · rw [if_pos c] at h; cases h
    · rw [if_neg c] at h
      by_cases c2 : oSgn o b = 40
      · rw [if_pos c2] at h; cases h
      · rw [if_neg c2] at h; exact base_ws ho h
  | d + 1 => by
    have ih := atom_ws ho (rl := rl) d
    intro b cs q h
    unfold pAtom at h
    by_cases c : oWrd o b = 14
    · rw [if_pos c] at h
      cases h1 : pAtom o rl d (oNxt o b) cs with
      | inl e => rw [h1] at h; cases h
      | inr p =>
        rw [h1] at h
        cases h
        obtain ⟨w1, e1, s1⟩ := ih _ _ _ h1
        refine ⟨w1 ++ [10013], ?_, (not_Cd (by omega) s1).mono (by omega)⟩
        show p.2 ++ [10013] = _
        rw [e1, List.append_assoc]
    · rw [if_neg c] at h
      by_cases c2 : oSgn o b = 40
      · rw [if_pos c2] at h
        cases h1 : pSeq o (pSeq o (pAtom o rl d) 13 10014) 12 10015 (oNxt o b) cs with
        | inl e => rw [h1] at h; cases h
        | inr p =>
          rw [h1] at h
          dsimp only at h
          obtain ⟨w1, e1, s1⟩ := seq_ws (by omega) (seq_ws (o := o) (by omega) ih 13 (Or.inl rfl)) 12 (Or.inr rfl) _ _ _ h1
          by_cases c3 : oSgn o p.1 = 41
          · rw [if_pos c3] at h
            cases h
            exact ⟨w1, e1, s1.mono (by omega)⟩
          · rw [if_neg c3] at h; cases h
      · rw [if_neg c2] at h
        obtain ⟨w1, e1, s1⟩ := base_ws ho h
        exact ⟨w1, e1, s1.mono (by omega)⟩
theorem cond_ws {o : Ob} (ho : ObOK o) {rl : Bool} {b : Nat} {cs : List Int32} {q : Nat × List Int32} (h : pCond o rl 6 b cs = .inr q) : ∃ ws, q.2 = cs ++ ws ∧ Cd rl 17 ws :=
  seq_ws (D := 16) (by omega) (seq_ws (D := 15) (o := o) (by omega) (atom_ws ho 6) 13 (Or.inl rfl)) 12 (Or.inr rfl) _ _ _ h
