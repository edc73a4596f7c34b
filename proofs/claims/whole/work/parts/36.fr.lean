/-! what a step leaves as it was: the fields and rows for which f and a say false -/
def Fr (f : Nat → Nat → Bool) (a : Nat → Bool) (g g' : GS) : Prop :=
  (∀ c k, f c k = false → gF g' c k = gF g c k) ∧ (∀ c, a c = false → gA g' c = gA g c) ∧ (∀ c, a c = false → gB g' c = gB g c) ∧ (∀ c k, f c k = false → gV g' c k = gV g c k) ∧ (∀ c, a c = false → gP g' c = gP g c) ∧ gT g' = gT g
theorem Fr.rf {f : Nat → Nat → Bool} {a : Nat → Bool} {g : GS} : Fr f a g g := ⟨fun _ _ _ => rfl, fun _ _ => rfl, fun _ _ => rfl, fun _ _ _ => rfl, fun _ _ => rfl, rfl⟩
theorem Fr.tr {f : Nat → Nat → Bool} {a : Nat → Bool} {g g1 g2 : GS} (h : Fr f a g g1) (h2 : Fr f a g1 g2) : Fr f a g g2 :=
  ⟨fun c k e => (h2.1 c k e).trans (h.1 c k e), fun c e => (h2.2.1 c e).trans (h.2.1 c e), fun c e => (h2.2.2.1 c e).trans (h.2.2.1 c e), fun c k e => (h2.2.2.2.1 c k e).trans (h.2.2.2.1 c k e), fun c e => (h2.2.2.2.2.1 c e).trans (h.2.2.2.2.1 c e), h2.2.2.2.2.2.trans h.2.2.2.2.2⟩
theorem Fr.mono {f f' : Nat → Nat → Bool} {a a' : Nat → Bool} {g g' : GS} (h : Fr f a g g') (hf : ∀ c k, f' c k = false → f c k = false) (ha : ∀ c, a' c = false → a c = false) : Fr f' a' g g' :=
  ⟨fun c k e => h.1 c k (hf c k e), fun c e => h.2.1 c (ha c e), fun c e => h.2.2.1 c (ha c e), fun c k e => h.2.2.2.1 c k (hf c k e), fun c e => h.2.2.2.2.1 c (ha c e), h.2.2.2.2.2⟩
theorem beqff {c c' : Nat} {b : Bool} {f : Nat → Bool} (h : f c = true) (e : f c' = false) : Nat.beq c' c = false := by
  cases hb : Nat.beq c' c with
  | false => rfl
  | true => rw [Nat.eq_of_beq_eq_true hb, h] at e; cases e
theorem beqff2 {c k c' k' : Nat} {f : Nat → Nat → Bool} (h : f c k = true) (e : f c' k' = false) : (Nat.beq c' c && Nat.beq k' k) = false := by
  cases hb : (Nat.beq c' c && Nat.beq k' k) with
  | false => rfl
  | true =>
    rw [Bool.and_eq_true] at hb
    rw [Nat.eq_of_beq_eq_true hb.1, Nat.eq_of_beq_eq_true hb.2, h] at e; cases e
theorem Fr.sF {f : Nat → Nat → Bool} {a : Nat → Bool} {g g1 : GS} {c k : Nat} {v : Int32} (h : Fr f a g g1) (hc : f c k = true) : Fr f a g (sF g1 c k v) :=
  ⟨fun c' k' e => (show (bif Nat.beq c' c && Nat.beq k' k then v else gF g1 c' k') = gF g c' k' by rw [beqff2 hc e]; exact h.1 c' k' e), h.2⟩
theorem Fr.sV {f : Nat → Nat → Bool} {a : Nat → Bool} {g g1 : GS} {c k : Nat} {v : Value} (h : Fr f a g g1) (hc : f c k = true) : Fr f a g (sV g1 c k v) :=
  ⟨h.1, h.2.1, h.2.2.1, fun c' k' e => (show (bif Nat.beq c' c && Nat.beq k' k then v else gV g1 c' k') = gV g c' k' by rw [beqff2 hc e]; exact h.2.2.2.1 c' k' e), h.2.2.2.2⟩
theorem Fr.sA {f : Nat → Nat → Bool} {a : Nat → Bool} {g g1 : GS} {c : Nat} {v : Nat → Int32} (h : Fr f a g g1) (hc : a c = true) : Fr f a g (sA g1 c v) :=
  ⟨h.1, fun c' e => (show (bif Nat.beq c' c then v else gA g1 c') = gA g c' by rw [beqff (b := true) hc e]; exact h.2.1 c' e), h.2.2⟩
theorem Fr.sB {f : Nat → Nat → Bool} {a : Nat → Bool} {g g1 : GS} {c : Nat} {v : Nat → Int64} (h : Fr f a g g1) (hc : a c = true) : Fr f a g (sB g1 c v) :=
  ⟨h.1, h.2.1, fun c' e => (show (bif Nat.beq c' c then v else gB g1 c') = gB g c' by rw [beqff (b := true) hc e]; exact h.2.2.1 c' e), h.2.2.2⟩
theorem Fr.sP {f : Nat → Nat → Bool} {a : Nat → Bool} {g g1 : GS} {c : Nat} {v : Nat → Option Nat} (h : Fr f a g g1) (hc : a c = true) : Fr f a g (sP g1 c v) :=
  ⟨h.1, h.2.1, h.2.2.1, h.2.2.2.1, fun c' e => (show (bif Nat.beq c' c then v else gP g1 c') = gP g c' by rw [beqff (b := true) hc e]; exact h.2.2.2.2.1 c' e), h.2.2.2.2.2⟩
theorem Fr.itN {f : Nat → Nat → Bool} {a : Nat → Bool} {g g1 : GS} {S : Nat → GS → GS} (h : Fr f a g g1) (hs : ∀ i G, Fr f a g G → Fr f a g (S i G)) : ∀ n, Fr f a g (itN S n g1)
  | 0 => h
  | n + 1 => hs n _ (Fr.itN h hs n)
/-- a weaker post -/
theorem Ct.imp {M : MI} {R : Room} {args : List Value} {es : List ME} {Q Q' : Res → List ME → Prop} (h : Ct M R args es Q) (hi : ∀ r es', Q r es' → Q' r es') : Ct M R args es Q' := fun a b c l hl ad D cA B0 sz => by
  intro p e ha hc hk s m args' below hf happ hP hK
  obtain ⟨n, o, h1, h2, h3, hQ⟩ := h a b c l hl ad D cA B0 sz p e ha hc hk s m args' below hf happ hP hK
  refine ⟨n, o, h1, h2, h3, ?_⟩
  rcases hQ with ⟨⟨⟨v, es', ad', e1, q, h4⟩, hF⟩, hE⟩ | ⟨q, ho, E, ce, L, ⟨⟨es', ad', hq, h4⟩, hF⟩, h5⟩
  · exact Or.inl ⟨⟨⟨v, es', ad', e1, hi _ _ q, h4⟩, hF⟩, hE⟩
  · exact Or.inr ⟨q, ho, E, ce, L, ⟨⟨es', ad', hi _ _ hq, h4⟩, hF⟩, h5⟩
/-- posts of existence: an int, nothing -/
def RXi (P : Int32 → GS → Prop) : Res → List ME → Prop := fun r es => ∃ (x : Int32) (g : GS), r = .inl (some (.int x)) ∧ es = Wd g ∧ P x g
def RXl (P : Int64 → GS → Prop) : Res → List ME → Prop := fun r es => ∃ (x : Int64) (g : GS), r = .inl (some (.long x)) ∧ es = Wd g ∧ P x g
def RXv (P : GS → Prop) : Res → List ME → Prop := fun r es => ∃ (g : GS), r = .inl none ∧ es = Wd g ∧ P g
theorem RXi.of {P : Int32 → GS → Prop} {x : Int32} {g : GS} (h : P x g) : RXi P (.inl (some (.int x))) (Wd g) := ⟨x, g, rfl, rfl, h⟩
theorem RXl.of {P : Int64 → GS → Prop} {x : Int64} {g : GS} (h : P x g) : RXl P (.inl (some (.long x))) (Wd g) := ⟨x, g, rfl, rfl, h⟩
theorem RXv.of {P : GS → Prop} {g : GS} (h : P g) : RXv P (.inl none) (Wd g) := ⟨g, rfl, rfl, h⟩
theorem rm_room {d d' n : Nat} (h : d < d') (hn : n ≤ 40) : (rm d 0 0).frames + 1 ≤ (rm d' 0 0).frames ∧ 8 + (n + 11) + (rm d 0 0).locals ≤ (rm d' 0 0).locals := by
  show 16 + d + 1 ≤ 16 + d' ∧ 8 + (n + 11) + (200 + 60 * d) ≤ 200 + 60 * d'
  omega
theorem JiS0 {M : MI} {R : Room} {Q : Res → List ME → Prop} {n0 pc nx : Nat} {L : List (Option Value)} {rest : List Value} {g : GS} {M' : MI} {R' : Room} {idx : Nat} {P : Int32 → GS → Prop} (d : decode M.2.1 pc = .ok (.invokestatic idx, 3)) (hn : pc + 3 = nx) (hml : ML M' 0) (hlk : Cond.methodLink M.1.cls idx M'.1 ∈ TT) (hst : Cond.static M'.1 ∈ TT) (hroom : R'.frames + 1 ≤ R.frames ∧ 8 + (M'.2.2.1 + 11) + R'.locals ≤ R.locals) (hcat : (rest.map fun v => v.category).sum ≤ 8) (hz : R'.cells = 0 ∧ R'.slots = 0) (hct : Ct M' R' [] (Wd g) (RXi P)) (h : ∀ (x : Int32) (g1 : GS), P x g1 → J M R Q n0 nx L (.int x :: rest) (Wd g1) 0 0) : J M R Q n0 pc L (rest) (Wd g) 0 0 :=
  J_callS (As := []) d hn hml hlk hst rfl hroom hcat ⟨by rw [hz.1]; exact Nat.zero_le _, by rw [hz.2]; exact Nat.zero_le _⟩ hct (fun E es' hq => by obtain ⟨v, g1, h1, -⟩ := hq; cases h1) (fun v' es' hq => by
    obtain ⟨v, g1, h1, rfl, hp⟩ := hq
    cases h1
    rw [hz.1, hz.2]
    exact h _ _ hp)
theorem JlS0 {M : MI} {R : Room} {Q : Res → List ME → Prop} {n0 pc nx : Nat} {L : List (Option Value)} {rest : List Value} {g : GS} {M' : MI} {R' : Room} {idx : Nat} {P : Int64 → GS → Prop} (d : decode M.2.1 pc = .ok (.invokestatic idx, 3)) (hn : pc + 3 = nx) (hml : ML M' 0) (hlk : Cond.methodLink M.1.cls idx M'.1 ∈ TT) (hst : Cond.static M'.1 ∈ TT) (hroom : R'.frames + 1 ≤ R.frames ∧ 8 + (M'.2.2.1 + 11) + R'.locals ≤ R.locals) (hcat : (rest.map fun v => v.category).sum ≤ 8) (hz : R'.cells = 0 ∧ R'.slots = 0) (hct : Ct M' R' [] (Wd g) (RXl P)) (h : ∀ (x : Int64) (g1 : GS), P x g1 → J M R Q n0 nx L (.long x :: rest) (Wd g1) 0 0) : J M R Q n0 pc L (rest) (Wd g) 0 0 :=
  J_callS (As := []) d hn hml hlk hst rfl hroom hcat ⟨by rw [hz.1]; exact Nat.zero_le _, by rw [hz.2]; exact Nat.zero_le _⟩ hct (fun E es' hq => by obtain ⟨v, g1, h1, -⟩ := hq; cases h1) (fun v' es' hq => by
    obtain ⟨v, g1, h1, rfl, hp⟩ := hq
    cases h1
    rw [hz.1, hz.2]
    exact h _ _ hp)
theorem JvS0 {M : MI} {R : Room} {Q : Res → List ME → Prop} {n0 pc nx : Nat} {L : List (Option Value)} {rest : List Value} {g : GS} {M' : MI} {R' : Room} {idx : Nat} {P : GS → Prop} (d : decode M.2.1 pc = .ok (.invokestatic idx, 3)) (hn : pc + 3 = nx) (hml : ML M' 0) (hlk : Cond.methodLink M.1.cls idx M'.1 ∈ TT) (hst : Cond.static M'.1 ∈ TT) (hroom : R'.frames + 1 ≤ R.frames ∧ 8 + (M'.2.2.1 + 11) + R'.locals ≤ R.locals) (hcat : (rest.map fun v => v.category).sum ≤ 8) (hz : R'.cells = 0 ∧ R'.slots = 0) (hct : Ct M' R' [] (Wd g) (RXv P)) (h : ∀ (g1 : GS), P g1 → J M R Q n0 nx L (rest) (Wd g1) 0 0) : J M R Q n0 pc L (rest) (Wd g) 0 0 :=
  J_callS (As := []) d hn hml hlk hst rfl hroom hcat ⟨by rw [hz.1]; exact Nat.zero_le _, by rw [hz.2]; exact Nat.zero_le _⟩ hct (fun E es' hq => by obtain ⟨g1, h1, -⟩ := hq; cases h1) (fun v' es' hq => by
    obtain ⟨g1, h1, rfl, hp⟩ := hq
    cases h1
    rw [hz.1, hz.2]
    exact h _ hp)
theorem JiV0 {M : MI} {R : Room} {Q : Res → List ME → Prop} {n0 pc nx : Nat} {L : List (Option Value)} {rest : List Value} {g : GS} {M' : MI} {R' : Room} {b : Nat} {idx : Nat} {P : Int32 → GS → Prop} (d : decode M.2.1 pc = .ok (.invokevirtual idx, 3)) (hn : pc + 3 = nx) (hml : ML M' 0) (hlk : Cond.methodLink M.1.cls idx M'.1 ∈ TT) (hins : Cond.instanceMethod M'.1 ∈ TT ∧ Cond.selects M'.1.cls M'.1 M'.1 ∈ TT) {T : u_T} {N ci : Nat} (hcl : vwCl[ci]? = some (M'.1.cls, T, N)) {fs : List Value} (he : (Wd g)[b]? = some (.inr (ci, fs))) (hroom : R'.frames + 1 ≤ R.frames ∧ 8 + (M'.2.2.1 + 11) + R'.locals ≤ R.locals) (hcat : (rest.map fun v => v.category).sum ≤ 8) (hz : R'.cells = 0 ∧ R'.slots = 0) (hct : Ct M' R' (.ref b :: []) (Wd g) (RXi P)) (h : ∀ (x : Int32) (g1 : GS), P x g1 → J M R Q n0 nx L (.int x :: rest) (Wd g1) 0 0) : J M R Q n0 pc L (.ref b :: rest) (Wd g) 0 0 :=
  J_callV (b := b) (As := []) d hn hml hlk hins hcl he rfl hroom hcat ⟨by rw [hz.1]; exact Nat.zero_le _, by rw [hz.2]; exact Nat.zero_le _⟩ hct (fun E es' hq => by obtain ⟨v, g1, h1, -⟩ := hq; cases h1) (fun v' es' hq => by
    obtain ⟨v, g1, h1, rfl, hp⟩ := hq
    cases h1
    rw [hz.1, hz.2]
    exact h _ _ hp)
theorem JlV0 {M : MI} {R : Room} {Q : Res → List ME → Prop} {n0 pc nx : Nat} {L : List (Option Value)} {rest : List Value} {g : GS} {M' : MI} {R' : Room} {b : Nat} {idx : Nat} {P : Int64 → GS → Prop} (d : decode M.2.1 pc = .ok (.invokevirtual idx, 3)) (hn : pc + 3 = nx) (hml : ML M' 0) (hlk : Cond.methodLink M.1.cls idx M'.1 ∈ TT) (hins : Cond.instanceMethod M'.1 ∈ TT ∧ Cond.selects M'.1.cls M'.1 M'.1 ∈ TT) {T : u_T} {N ci : Nat} (hcl : vwCl[ci]? = some (M'.1.cls, T, N)) {fs : List Value} (he : (Wd g)[b]? = some (.inr (ci, fs))) (hroom : R'.frames + 1 ≤ R.frames ∧ 8 + (M'.2.2.1 + 11) + R'.locals ≤ R.locals) (hcat : (rest.map fun v => v.category).sum ≤ 8) (hz : R'.cells = 0 ∧ R'.slots = 0) (hct : Ct M' R' (.ref b :: []) (Wd g) (RXl P)) (h : ∀ (x : Int64) (g1 : GS), P x g1 → J M R Q n0 nx L (.long x :: rest) (Wd g1) 0 0) : J M R Q n0 pc L (.ref b :: rest) (Wd g) 0 0 :=
  J_callV (b := b) (As := []) d hn hml hlk hins hcl he rfl hroom hcat ⟨by rw [hz.1]; exact Nat.zero_le _, by rw [hz.2]; exact Nat.zero_le _⟩ hct (fun E es' hq => by obtain ⟨v, g1, h1, -⟩ := hq; cases h1) (fun v' es' hq => by
    obtain ⟨v, g1, h1, rfl, hp⟩ := hq
    cases h1
    rw [hz.1, hz.2]
    exact h _ _ hp)
theorem JvV0 {M : MI} {R : Room} {Q : Res → List ME → Prop} {n0 pc nx : Nat} {L : List (Option Value)} {rest : List Value} {g : GS} {M' : MI} {R' : Room} {b : Nat} {idx : Nat} {P : GS → Prop} (d : decode M.2.1 pc = .ok (.invokevirtual idx, 3)) (hn : pc + 3 = nx) (hml : ML M' 0) (hlk : Cond.methodLink M.1.cls idx M'.1 ∈ TT) (hins : Cond.instanceMethod M'.1 ∈ TT ∧ Cond.selects M'.1.cls M'.1 M'.1 ∈ TT) {T : u_T} {N ci : Nat} (hcl : vwCl[ci]? = some (M'.1.cls, T, N)) {fs : List Value} (he : (Wd g)[b]? = some (.inr (ci, fs))) (hroom : R'.frames + 1 ≤ R.frames ∧ 8 + (M'.2.2.1 + 11) + R'.locals ≤ R.locals) (hcat : (rest.map fun v => v.category).sum ≤ 8) (hz : R'.cells = 0 ∧ R'.slots = 0) (hct : Ct M' R' (.ref b :: []) (Wd g) (RXv P)) (h : ∀ (g1 : GS), P g1 → J M R Q n0 nx L (rest) (Wd g1) 0 0) : J M R Q n0 pc L (.ref b :: rest) (Wd g) 0 0 :=
  J_callV (b := b) (As := []) d hn hml hlk hins hcl he rfl hroom hcat ⟨by rw [hz.1]; exact Nat.zero_le _, by rw [hz.2]; exact Nat.zero_le _⟩ hct (fun E es' hq => by obtain ⟨g1, h1, -⟩ := hq; cases h1) (fun v' es' hq => by
    obtain ⟨g1, h1, rfl, hp⟩ := hq
    cases h1
    rw [hz.1, hz.2]
    exact h _ hp)
theorem JiS1 {M : MI} {R : Room} {Q : Res → List ME → Prop} {n0 pc nx : Nat} {L : List (Option Value)} {rest : List Value} {g : GS} {M' : MI} {R' : Room} {v1 : Value} {idx : Nat} {P : Int32 → GS → Prop} (d : decode M.2.1 pc = .ok (.invokestatic idx, 3)) (hn : pc + 3 = nx) (hml : ML M' 1) (hlk : Cond.methodLink M.1.cls idx M'.1 ∈ TT) (hst : Cond.static M'.1 ∈ TT) (hroom : R'.frames + 1 ≤ R.frames ∧ 8 + (M'.2.2.1 + 11) + R'.locals ≤ R.locals) (hcat : (rest.map fun v => v.category).sum ≤ 8) (hz : R'.cells = 0 ∧ R'.slots = 0) (hct : Ct M' R' [v1] (Wd g) (RXi P)) (h : ∀ (x : Int32) (g1 : GS), P x g1 → J M R Q n0 nx L (.int x :: rest) (Wd g1) 0 0) : J M R Q n0 pc L (v1 :: rest) (Wd g) 0 0 :=
  J_callS (As := [v1]) d hn hml hlk hst rfl hroom hcat ⟨by rw [hz.1]; exact Nat.zero_le _, by rw [hz.2]; exact Nat.zero_le _⟩ hct (fun E es' hq => by obtain ⟨v, g1, h1, -⟩ := hq; cases h1) (fun v' es' hq => by
    obtain ⟨v, g1, h1, rfl, hp⟩ := hq
    cases h1
    rw [hz.1, hz.2]
    exact h _ _ hp)
theorem JlS1 {M : MI} {R : Room} {Q : Res → List ME → Prop} {n0 pc nx : Nat} {L : List (Option Value)} {rest : List Value} {g : GS} {M' : MI} {R' : Room} {v1 : Value} {idx : Nat} {P : Int64 → GS → Prop} (d : decode M.2.1 pc = .ok (.invokestatic idx, 3)) (hn : pc + 3 = nx) (hml : ML M' 1) (hlk : Cond.methodLink M.1.cls idx M'.1 ∈ TT) (hst : Cond.static M'.1 ∈ TT) (hroom : R'.frames + 1 ≤ R.frames ∧ 8 + (M'.2.2.1 + 11) + R'.locals ≤ R.locals) (hcat : (rest.map fun v => v.category).sum ≤ 8) (hz : R'.cells = 0 ∧ R'.slots = 0) (hct : Ct M' R' [v1] (Wd g) (RXl P)) (h : ∀ (x : Int64) (g1 : GS), P x g1 → J M R Q n0 nx L (.long x :: rest) (Wd g1) 0 0) : J M R Q n0 pc L (v1 :: rest) (Wd g) 0 0 :=
  J_callS (As := [v1]) d hn hml hlk hst rfl hroom hcat ⟨by rw [hz.1]; exact Nat.zero_le _, by rw [hz.2]; exact Nat.zero_le _⟩ hct (fun E es' hq => by obtain ⟨v, g1, h1, -⟩ := hq; cases h1) (fun v' es' hq => by
    obtain ⟨v, g1, h1, rfl, hp⟩ := hq
    cases h1
    rw [hz.1, hz.2]
    exact h _ _ hp)
theorem JvS1 {M : MI} {R : Room} {Q : Res → List ME → Prop} {n0 pc nx : Nat} {L : List (Option Value)} {rest : List Value} {g : GS} {M' : MI} {R' : Room} {v1 : Value} {idx : Nat} {P : GS → Prop} (d : decode M.2.1 pc = .ok (.invokestatic idx, 3)) (hn : pc + 3 = nx) (hml : ML M' 1) (hlk : Cond.methodLink M.1.cls idx M'.1 ∈ TT) (hst : Cond.static M'.1 ∈ TT) (hroom : R'.frames + 1 ≤ R.frames ∧ 8 + (M'.2.2.1 + 11) + R'.locals ≤ R.locals) (hcat : (rest.map fun v => v.category).sum ≤ 8) (hz : R'.cells = 0 ∧ R'.slots = 0) (hct : Ct M' R' [v1] (Wd g) (RXv P)) (h : ∀ (g1 : GS), P g1 → J M R Q n0 nx L (rest) (Wd g1) 0 0) : J M R Q n0 pc L (v1 :: rest) (Wd g) 0 0 :=
  J_callS (As := [v1]) d hn hml hlk hst rfl hroom hcat ⟨by rw [hz.1]; exact Nat.zero_le _, by rw [hz.2]; exact Nat.zero_le _⟩ hct (fun E es' hq => by obtain ⟨g1, h1, -⟩ := hq; cases h1) (fun v' es' hq => by
    obtain ⟨g1, h1, rfl, hp⟩ := hq
    cases h1
    rw [hz.1, hz.2]
    exact h _ hp)
theorem JiV1 {M : MI} {R : Room} {Q : Res → List ME → Prop} {n0 pc nx : Nat} {L : List (Option Value)} {rest : List Value} {g : GS} {M' : MI} {R' : Room} {v1 : Value} {b : Nat} {idx : Nat} {P : Int32 → GS → Prop} (d : decode M.2.1 pc = .ok (.invokevirtual idx, 3)) (hn : pc + 3 = nx) (hml : ML M' 1) (hlk : Cond.methodLink M.1.cls idx M'.1 ∈ TT) (hins : Cond.instanceMethod M'.1 ∈ TT ∧ Cond.selects M'.1.cls M'.1 M'.1 ∈ TT) {T : u_T} {N ci : Nat} (hcl : vwCl[ci]? = some (M'.1.cls, T, N)) {fs : List Value} (he : (Wd g)[b]? = some (.inr (ci, fs))) (hroom : R'.frames + 1 ≤ R.frames ∧ 8 + (M'.2.2.1 + 11) + R'.locals ≤ R.locals) (hcat : (rest.map fun v => v.category).sum ≤ 8) (hz : R'.cells = 0 ∧ R'.slots = 0) (hct : Ct M' R' (.ref b :: [v1]) (Wd g) (RXi P)) (h : ∀ (x : Int32) (g1 : GS), P x g1 → J M R Q n0 nx L (.int x :: rest) (Wd g1) 0 0) : J M R Q n0 pc L (v1 :: .ref b :: rest) (Wd g) 0 0 :=
  J_callV (b := b) (As := [v1]) d hn hml hlk hins hcl he rfl hroom hcat ⟨by rw [hz.1]; exact Nat.zero_le _, by rw [hz.2]; exact Nat.zero_le _⟩ hct (fun E es' hq => by obtain ⟨v, g1, h1, -⟩ := hq; cases h1) (fun v' es' hq => by
    obtain ⟨v, g1, h1, rfl, hp⟩ := hq
    cases h1
    rw [hz.1, hz.2]
    exact h _ _ hp)
theorem JlV1 {M : MI} {R : Room} {Q : Res → List ME → Prop} {n0 pc nx : Nat} {L : List (Option Value)} {rest : List Value} {g : GS} {M' : MI} {R' : Room} {v1 : Value} {b : Nat} {idx : Nat} {P : Int64 → GS → Prop} (d : decode M.2.1 pc = .ok (.invokevirtual idx, 3)) (hn : pc + 3 = nx) (hml : ML M' 1) (hlk : Cond.methodLink M.1.cls idx M'.1 ∈ TT) (hins : Cond.instanceMethod M'.1 ∈ TT ∧ Cond.selects M'.1.cls M'.1 M'.1 ∈ TT) {T : u_T} {N ci : Nat} (hcl : vwCl[ci]? = some (M'.1.cls, T, N)) {fs : List Value} (he : (Wd g)[b]? = some (.inr (ci, fs))) (hroom : R'.frames + 1 ≤ R.frames ∧ 8 + (M'.2.2.1 + 11) + R'.locals ≤ R.locals) (hcat : (rest.map fun v => v.category).sum ≤ 8) (hz : R'.cells = 0 ∧ R'.slots = 0) (hct : Ct M' R' (.ref b :: [v1]) (Wd g) (RXl P)) (h : ∀ (x : Int64) (g1 : GS), P x g1 → J M R Q n0 nx L (.long x :: rest) (Wd g1) 0 0) : J M R Q n0 pc L (v1 :: .ref b :: rest) (Wd g) 0 0 :=
  J_callV (b := b) (As := [v1]) d hn hml hlk hins hcl he rfl hroom hcat ⟨by rw [hz.1]; exact Nat.zero_le _, by rw [hz.2]; exact Nat.zero_le _⟩ hct (fun E es' hq => by obtain ⟨v, g1, h1, -⟩ := hq; cases h1) (fun v' es' hq => by
    obtain ⟨v, g1, h1, rfl, hp⟩ := hq
    cases h1
    rw [hz.1, hz.2]
    exact h _ _ hp)
theorem JvV1 {M : MI} {R : Room} {Q : Res → List ME → Prop} {n0 pc nx : Nat} {L : List (Option Value)} {rest : List Value} {g : GS} {M' : MI} {R' : Room} {v1 : Value} {b : Nat} {idx : Nat} {P : GS → Prop} (d : decode M.2.1 pc = .ok (.invokevirtual idx, 3)) (hn : pc + 3 = nx) (hml : ML M' 1) (hlk : Cond.methodLink M.1.cls idx M'.1 ∈ TT) (hins : Cond.instanceMethod M'.1 ∈ TT ∧ Cond.selects M'.1.cls M'.1 M'.1 ∈ TT) {T : u_T} {N ci : Nat} (hcl : vwCl[ci]? = some (M'.1.cls, T, N)) {fs : List Value} (he : (Wd g)[b]? = some (.inr (ci, fs))) (hroom : R'.frames + 1 ≤ R.frames ∧ 8 + (M'.2.2.1 + 11) + R'.locals ≤ R.locals) (hcat : (rest.map fun v => v.category).sum ≤ 8) (hz : R'.cells = 0 ∧ R'.slots = 0) (hct : Ct M' R' (.ref b :: [v1]) (Wd g) (RXv P)) (h : ∀ (g1 : GS), P g1 → J M R Q n0 nx L (rest) (Wd g1) 0 0) : J M R Q n0 pc L (v1 :: .ref b :: rest) (Wd g) 0 0 :=
  J_callV (b := b) (As := [v1]) d hn hml hlk hins hcl he rfl hroom hcat ⟨by rw [hz.1]; exact Nat.zero_le _, by rw [hz.2]; exact Nat.zero_le _⟩ hct (fun E es' hq => by obtain ⟨g1, h1, -⟩ := hq; cases h1) (fun v' es' hq => by
    obtain ⟨g1, h1, rfl, hp⟩ := hq
    cases h1
    rw [hz.1, hz.2]
    exact h _ hp)
theorem JiS2 {M : MI} {R : Room} {Q : Res → List ME → Prop} {n0 pc nx : Nat} {L : List (Option Value)} {rest : List Value} {g : GS} {M' : MI} {R' : Room} {v1 v2 : Value} {idx : Nat} {P : Int32 → GS → Prop} (d : decode M.2.1 pc = .ok (.invokestatic idx, 3)) (hn : pc + 3 = nx) (hml : ML M' 2) (hlk : Cond.methodLink M.1.cls idx M'.1 ∈ TT) (hst : Cond.static M'.1 ∈ TT) (hroom : R'.frames + 1 ≤ R.frames ∧ 8 + (M'.2.2.1 + 11) + R'.locals ≤ R.locals) (hcat : (rest.map fun v => v.category).sum ≤ 8) (hz : R'.cells = 0 ∧ R'.slots = 0) (hct : Ct M' R' [v1, v2] (Wd g) (RXi P)) (h : ∀ (x : Int32) (g1 : GS), P x g1 → J M R Q n0 nx L (.int x :: rest) (Wd g1) 0 0) : J M R Q n0 pc L (v2 :: v1 :: rest) (Wd g) 0 0 :=
  J_callS (As := [v1, v2]) d hn hml hlk hst rfl hroom hcat ⟨by rw [hz.1]; exact Nat.zero_le _, by rw [hz.2]; exact Nat.zero_le _⟩ hct (fun E es' hq => by obtain ⟨v, g1, h1, -⟩ := hq; cases h1) (fun v' es' hq => by
    obtain ⟨v, g1, h1, rfl, hp⟩ := hq
    cases h1
    rw [hz.1, hz.2]
    exact h _ _ hp)
theorem JlS2 {M : MI} {R : Room} {Q : Res → List ME → Prop} {n0 pc nx : Nat} {L : List (Option Value)} {rest : List Value} {g : GS} {M' : MI} {R' : Room} {v1 v2 : Value} {idx : Nat} {P : Int64 → GS → Prop} (d : decode M.2.1 pc = .ok (.invokestatic idx, 3)) (hn : pc + 3 = nx) (hml : ML M' 2) (hlk : Cond.methodLink M.1.cls idx M'.1 ∈ TT) (hst : Cond.static M'.1 ∈ TT) (hroom : R'.frames + 1 ≤ R.frames ∧ 8 + (M'.2.2.1 + 11) + R'.locals ≤ R.locals) (hcat : (rest.map fun v => v.category).sum ≤ 8) (hz : R'.cells = 0 ∧ R'.slots = 0) (hct : Ct M' R' [v1, v2] (Wd g) (RXl P)) (h : ∀ (x : Int64) (g1 : GS), P x g1 → J M R Q n0 nx L (.long x :: rest) (Wd g1) 0 0) : J M R Q n0 pc L (v2 :: v1 :: rest) (Wd g) 0 0 :=
  J_callS (As := [v1, v2]) d hn hml hlk hst rfl hroom hcat ⟨by rw [hz.1]; exact Nat.zero_le _, by rw [hz.2]; exact Nat.zero_le _⟩ hct (fun E es' hq => by obtain ⟨v, g1, h1, -⟩ := hq; cases h1) (fun v' es' hq => by
    obtain ⟨v, g1, h1, rfl, hp⟩ := hq
    cases h1
    rw [hz.1, hz.2]
    exact h _ _ hp)
theorem JvS2 {M : MI} {R : Room} {Q : Res → List ME → Prop} {n0 pc nx : Nat} {L : List (Option Value)} {rest : List Value} {g : GS} {M' : MI} {R' : Room} {v1 v2 : Value} {idx : Nat} {P : GS → Prop} (d : decode M.2.1 pc = .ok (.invokestatic idx, 3)) (hn : pc + 3 = nx) (hml : ML M' 2) (hlk : Cond.methodLink M.1.cls idx M'.1 ∈ TT) (hst : Cond.static M'.1 ∈ TT) (hroom : R'.frames + 1 ≤ R.frames ∧ 8 + (M'.2.2.1 + 11) + R'.locals ≤ R.locals) (hcat : (rest.map fun v => v.category).sum ≤ 8) (hz : R'.cells = 0 ∧ R'.slots = 0) (hct : Ct M' R' [v1, v2] (Wd g) (RXv P)) (h : ∀ (g1 : GS), P g1 → J M R Q n0 nx L (rest) (Wd g1) 0 0) : J M R Q n0 pc L (v2 :: v1 :: rest) (Wd g) 0 0 :=
  J_callS (As := [v1, v2]) d hn hml hlk hst rfl hroom hcat ⟨by rw [hz.1]; exact Nat.zero_le _, by rw [hz.2]; exact Nat.zero_le _⟩ hct (fun E es' hq => by obtain ⟨g1, h1, -⟩ := hq; cases h1) (fun v' es' hq => by
    obtain ⟨g1, h1, rfl, hp⟩ := hq
    cases h1
    rw [hz.1, hz.2]
    exact h _ hp)
theorem JiV2 {M : MI} {R : Room} {Q : Res → List ME → Prop} {n0 pc nx : Nat} {L : List (Option Value)} {rest : List Value} {g : GS} {M' : MI} {R' : Room} {v1 v2 : Value} {b : Nat} {idx : Nat} {P : Int32 → GS → Prop} (d : decode M.2.1 pc = .ok (.invokevirtual idx, 3)) (hn : pc + 3 = nx) (hml : ML M' 2) (hlk : Cond.methodLink M.1.cls idx M'.1 ∈ TT) (hins : Cond.instanceMethod M'.1 ∈ TT ∧ Cond.selects M'.1.cls M'.1 M'.1 ∈ TT) {T : u_T} {N ci : Nat} (hcl : vwCl[ci]? = some (M'.1.cls, T, N)) {fs : List Value} (he : (Wd g)[b]? = some (.inr (ci, fs))) (hroom : R'.frames + 1 ≤ R.frames ∧ 8 + (M'.2.2.1 + 11) + R'.locals ≤ R.locals) (hcat : (rest.map fun v => v.category).sum ≤ 8) (hz : R'.cells = 0 ∧ R'.slots = 0) (hct : Ct M' R' (.ref b :: [v1, v2]) (Wd g) (RXi P)) (h : ∀ (x : Int32) (g1 : GS), P x g1 → J M R Q n0 nx L (.int x :: rest) (Wd g1) 0 0) : J M R Q n0 pc L (v2 :: v1 :: .ref b :: rest) (Wd g) 0 0 :=
  J_callV (b := b) (As := [v1, v2]) d hn hml hlk hins hcl he rfl hroom hcat ⟨by rw [hz.1]; exact Nat.zero_le _, by rw [hz.2]; exact Nat.zero_le _⟩ hct (fun E es' hq => by obtain ⟨v, g1, h1, -⟩ := hq; cases h1) (fun v' es' hq => by
    obtain ⟨v, g1, h1, rfl, hp⟩ := hq
    cases h1
    rw [hz.1, hz.2]
    exact h _ _ hp)
theorem JlV2 {M : MI} {R : Room} {Q : Res → List ME → Prop} {n0 pc nx : Nat} {L : List (Option Value)} {rest : List Value} {g : GS} {M' : MI} {R' : Room} {v1 v2 : Value} {b : Nat} {idx : Nat} {P : Int64 → GS → Prop} (d : decode M.2.1 pc = .ok (.invokevirtual idx, 3)) (hn : pc + 3 = nx) (hml : ML M' 2) (hlk : Cond.methodLink M.1.cls idx M'.1 ∈ TT) (hins : Cond.instanceMethod M'.1 ∈ TT ∧ Cond.selects M'.1.cls M'.1 M'.1 ∈ TT) {T : u_T} {N ci : Nat} (hcl : vwCl[ci]? = some (M'.1.cls, T, N)) {fs : List Value} (he : (Wd g)[b]? = some (.inr (ci, fs))) (hroom : R'.frames + 1 ≤ R.frames ∧ 8 + (M'.2.2.1 + 11) + R'.locals ≤ R.locals) (hcat : (rest.map fun v => v.category).sum ≤ 8) (hz : R'.cells = 0 ∧ R'.slots = 0) (hct : Ct M' R' (.ref b :: [v1, v2]) (Wd g) (RXl P)) (h : ∀ (x : Int64) (g1 : GS), P x g1 → J M R Q n0 nx L (.long x :: rest) (Wd g1) 0 0) : J M R Q n0 pc L (v2 :: v1 :: .ref b :: rest) (Wd g) 0 0 :=
  J_callV (b := b) (As := [v1, v2]) d hn hml hlk hins hcl he rfl hroom hcat ⟨by rw [hz.1]; exact Nat.zero_le _, by rw [hz.2]; exact Nat.zero_le _⟩ hct (fun E es' hq => by obtain ⟨v, g1, h1, -⟩ := hq; cases h1) (fun v' es' hq => by
    obtain ⟨v, g1, h1, rfl, hp⟩ := hq
    cases h1
    rw [hz.1, hz.2]
    exact h _ _ hp)
theorem JvV2 {M : MI} {R : Room} {Q : Res → List ME → Prop} {n0 pc nx : Nat} {L : List (Option Value)} {rest : List Value} {g : GS} {M' : MI} {R' : Room} {v1 v2 : Value} {b : Nat} {idx : Nat} {P : GS → Prop} (d : decode M.2.1 pc = .ok (.invokevirtual idx, 3)) (hn : pc + 3 = nx) (hml : ML M' 2) (hlk : Cond.methodLink M.1.cls idx M'.1 ∈ TT) (hins : Cond.instanceMethod M'.1 ∈ TT ∧ Cond.selects M'.1.cls M'.1 M'.1 ∈ TT) {T : u_T} {N ci : Nat} (hcl : vwCl[ci]? = some (M'.1.cls, T, N)) {fs : List Value} (he : (Wd g)[b]? = some (.inr (ci, fs))) (hroom : R'.frames + 1 ≤ R.frames ∧ 8 + (M'.2.2.1 + 11) + R'.locals ≤ R.locals) (hcat : (rest.map fun v => v.category).sum ≤ 8) (hz : R'.cells = 0 ∧ R'.slots = 0) (hct : Ct M' R' (.ref b :: [v1, v2]) (Wd g) (RXv P)) (h : ∀ (g1 : GS), P g1 → J M R Q n0 nx L (rest) (Wd g1) 0 0) : J M R Q n0 pc L (v2 :: v1 :: .ref b :: rest) (Wd g) 0 0 :=
  J_callV (b := b) (As := [v1, v2]) d hn hml hlk hins hcl he rfl hroom hcat ⟨by rw [hz.1]; exact Nat.zero_le _, by rw [hz.2]; exact Nat.zero_le _⟩ hct (fun E es' hq => by obtain ⟨g1, h1, -⟩ := hq; cases h1) (fun v' es' hq => by
    obtain ⟨g1, h1, rfl, hp⟩ := hq
    cases h1
    rw [hz.1, hz.2]
    exact h _ hp)
theorem JiS3 {M : MI} {R : Room} {Q : Res → List ME → Prop} {n0 pc nx : Nat} {L : List (Option Value)} {rest : List Value} {g : GS} {M' : MI} {R' : Room} {v1 v2 v3 : Value} {idx : Nat} {P : Int32 → GS → Prop} (d : decode M.2.1 pc = .ok (.invokestatic idx, 3)) (hn : pc + 3 = nx) (hml : ML M' 3) (hlk : Cond.methodLink M.1.cls idx M'.1 ∈ TT) (hst : Cond.static M'.1 ∈ TT) (hroom : R'.frames + 1 ≤ R.frames ∧ 8 + (M'.2.2.1 + 11) + R'.locals ≤ R.locals) (hcat : (rest.map fun v => v.category).sum ≤ 8) (hz : R'.cells = 0 ∧ R'.slots = 0) (hct : Ct M' R' [v1, v2, v3] (Wd g) (RXi P)) (h : ∀ (x : Int32) (g1 : GS), P x g1 → J M R Q n0 nx L (.int x :: rest) (Wd g1) 0 0) : J M R Q n0 pc L (v3 :: v2 :: v1 :: rest) (Wd g) 0 0 :=
  J_callS (As := [v1, v2, v3]) d hn hml hlk hst rfl hroom hcat ⟨by rw [hz.1]; exact Nat.zero_le _, by rw [hz.2]; exact Nat.zero_le _⟩ hct (fun E es' hq => by obtain ⟨v, g1, h1, -⟩ := hq; cases h1) (fun v' es' hq => by
    obtain ⟨v, g1, h1, rfl, hp⟩ := hq
    cases h1
    rw [hz.1, hz.2]
    exact h _ _ hp)
theorem JlS3 {M : MI} {R : Room} {Q : Res → List ME → Prop} {n0 pc nx : Nat} {L : List (Option Value)} {rest : List Value} {g : GS} {M' : MI} {R' : Room} {v1 v2 v3 : Value} {idx : Nat} {P : Int64 → GS → Prop} (d : decode M.2.1 pc = .ok (.invokestatic idx, 3)) (hn : pc + 3 = nx) (hml : ML M' 3) (hlk : Cond.methodLink M.1.cls idx M'.1 ∈ TT) (hst : Cond.static M'.1 ∈ TT) (hroom : R'.frames + 1 ≤ R.frames ∧ 8 + (M'.2.2.1 + 11) + R'.locals ≤ R.locals) (hcat : (rest.map fun v => v.category).sum ≤ 8) (hz : R'.cells = 0 ∧ R'.slots = 0) (hct : Ct M' R' [v1, v2, v3] (Wd g) (RXl P)) (h : ∀ (x : Int64) (g1 : GS), P x g1 → J M R Q n0 nx L (.long x :: rest) (Wd g1) 0 0) : J M R Q n0 pc L (v3 :: v2 :: v1 :: rest) (Wd g) 0 0 :=
  J_callS (As := [v1, v2, v3]) d hn hml hlk hst rfl hroom hcat ⟨by rw [hz.1]; exact Nat.zero_le _, by rw [hz.2]; exact Nat.zero_le _⟩ hct (fun E es' hq => by obtain ⟨v, g1, h1, -⟩ := hq; cases h1) (fun v' es' hq => by
    obtain ⟨v, g1, h1, rfl, hp⟩ := hq
    cases h1
    rw [hz.1, hz.2]
    exact h _ _ hp)
theorem JvS3 {M : MI} {R : Room} {Q : Res → List ME → Prop} {n0 pc nx : Nat} {L : List (Option Value)} {rest : List Value} {g : GS} {M' : MI} {R' : Room} {v1 v2 v3 : Value} {idx : Nat} {P : GS → Prop} (d : decode M.2.1 pc = .ok (.invokestatic idx, 3)) (hn : pc + 3 = nx) (hml : ML M' 3) (hlk : Cond.methodLink M.1.cls idx M'.1 ∈ TT) (hst : Cond.static M'.1 ∈ TT) (hroom : R'.frames + 1 ≤ R.frames ∧ 8 + (M'.2.2.1 + 11) + R'.locals ≤ R.locals) (hcat : (rest.map fun v => v.category).sum ≤ 8) (hz : R'.cells = 0 ∧ R'.slots = 0) (hct : Ct M' R' [v1, v2, v3] (Wd g) (RXv P)) (h : ∀ (g1 : GS), P g1 → J M R Q n0 nx L (rest) (Wd g1) 0 0) : J M R Q n0 pc L (v3 :: v2 :: v1 :: rest) (Wd g) 0 0 :=
  J_callS (As := [v1, v2, v3]) d hn hml hlk hst rfl hroom hcat ⟨by rw [hz.1]; exact Nat.zero_le _, by rw [hz.2]; exact Nat.zero_le _⟩ hct (fun E es' hq => by obtain ⟨g1, h1, -⟩ := hq; cases h1) (fun v' es' hq => by
    obtain ⟨g1, h1, rfl, hp⟩ := hq
    cases h1
    rw [hz.1, hz.2]
    exact h _ hp)
theorem JiV3 {M : MI} {R : Room} {Q : Res → List ME → Prop} {n0 pc nx : Nat} {L : List (Option Value)} {rest : List Value} {g : GS} {M' : MI} {R' : Room} {v1 v2 v3 : Value} {b : Nat} {idx : Nat} {P : Int32 → GS → Prop} (d : decode M.2.1 pc = .ok (.invokevirtual idx, 3)) (hn : pc + 3 = nx) (hml : ML M' 3) (hlk : Cond.methodLink M.1.cls idx M'.1 ∈ TT) (hins : Cond.instanceMethod M'.1 ∈ TT ∧ Cond.selects M'.1.cls M'.1 M'.1 ∈ TT) {T : u_T} {N ci : Nat} (hcl : vwCl[ci]? = some (M'.1.cls, T, N)) {fs : List Value} (he : (Wd g)[b]? = some (.inr (ci, fs))) (hroom : R'.frames + 1 ≤ R.frames ∧ 8 + (M'.2.2.1 + 11) + R'.locals ≤ R.locals) (hcat : (rest.map fun v => v.category).sum ≤ 8) (hz : R'.cells = 0 ∧ R'.slots = 0) (hct : Ct M' R' (.ref b :: [v1, v2, v3]) (Wd g) (RXi P)) (h : ∀ (x : Int32) (g1 : GS), P x g1 → J M R Q n0 nx L (.int x :: rest) (Wd g1) 0 0) : J M R Q n0 pc L (v3 :: v2 :: v1 :: .ref b :: rest) (Wd g) 0 0 :=
  J_callV (b := b) (As := [v1, v2, v3]) d hn hml hlk hins hcl he rfl hroom hcat ⟨by rw [hz.1]; exact Nat.zero_le _, by rw [hz.2]; exact Nat.zero_le _⟩ hct (fun E es' hq => by obtain ⟨v, g1, h1, -⟩ := hq; cases h1) (fun v' es' hq => by
    obtain ⟨v, g1, h1, rfl, hp⟩ := hq
    cases h1
    rw [hz.1, hz.2]
    exact h _ _ hp)
theorem JlV3 {M : MI} {R : Room} {Q : Res → List ME → Prop} {n0 pc nx : Nat} {L : List (Option Value)} {rest : List Value} {g : GS} {M' : MI} {R' : Room} {v1 v2 v3 : Value} {b : Nat} {idx : Nat} {P : Int64 → GS → Prop} (d : decode M.2.1 pc = .ok (.invokevirtual idx, 3)) (hn : pc + 3 = nx) (hml : ML M' 3) (hlk : Cond.methodLink M.1.cls idx M'.1 ∈ TT) (hins : Cond.instanceMethod M'.1 ∈ TT ∧ Cond.selects M'.1.cls M'.1 M'.1 ∈ TT) {T : u_T} {N ci : Nat} (hcl : vwCl[ci]? = some (M'.1.cls, T, N)) {fs : List Value} (he : (Wd g)[b]? = some (.inr (ci, fs))) (hroom : R'.frames + 1 ≤ R.frames ∧ 8 + (M'.2.2.1 + 11) + R'.locals ≤ R.locals) (hcat : (rest.map fun v => v.category).sum ≤ 8) (hz : R'.cells = 0 ∧ R'.slots = 0) (hct : Ct M' R' (.ref b :: [v1, v2, v3]) (Wd g) (RXl P)) (h : ∀ (x : Int64) (g1 : GS), P x g1 → J M R Q n0 nx L (.long x :: rest) (Wd g1) 0 0) : J M R Q n0 pc L (v3 :: v2 :: v1 :: .ref b :: rest) (Wd g) 0 0 :=
  J_callV (b := b) (As := [v1, v2, v3]) d hn hml hlk hins hcl he rfl hroom hcat ⟨by rw [hz.1]; exact Nat.zero_le _, by rw [hz.2]; exact Nat.zero_le _⟩ hct (fun E es' hq => by obtain ⟨v, g1, h1, -⟩ := hq; cases h1) (fun v' es' hq => by
    obtain ⟨v, g1, h1, rfl, hp⟩ := hq
    cases h1
    rw [hz.1, hz.2]
    exact h _ _ hp)
theorem JvV3 {M : MI} {R : Room} {Q : Res → List ME → Prop} {n0 pc nx : Nat} {L : List (Option Value)} {rest : List Value} {g : GS} {M' : MI} {R' : Room} {v1 v2 v3 : Value} {b : Nat} {idx : Nat} {P : GS → Prop} (d : decode M.2.1 pc = .ok (.invokevirtual idx, 3)) (hn : pc + 3 = nx) (hml : ML M' 3) (hlk : Cond.methodLink M.1.cls idx M'.1 ∈ TT) (hins : Cond.instanceMethod M'.1 ∈ TT ∧ Cond.selects M'.1.cls M'.1 M'.1 ∈ TT) {T : u_T} {N ci : Nat} (hcl : vwCl[ci]? = some (M'.1.cls, T, N)) {fs : List Value} (he : (Wd g)[b]? = some (.inr (ci, fs))) (hroom : R'.frames + 1 ≤ R.frames ∧ 8 + (M'.2.2.1 + 11) + R'.locals ≤ R.locals) (hcat : (rest.map fun v => v.category).sum ≤ 8) (hz : R'.cells = 0 ∧ R'.slots = 0) (hct : Ct M' R' (.ref b :: [v1, v2, v3]) (Wd g) (RXv P)) (h : ∀ (g1 : GS), P g1 → J M R Q n0 nx L (rest) (Wd g1) 0 0) : J M R Q n0 pc L (v3 :: v2 :: v1 :: .ref b :: rest) (Wd g) 0 0 :=
  J_callV (b := b) (As := [v1, v2, v3]) d hn hml hlk hins hcl he rfl hroom hcat ⟨by rw [hz.1]; exact Nat.zero_le _, by rw [hz.2]; exact Nat.zero_le _⟩ hct (fun E es' hq => by obtain ⟨g1, h1, -⟩ := hq; cases h1) (fun v' es' hq => by
    obtain ⟨g1, h1, rfl, hp⟩ := hq
    cases h1
    rw [hz.1, hz.2]
    exact h _ hp)
theorem JiS4 {M : MI} {R : Room} {Q : Res → List ME → Prop} {n0 pc nx : Nat} {L : List (Option Value)} {rest : List Value} {g : GS} {M' : MI} {R' : Room} {v1 v2 v3 v4 : Value} {idx : Nat} {P : Int32 → GS → Prop} (d : decode M.2.1 pc = .ok (.invokestatic idx, 3)) (hn : pc + 3 = nx) (hml : ML M' 4) (hlk : Cond.methodLink M.1.cls idx M'.1 ∈ TT) (hst : Cond.static M'.1 ∈ TT) (hroom : R'.frames + 1 ≤ R.frames ∧ 8 + (M'.2.2.1 + 11) + R'.locals ≤ R.locals) (hcat : (rest.map fun v => v.category).sum ≤ 8) (hz : R'.cells = 0 ∧ R'.slots = 0) (hct : Ct M' R' [v1, v2, v3, v4] (Wd g) (RXi P)) (h : ∀ (x : Int32) (g1 : GS), P x g1 → J M R Q n0 nx L (.int x :: rest) (Wd g1) 0 0) : J M R Q n0 pc L (v4 :: v3 :: v2 :: v1 :: rest) (Wd g) 0 0 :=
  J_callS (As := [v1, v2, v3, v4]) d hn hml hlk hst rfl hroom hcat ⟨by rw [hz.1]; exact Nat.zero_le _, by rw [hz.2]; exact Nat.zero_le _⟩ hct (fun E es' hq => by obtain ⟨v, g1, h1, -⟩ := hq; cases h1) (fun v' es' hq => by
    obtain ⟨v, g1, h1, rfl, hp⟩ := hq
    cases h1
    rw [hz.1, hz.2]
    exact h _ _ hp)
theorem JlS4 {M : MI} {R : Room} {Q : Res → List ME → Prop} {n0 pc nx : Nat} {L : List (Option Value)} {rest : List Value} {g : GS} {M' : MI} {R' : Room} {v1 v2 v3 v4 : Value} {idx : Nat} {P : Int64 → GS → Prop} (d : decode M.2.1 pc = .ok (.invokestatic idx, 3)) (hn : pc + 3 = nx) (hml : ML M' 4) (hlk : Cond.methodLink M.1.cls idx M'.1 ∈ TT) (hst : Cond.static M'.1 ∈ TT) (hroom : R'.frames + 1 ≤ R.frames ∧ 8 + (M'.2.2.1 + 11) + R'.locals ≤ R.locals) (hcat : (rest.map fun v => v.category).sum ≤ 8) (hz : R'.cells = 0 ∧ R'.slots = 0) (hct : Ct M' R' [v1, v2, v3, v4] (Wd g) (RXl P)) (h : ∀ (x : Int64) (g1 : GS), P x g1 → J M R Q n0 nx L (.long x :: rest) (Wd g1) 0 0) : J M R Q n0 pc L (v4 :: v3 :: v2 :: v1 :: rest) (Wd g) 0 0 :=
  J_callS (As := [v1, v2, v3, v4]) d hn hml hlk hst rfl hroom hcat ⟨by rw [hz.1]; exact Nat.zero_le _, by rw [hz.2]; exact Nat.zero_le _⟩ hct (fun E es' hq => by obtain ⟨v, g1, h1, -⟩ := hq; cases h1) (fun v' es' hq => by
    obtain ⟨v, g1, h1, rfl, hp⟩ := hq
    cases h1
    rw [hz.1, hz.2]
    exact h _ _ hp)
theorem JvS4 {M : MI} {R : Room} {Q : Res → List ME → Prop} {n0 pc nx : Nat} {L : List (Option Value)} {rest : List Value} {g : GS} {M' : MI} {R' : Room} {v1 v2 v3 v4 : Value} {idx : Nat} {P : GS → Prop} (d : decode M.2.1 pc = .ok (.invokestatic idx, 3)) (hn : pc + 3 = nx) (hml : ML M' 4) (hlk : Cond.methodLink M.1.cls idx M'.1 ∈ TT) (hst : Cond.static M'.1 ∈ TT) (hroom : R'.frames + 1 ≤ R.frames ∧ 8 + (M'.2.2.1 + 11) + R'.locals ≤ R.locals) (hcat : (rest.map fun v => v.category).sum ≤ 8) (hz : R'.cells = 0 ∧ R'.slots = 0) (hct : Ct M' R' [v1, v2, v3, v4] (Wd g) (RXv P)) (h : ∀ (g1 : GS), P g1 → J M R Q n0 nx L (rest) (Wd g1) 0 0) : J M R Q n0 pc L (v4 :: v3 :: v2 :: v1 :: rest) (Wd g) 0 0 :=
  J_callS (As := [v1, v2, v3, v4]) d hn hml hlk hst rfl hroom hcat ⟨by rw [hz.1]; exact Nat.zero_le _, by rw [hz.2]; exact Nat.zero_le _⟩ hct (fun E es' hq => by obtain ⟨g1, h1, -⟩ := hq; cases h1) (fun v' es' hq => by
    obtain ⟨g1, h1, rfl, hp⟩ := hq
    cases h1
    rw [hz.1, hz.2]
    exact h _ hp)
theorem JiV4 {M : MI} {R : Room} {Q : Res → List ME → Prop} {n0 pc nx : Nat} {L : List (Option Value)} {rest : List Value} {g : GS} {M' : MI} {R' : Room} {v1 v2 v3 v4 : Value} {b : Nat} {idx : Nat} {P : Int32 → GS → Prop} (d : decode M.2.1 pc = .ok (.invokevirtual idx, 3)) (hn : pc + 3 = nx) (hml : ML M' 4) (hlk : Cond.methodLink M.1.cls idx M'.1 ∈ TT) (hins : Cond.instanceMethod M'.1 ∈ TT ∧ Cond.selects M'.1.cls M'.1 M'.1 ∈ TT) {T : u_T} {N ci : Nat} (hcl : vwCl[ci]? = some (M'.1.cls, T, N)) {fs : List Value} (he : (Wd g)[b]? = some (.inr (ci, fs))) (hroom : R'.frames + 1 ≤ R.frames ∧ 8 + (M'.2.2.1 + 11) + R'.locals ≤ R.locals) (hcat : (rest.map fun v => v.category).sum ≤ 8) (hz : R'.cells = 0 ∧ R'.slots = 0) (hct : Ct M' R' (.ref b :: [v1, v2, v3, v4]) (Wd g) (RXi P)) (h : ∀ (x : Int32) (g1 : GS), P x g1 → J M R Q n0 nx L (.int x :: rest) (Wd g1) 0 0) : J M R Q n0 pc L (v4 :: v3 :: v2 :: v1 :: .ref b :: rest) (Wd g) 0 0 :=
  J_callV (b := b) (As := [v1, v2, v3, v4]) d hn hml hlk hins hcl he rfl hroom hcat ⟨by rw [hz.1]; exact Nat.zero_le _, by rw [hz.2]; exact Nat.zero_le _⟩ hct (fun E es' hq => by obtain ⟨v, g1, h1, -⟩ := hq; cases h1) (fun v' es' hq => by
    obtain ⟨v, g1, h1, rfl, hp⟩ := hq
    cases h1
    rw [hz.1, hz.2]
    exact h _ _ hp)
theorem JlV4 {M : MI} {R : Room} {Q : Res → List ME → Prop} {n0 pc nx : Nat} {L : List (Option Value)} {rest : List Value} {g : GS} {M' : MI} {R' : Room} {v1 v2 v3 v4 : Value} {b : Nat} {idx : Nat} {P : Int64 → GS → Prop} (d : decode M.2.1 pc = .ok (.invokevirtual idx, 3)) (hn : pc + 3 = nx) (hml : ML M' 4) (hlk : Cond.methodLink M.1.cls idx M'.1 ∈ TT) (hins : Cond.instanceMethod M'.1 ∈ TT ∧ Cond.selects M'.1.cls M'.1 M'.1 ∈ TT) {T : u_T} {N ci : Nat} (hcl : vwCl[ci]? = some (M'.1.cls, T, N)) {fs : List Value} (he : (Wd g)[b]? = some (.inr (ci, fs))) (hroom : R'.frames + 1 ≤ R.frames ∧ 8 + (M'.2.2.1 + 11) + R'.locals ≤ R.locals) (hcat : (rest.map fun v => v.category).sum ≤ 8) (hz : R'.cells = 0 ∧ R'.slots = 0) (hct : Ct M' R' (.ref b :: [v1, v2, v3, v4]) (Wd g) (RXl P)) (h : ∀ (x : Int64) (g1 : GS), P x g1 → J M R Q n0 nx L (.long x :: rest) (Wd g1) 0 0) : J M R Q n0 pc L (v4 :: v3 :: v2 :: v1 :: .ref b :: rest) (Wd g) 0 0 :=
  J_callV (b := b) (As := [v1, v2, v3, v4]) d hn hml hlk hins hcl he rfl hroom hcat ⟨by rw [hz.1]; exact Nat.zero_le _, by rw [hz.2]; exact Nat.zero_le _⟩ hct (fun E es' hq => by obtain ⟨v, g1, h1, -⟩ := hq; cases h1) (fun v' es' hq => by
    obtain ⟨v, g1, h1, rfl, hp⟩ := hq
    cases h1
    rw [hz.1, hz.2]
    exact h _ _ hp)
theorem JvV4 {M : MI} {R : Room} {Q : Res → List ME → Prop} {n0 pc nx : Nat} {L : List (Option Value)} {rest : List Value} {g : GS} {M' : MI} {R' : Room} {v1 v2 v3 v4 : Value} {b : Nat} {idx : Nat} {P : GS → Prop} (d : decode M.2.1 pc = .ok (.invokevirtual idx, 3)) (hn : pc + 3 = nx) (hml : ML M' 4) (hlk : Cond.methodLink M.1.cls idx M'.1 ∈ TT) (hins : Cond.instanceMethod M'.1 ∈ TT ∧ Cond.selects M'.1.cls M'.1 M'.1 ∈ TT) {T : u_T} {N ci : Nat} (hcl : vwCl[ci]? = some (M'.1.cls, T, N)) {fs : List Value} (he : (Wd g)[b]? = some (.inr (ci, fs))) (hroom : R'.frames + 1 ≤ R.frames ∧ 8 + (M'.2.2.1 + 11) + R'.locals ≤ R.locals) (hcat : (rest.map fun v => v.category).sum ≤ 8) (hz : R'.cells = 0 ∧ R'.slots = 0) (hct : Ct M' R' (.ref b :: [v1, v2, v3, v4]) (Wd g) (RXv P)) (h : ∀ (g1 : GS), P g1 → J M R Q n0 nx L (rest) (Wd g1) 0 0) : J M R Q n0 pc L (v4 :: v3 :: v2 :: v1 :: .ref b :: rest) (Wd g) 0 0 :=
  J_callV (b := b) (As := [v1, v2, v3, v4]) d hn hml hlk hins hcl he rfl hroom hcat ⟨by rw [hz.1]; exact Nat.zero_le _, by rw [hz.2]; exact Nat.zero_le _⟩ hct (fun E es' hq => by obtain ⟨g1, h1, -⟩ := hq; cases h1) (fun v' es' hq => by
    obtain ⟨g1, h1, rfl, hp⟩ := hq
    cases h1
    rw [hz.1, hz.2]
    exact h _ hp)
theorem JiS5 {M : MI} {R : Room} {Q : Res → List ME → Prop} {n0 pc nx : Nat} {L : List (Option Value)} {rest : List Value} {g : GS} {M' : MI} {R' : Room} {v1 v2 v3 v4 v5 : Value} {idx : Nat} {P : Int32 → GS → Prop} (d : decode M.2.1 pc = .ok (.invokestatic idx, 3)) (hn : pc + 3 = nx) (hml : ML M' 5) (hlk : Cond.methodLink M.1.cls idx M'.1 ∈ TT) (hst : Cond.static M'.1 ∈ TT) (hroom : R'.frames + 1 ≤ R.frames ∧ 8 + (M'.2.2.1 + 11) + R'.locals ≤ R.locals) (hcat : (rest.map fun v => v.category).sum ≤ 8) (hz : R'.cells = 0 ∧ R'.slots = 0) (hct : Ct M' R' [v1, v2, v3, v4, v5] (Wd g) (RXi P)) (h : ∀ (x : Int32) (g1 : GS), P x g1 → J M R Q n0 nx L (.int x :: rest) (Wd g1) 0 0) : J M R Q n0 pc L (v5 :: v4 :: v3 :: v2 :: v1 :: rest) (Wd g) 0 0 :=
  J_callS (As := [v1, v2, v3, v4, v5]) d hn hml hlk hst rfl hroom hcat ⟨by rw [hz.1]; exact Nat.zero_le _, by rw [hz.2]; exact Nat.zero_le _⟩ hct (fun E es' hq => by obtain ⟨v, g1, h1, -⟩ := hq; cases h1) (fun v' es' hq => by
    obtain ⟨v, g1, h1, rfl, hp⟩ := hq
    cases h1
    rw [hz.1, hz.2]
    exact h _ _ hp)
theorem JlS5 {M : MI} {R : Room} {Q : Res → List ME → Prop} {n0 pc nx : Nat} {L : List (Option Value)} {rest : List Value} {g : GS} {M' : MI} {R' : Room} {v1 v2 v3 v4 v5 : Value} {idx : Nat} {P : Int64 → GS → Prop} (d : decode M.2.1 pc = .ok (.invokestatic idx, 3)) (hn : pc + 3 = nx) (hml : ML M' 5) (hlk : Cond.methodLink M.1.cls idx M'.1 ∈ TT) (hst : Cond.static M'.1 ∈ TT) (hroom : R'.frames + 1 ≤ R.frames ∧ 8 + (M'.2.2.1 + 11) + R'.locals ≤ R.locals) (hcat : (rest.map fun v => v.category).sum ≤ 8) (hz : R'.cells = 0 ∧ R'.slots = 0) (hct : Ct M' R' [v1, v2, v3, v4, v5] (Wd g) (RXl P)) (h : ∀ (x : Int64) (g1 : GS), P x g1 → J M R Q n0 nx L (.long x :: rest) (Wd g1) 0 0) : J M R Q n0 pc L (v5 :: v4 :: v3 :: v2 :: v1 :: rest) (Wd g) 0 0 :=
  J_callS (As := [v1, v2, v3, v4, v5]) d hn hml hlk hst rfl hroom hcat ⟨by rw [hz.1]; exact Nat.zero_le _, by rw [hz.2]; exact Nat.zero_le _⟩ hct (fun E es' hq => by obtain ⟨v, g1, h1, -⟩ := hq; cases h1) (fun v' es' hq => by
    obtain ⟨v, g1, h1, rfl, hp⟩ := hq
    cases h1
    rw [hz.1, hz.2]
    exact h _ _ hp)
theorem JvS5 {M : MI} {R : Room} {Q : Res → List ME → Prop} {n0 pc nx : Nat} {L : List (Option Value)} {rest : List Value} {g : GS} {M' : MI} {R' : Room} {v1 v2 v3 v4 v5 : Value} {idx : Nat} {P : GS → Prop} (d : decode M.2.1 pc = .ok (.invokestatic idx, 3)) (hn : pc + 3 = nx) (hml : ML M' 5) (hlk : Cond.methodLink M.1.cls idx M'.1 ∈ TT) (hst : Cond.static M'.1 ∈ TT) (hroom : R'.frames + 1 ≤ R.frames ∧ 8 + (M'.2.2.1 + 11) + R'.locals ≤ R.locals) (hcat : (rest.map fun v => v.category).sum ≤ 8) (hz : R'.cells = 0 ∧ R'.slots = 0) (hct : Ct M' R' [v1, v2, v3, v4, v5] (Wd g) (RXv P)) (h : ∀ (g1 : GS), P g1 → J M R Q n0 nx L (rest) (Wd g1) 0 0) : J M R Q n0 pc L (v5 :: v4 :: v3 :: v2 :: v1 :: rest) (Wd g) 0 0 :=
  J_callS (As := [v1, v2, v3, v4, v5]) d hn hml hlk hst rfl hroom hcat ⟨by rw [hz.1]; exact Nat.zero_le _, by rw [hz.2]; exact Nat.zero_le _⟩ hct (fun E es' hq => by obtain ⟨g1, h1, -⟩ := hq; cases h1) (fun v' es' hq => by
    obtain ⟨g1, h1, rfl, hp⟩ := hq
    cases h1
    rw [hz.1, hz.2]
    exact h _ hp)
theorem JiV5 {M : MI} {R : Room} {Q : Res → List ME → Prop} {n0 pc nx : Nat} {L : List (Option Value)} {rest : List Value} {g : GS} {M' : MI} {R' : Room} {v1 v2 v3 v4 v5 : Value} {b : Nat} {idx : Nat} {P : Int32 → GS → Prop} (d : decode M.2.1 pc = .ok (.invokevirtual idx, 3)) (hn : pc + 3 = nx) (hml : ML M' 5) (hlk : Cond.methodLink M.1.cls idx M'.1 ∈ TT) (hins : Cond.instanceMethod M'.1 ∈ TT ∧ Cond.selects M'.1.cls M'.1 M'.1 ∈ TT) {T : u_T} {N ci : Nat} (hcl : vwCl[ci]? = some (M'.1.cls, T, N)) {fs : List Value} (he : (Wd g)[b]? = some (.inr (ci, fs))) (hroom : R'.frames + 1 ≤ R.frames ∧ 8 + (M'.2.2.1 + 11) + R'.locals ≤ R.locals) (hcat : (rest.map fun v => v.category).sum ≤ 8) (hz : R'.cells = 0 ∧ R'.slots = 0) (hct : Ct M' R' (.ref b :: [v1, v2, v3, v4, v5]) (Wd g) (RXi P)) (h : ∀ (x : Int32) (g1 : GS), P x g1 → J M R Q n0 nx L (.int x :: rest) (Wd g1) 0 0) : J M R Q n0 pc L (v5 :: v4 :: v3 :: v2 :: v1 :: .ref b :: rest) (Wd g) 0 0 :=
  J_callV (b := b) (As := [v1, v2, v3, v4, v5]) d hn hml hlk hins hcl he rfl hroom hcat ⟨by rw [hz.1]; exact Nat.zero_le _, by rw [hz.2]; exact Nat.zero_le _⟩ hct (fun E es' hq => by obtain ⟨v, g1, h1, -⟩ := hq; cases h1) (fun v' es' hq => by
    obtain ⟨v, g1, h1, rfl, hp⟩ := hq
    cases h1
    rw [hz.1, hz.2]
    exact h _ _ hp)
theorem JlV5 {M : MI} {R : Room} {Q : Res → List ME → Prop} {n0 pc nx : Nat} {L : List (Option Value)} {rest : List Value} {g : GS} {M' : MI} {R' : Room} {v1 v2 v3 v4 v5 : Value} {b : Nat} {idx : Nat} {P : Int64 → GS → Prop} (d : decode M.2.1 pc = .ok (.invokevirtual idx, 3)) (hn : pc + 3 = nx) (hml : ML M' 5) (hlk : Cond.methodLink M.1.cls idx M'.1 ∈ TT) (hins : Cond.instanceMethod M'.1 ∈ TT ∧ Cond.selects M'.1.cls M'.1 M'.1 ∈ TT) {T : u_T} {N ci : Nat} (hcl : vwCl[ci]? = some (M'.1.cls, T, N)) {fs : List Value} (he : (Wd g)[b]? = some (.inr (ci, fs))) (hroom : R'.frames + 1 ≤ R.frames ∧ 8 + (M'.2.2.1 + 11) + R'.locals ≤ R.locals) (hcat : (rest.map fun v => v.category).sum ≤ 8) (hz : R'.cells = 0 ∧ R'.slots = 0) (hct : Ct M' R' (.ref b :: [v1, v2, v3, v4, v5]) (Wd g) (RXl P)) (h : ∀ (x : Int64) (g1 : GS), P x g1 → J M R Q n0 nx L (.long x :: rest) (Wd g1) 0 0) : J M R Q n0 pc L (v5 :: v4 :: v3 :: v2 :: v1 :: .ref b :: rest) (Wd g) 0 0 :=
  J_callV (b := b) (As := [v1, v2, v3, v4, v5]) d hn hml hlk hins hcl he rfl hroom hcat ⟨by rw [hz.1]; exact Nat.zero_le _, by rw [hz.2]; exact Nat.zero_le _⟩ hct (fun E es' hq => by obtain ⟨v, g1, h1, -⟩ := hq; cases h1) (fun v' es' hq => by
    obtain ⟨v, g1, h1, rfl, hp⟩ := hq
    cases h1
    rw [hz.1, hz.2]
    exact h _ _ hp)
theorem JvV5 {M : MI} {R : Room} {Q : Res → List ME → Prop} {n0 pc nx : Nat} {L : List (Option Value)} {rest : List Value} {g : GS} {M' : MI} {R' : Room} {v1 v2 v3 v4 v5 : Value} {b : Nat} {idx : Nat} {P : GS → Prop} (d : decode M.2.1 pc = .ok (.invokevirtual idx, 3)) (hn : pc + 3 = nx) (hml : ML M' 5) (hlk : Cond.methodLink M.1.cls idx M'.1 ∈ TT) (hins : Cond.instanceMethod M'.1 ∈ TT ∧ Cond.selects M'.1.cls M'.1 M'.1 ∈ TT) {T : u_T} {N ci : Nat} (hcl : vwCl[ci]? = some (M'.1.cls, T, N)) {fs : List Value} (he : (Wd g)[b]? = some (.inr (ci, fs))) (hroom : R'.frames + 1 ≤ R.frames ∧ 8 + (M'.2.2.1 + 11) + R'.locals ≤ R.locals) (hcat : (rest.map fun v => v.category).sum ≤ 8) (hz : R'.cells = 0 ∧ R'.slots = 0) (hct : Ct M' R' (.ref b :: [v1, v2, v3, v4, v5]) (Wd g) (RXv P)) (h : ∀ (g1 : GS), P g1 → J M R Q n0 nx L (rest) (Wd g1) 0 0) : J M R Q n0 pc L (v5 :: v4 :: v3 :: v2 :: v1 :: .ref b :: rest) (Wd g) 0 0 :=
  J_callV (b := b) (As := [v1, v2, v3, v4, v5]) d hn hml hlk hins hcl he rfl hroom hcat ⟨by rw [hz.1]; exact Nat.zero_le _, by rw [hz.2]; exact Nat.zero_le _⟩ hct (fun E es' hq => by obtain ⟨g1, h1, -⟩ := hq; cases h1) (fun v' es' hq => by
    obtain ⟨g1, h1, rfl, hp⟩ := hq
    cases h1
    rw [hz.1, hz.2]
    exact h _ hp)
theorem JiS6 {M : MI} {R : Room} {Q : Res → List ME → Prop} {n0 pc nx : Nat} {L : List (Option Value)} {rest : List Value} {g : GS} {M' : MI} {R' : Room} {v1 v2 v3 v4 v5 v6 : Value} {idx : Nat} {P : Int32 → GS → Prop} (d : decode M.2.1 pc = .ok (.invokestatic idx, 3)) (hn : pc + 3 = nx) (hml : ML M' 6) (hlk : Cond.methodLink M.1.cls idx M'.1 ∈ TT) (hst : Cond.static M'.1 ∈ TT) (hroom : R'.frames + 1 ≤ R.frames ∧ 8 + (M'.2.2.1 + 11) + R'.locals ≤ R.locals) (hcat : (rest.map fun v => v.category).sum ≤ 8) (hz : R'.cells = 0 ∧ R'.slots = 0) (hct : Ct M' R' [v1, v2, v3, v4, v5, v6] (Wd g) (RXi P)) (h : ∀ (x : Int32) (g1 : GS), P x g1 → J M R Q n0 nx L (.int x :: rest) (Wd g1) 0 0) : J M R Q n0 pc L (v6 :: v5 :: v4 :: v3 :: v2 :: v1 :: rest) (Wd g) 0 0 :=
  J_callS (As := [v1, v2, v3, v4, v5, v6]) d hn hml hlk hst rfl hroom hcat ⟨by rw [hz.1]; exact Nat.zero_le _, by rw [hz.2]; exact Nat.zero_le _⟩ hct (fun E es' hq => by obtain ⟨v, g1, h1, -⟩ := hq; cases h1) (fun v' es' hq => by
    obtain ⟨v, g1, h1, rfl, hp⟩ := hq
    cases h1
    rw [hz.1, hz.2]
    exact h _ _ hp)
theorem JlS6 {M : MI} {R : Room} {Q : Res → List ME → Prop} {n0 pc nx : Nat} {L : List (Option Value)} {rest : List Value} {g : GS} {M' : MI} {R' : Room} {v1 v2 v3 v4 v5 v6 : Value} {idx : Nat} {P : Int64 → GS → Prop} (d : decode M.2.1 pc = .ok (.invokestatic idx, 3)) (hn : pc + 3 = nx) (hml : ML M' 6) (hlk : Cond.methodLink M.1.cls idx M'.1 ∈ TT) (hst : Cond.static M'.1 ∈ TT) (hroom : R'.frames + 1 ≤ R.frames ∧ 8 + (M'.2.2.1 + 11) + R'.locals ≤ R.locals) (hcat : (rest.map fun v => v.category).sum ≤ 8) (hz : R'.cells = 0 ∧ R'.slots = 0) (hct : Ct M' R' [v1, v2, v3, v4, v5, v6] (Wd g) (RXl P)) (h : ∀ (x : Int64) (g1 : GS), P x g1 → J M R Q n0 nx L (.long x :: rest) (Wd g1) 0 0) : J M R Q n0 pc L (v6 :: v5 :: v4 :: v3 :: v2 :: v1 :: rest) (Wd g) 0 0 :=
  J_callS (As := [v1, v2, v3, v4, v5, v6]) d hn hml hlk hst rfl hroom hcat ⟨by rw [hz.1]; exact Nat.zero_le _, by rw [hz.2]; exact Nat.zero_le _⟩ hct (fun E es' hq => by obtain ⟨v, g1, h1, -⟩ := hq; cases h1) (fun v' es' hq => by
    obtain ⟨v, g1, h1, rfl, hp⟩ := hq
    cases h1
    rw [hz.1, hz.2]
    exact h _ _ hp)
theorem JvS6 {M : MI} {R : Room} {Q : Res → List ME → Prop} {n0 pc nx : Nat} {L : List (Option Value)} {rest : List Value} {g : GS} {M' : MI} {R' : Room} {v1 v2 v3 v4 v5 v6 : Value} {idx : Nat} {P : GS → Prop} (d : decode M.2.1 pc = .ok (.invokestatic idx, 3)) (hn : pc + 3 = nx) (hml : ML M' 6) (hlk : Cond.methodLink M.1.cls idx M'.1 ∈ TT) (hst : Cond.static M'.1 ∈ TT) (hroom : R'.frames + 1 ≤ R.frames ∧ 8 + (M'.2.2.1 + 11) + R'.locals ≤ R.locals) (hcat : (rest.map fun v => v.category).sum ≤ 8) (hz : R'.cells = 0 ∧ R'.slots = 0) (hct : Ct M' R' [v1, v2, v3, v4, v5, v6] (Wd g) (RXv P)) (h : ∀ (g1 : GS), P g1 → J M R Q n0 nx L (rest) (Wd g1) 0 0) : J M R Q n0 pc L (v6 :: v5 :: v4 :: v3 :: v2 :: v1 :: rest) (Wd g) 0 0 :=
  J_callS (As := [v1, v2, v3, v4, v5, v6]) d hn hml hlk hst rfl hroom hcat ⟨by rw [hz.1]; exact Nat.zero_le _, by rw [hz.2]; exact Nat.zero_le _⟩ hct (fun E es' hq => by obtain ⟨g1, h1, -⟩ := hq; cases h1) (fun v' es' hq => by
    obtain ⟨g1, h1, rfl, hp⟩ := hq
    cases h1
    rw [hz.1, hz.2]
    exact h _ hp)
theorem JiV6 {M : MI} {R : Room} {Q : Res → List ME → Prop} {n0 pc nx : Nat} {L : List (Option Value)} {rest : List Value} {g : GS} {M' : MI} {R' : Room} {v1 v2 v3 v4 v5 v6 : Value} {b : Nat} {idx : Nat} {P : Int32 → GS → Prop} (d : decode M.2.1 pc = .ok (.invokevirtual idx, 3)) (hn : pc + 3 = nx) (hml : ML M' 6) (hlk : Cond.methodLink M.1.cls idx M'.1 ∈ TT) (hins : Cond.instanceMethod M'.1 ∈ TT ∧ Cond.selects M'.1.cls M'.1 M'.1 ∈ TT) {T : u_T} {N ci : Nat} (hcl : vwCl[ci]? = some (M'.1.cls, T, N)) {fs : List Value} (he : (Wd g)[b]? = some (.inr (ci, fs))) (hroom : R'.frames + 1 ≤ R.frames ∧ 8 + (M'.2.2.1 + 11) + R'.locals ≤ R.locals) (hcat : (rest.map fun v => v.category).sum ≤ 8) (hz : R'.cells = 0 ∧ R'.slots = 0) (hct : Ct M' R' (.ref b :: [v1, v2, v3, v4, v5, v6]) (Wd g) (RXi P)) (h : ∀ (x : Int32) (g1 : GS), P x g1 → J M R Q n0 nx L (.int x :: rest) (Wd g1) 0 0) : J M R Q n0 pc L (v6 :: v5 :: v4 :: v3 :: v2 :: v1 :: .ref b :: rest) (Wd g) 0 0 :=
  J_callV (b := b) (As := [v1, v2, v3, v4, v5, v6]) d hn hml hlk hins hcl he rfl hroom hcat ⟨by rw [hz.1]; exact Nat.zero_le _, by rw [hz.2]; exact Nat.zero_le _⟩ hct (fun E es' hq => by obtain ⟨v, g1, h1, -⟩ := hq; cases h1) (fun v' es' hq => by
    obtain ⟨v, g1, h1, rfl, hp⟩ := hq
    cases h1
    rw [hz.1, hz.2]
    exact h _ _ hp)
theorem JlV6 {M : MI} {R : Room} {Q : Res → List ME → Prop} {n0 pc nx : Nat} {L : List (Option Value)} {rest : List Value} {g : GS} {M' : MI} {R' : Room} {v1 v2 v3 v4 v5 v6 : Value} {b : Nat} {idx : Nat} {P : Int64 → GS → Prop} (d : decode M.2.1 pc = .ok (.invokevirtual idx, 3)) (hn : pc + 3 = nx) (hml : ML M' 6) (hlk : Cond.methodLink M.1.cls idx M'.1 ∈ TT) (hins : Cond.instanceMethod M'.1 ∈ TT ∧ Cond.selects M'.1.cls M'.1 M'.1 ∈ TT) {T : u_T} {N ci : Nat} (hcl : vwCl[ci]? = some (M'.1.cls, T, N)) {fs : List Value} (he : (Wd g)[b]? = some (.inr (ci, fs))) (hroom : R'.frames + 1 ≤ R.frames ∧ 8 + (M'.2.2.1 + 11) + R'.locals ≤ R.locals) (hcat : (rest.map fun v => v.category).sum ≤ 8) (hz : R'.cells = 0 ∧ R'.slots = 0) (hct : Ct M' R' (.ref b :: [v1, v2, v3, v4, v5, v6]) (Wd g) (RXl P)) (h : ∀ (x : Int64) (g1 : GS), P x g1 → J M R Q n0 nx L (.long x :: rest) (Wd g1) 0 0) : J M R Q n0 pc L (v6 :: v5 :: v4 :: v3 :: v2 :: v1 :: .ref b :: rest) (Wd g) 0 0 :=
  J_callV (b := b) (As := [v1, v2, v3, v4, v5, v6]) d hn hml hlk hins hcl he rfl hroom hcat ⟨by rw [hz.1]; exact Nat.zero_le _, by rw [hz.2]; exact Nat.zero_le _⟩ hct (fun E es' hq => by obtain ⟨v, g1, h1, -⟩ := hq; cases h1) (fun v' es' hq => by
    obtain ⟨v, g1, h1, rfl, hp⟩ := hq
    cases h1
    rw [hz.1, hz.2]
    exact h _ _ hp)
theorem JvV6 {M : MI} {R : Room} {Q : Res → List ME → Prop} {n0 pc nx : Nat} {L : List (Option Value)} {rest : List Value} {g : GS} {M' : MI} {R' : Room} {v1 v2 v3 v4 v5 v6 : Value} {b : Nat} {idx : Nat} {P : GS → Prop} (d : decode M.2.1 pc = .ok (.invokevirtual idx, 3)) (hn : pc + 3 = nx) (hml : ML M' 6) (hlk : Cond.methodLink M.1.cls idx M'.1 ∈ TT) (hins : Cond.instanceMethod M'.1 ∈ TT ∧ Cond.selects M'.1.cls M'.1 M'.1 ∈ TT) {T : u_T} {N ci : Nat} (hcl : vwCl[ci]? = some (M'.1.cls, T, N)) {fs : List Value} (he : (Wd g)[b]? = some (.inr (ci, fs))) (hroom : R'.frames + 1 ≤ R.frames ∧ 8 + (M'.2.2.1 + 11) + R'.locals ≤ R.locals) (hcat : (rest.map fun v => v.category).sum ≤ 8) (hz : R'.cells = 0 ∧ R'.slots = 0) (hct : Ct M' R' (.ref b :: [v1, v2, v3, v4, v5, v6]) (Wd g) (RXv P)) (h : ∀ (g1 : GS), P g1 → J M R Q n0 nx L (rest) (Wd g1) 0 0) : J M R Q n0 pc L (v6 :: v5 :: v4 :: v3 :: v2 :: v1 :: .ref b :: rest) (Wd g) 0 0 :=
  J_callV (b := b) (As := [v1, v2, v3, v4, v5, v6]) d hn hml hlk hins hcl he rfl hroom hcat ⟨by rw [hz.1]; exact Nat.zero_le _, by rw [hz.2]; exact Nat.zero_le _⟩ hct (fun E es' hq => by obtain ⟨g1, h1, -⟩ := hq; cases h1) (fun v' es' hq => by
    obtain ⟨g1, h1, rfl, hp⟩ := hq
    cases h1
    rw [hz.1, hz.2]
    exact h _ hp)
theorem JiS7 {M : MI} {R : Room} {Q : Res → List ME → Prop} {n0 pc nx : Nat} {L : List (Option Value)} {rest : List Value} {g : GS} {M' : MI} {R' : Room} {v1 v2 v3 v4 v5 v6 v7 : Value} {idx : Nat} {P : Int32 → GS → Prop} (d : decode M.2.1 pc = .ok (.invokestatic idx, 3)) (hn : pc + 3 = nx) (hml : ML M' 7) (hlk : Cond.methodLink M.1.cls idx M'.1 ∈ TT) (hst : Cond.static M'.1 ∈ TT) (hroom : R'.frames + 1 ≤ R.frames ∧ 8 + (M'.2.2.1 + 11) + R'.locals ≤ R.locals) (hcat : (rest.map fun v => v.category).sum ≤ 8) (hz : R'.cells = 0 ∧ R'.slots = 0) (hct : Ct M' R' [v1, v2, v3, v4, v5, v6, v7] (Wd g) (RXi P)) (h : ∀ (x : Int32) (g1 : GS), P x g1 → J M R Q n0 nx L (.int x :: rest) (Wd g1) 0 0) : J M R Q n0 pc L (v7 :: v6 :: v5 :: v4 :: v3 :: v2 :: v1 :: rest) (Wd g) 0 0 :=
  J_callS (As := [v1, v2, v3, v4, v5, v6, v7]) d hn hml hlk hst rfl hroom hcat ⟨by rw [hz.1]; exact Nat.zero_le _, by rw [hz.2]; exact Nat.zero_le _⟩ hct (fun E es' hq => by obtain ⟨v, g1, h1, -⟩ := hq; cases h1) (fun v' es' hq => by
    obtain ⟨v, g1, h1, rfl, hp⟩ := hq
    cases h1
    rw [hz.1, hz.2]
    exact h _ _ hp)
theorem JlS7 {M : MI} {R : Room} {Q : Res → List ME → Prop} {n0 pc nx : Nat} {L : List (Option Value)} {rest : List Value} {g : GS} {M' : MI} {R' : Room} {v1 v2 v3 v4 v5 v6 v7 : Value} {idx : Nat} {P : Int64 → GS → Prop} (d : decode M.2.1 pc = .ok (.invokestatic idx, 3)) (hn : pc + 3 = nx) (hml : ML M' 7) (hlk : Cond.methodLink M.1.cls idx M'.1 ∈ TT) (hst : Cond.static M'.1 ∈ TT) (hroom : R'.frames + 1 ≤ R.frames ∧ 8 + (M'.2.2.1 + 11) + R'.locals ≤ R.locals) (hcat : (rest.map fun v => v.category).sum ≤ 8) (hz : R'.cells = 0 ∧ R'.slots = 0) (hct : Ct M' R' [v1, v2, v3, v4, v5, v6, v7] (Wd g) (RXl P)) (h : ∀ (x : Int64) (g1 : GS), P x g1 → J M R Q n0 nx L (.long x :: rest) (Wd g1) 0 0) : J M R Q n0 pc L (v7 :: v6 :: v5 :: v4 :: v3 :: v2 :: v1 :: rest) (Wd g) 0 0 :=
  J_callS (As := [v1, v2, v3, v4, v5, v6, v7]) d hn hml hlk hst rfl hroom hcat ⟨by rw [hz.1]; exact Nat.zero_le _, by rw [hz.2]; exact Nat.zero_le _⟩ hct (fun E es' hq => by obtain ⟨v, g1, h1, -⟩ := hq; cases h1) (fun v' es' hq => by
    obtain ⟨v, g1, h1, rfl, hp⟩ := hq
    cases h1
    rw [hz.1, hz.2]
    exact h _ _ hp)
theorem JvS7 {M : MI} {R : Room} {Q : Res → List ME → Prop} {n0 pc nx : Nat} {L : List (Option Value)} {rest : List Value} {g : GS} {M' : MI} {R' : Room} {v1 v2 v3 v4 v5 v6 v7 : Value} {idx : Nat} {P : GS → Prop} (d : decode M.2.1 pc = .ok (.invokestatic idx, 3)) (hn : pc + 3 = nx) (hml : ML M' 7) (hlk : Cond.methodLink M.1.cls idx M'.1 ∈ TT) (hst : Cond.static M'.1 ∈ TT) (hroom : R'.frames + 1 ≤ R.frames ∧ 8 + (M'.2.2.1 + 11) + R'.locals ≤ R.locals) (hcat : (rest.map fun v => v.category).sum ≤ 8) (hz : R'.cells = 0 ∧ R'.slots = 0) (hct : Ct M' R' [v1, v2, v3, v4, v5, v6, v7] (Wd g) (RXv P)) (h : ∀ (g1 : GS), P g1 → J M R Q n0 nx L (rest) (Wd g1) 0 0) : J M R Q n0 pc L (v7 :: v6 :: v5 :: v4 :: v3 :: v2 :: v1 :: rest) (Wd g) 0 0 :=
  J_callS (As := [v1, v2, v3, v4, v5, v6, v7]) d hn hml hlk hst rfl hroom hcat ⟨by rw [hz.1]; exact Nat.zero_le _, by rw [hz.2]; exact Nat.zero_le _⟩ hct (fun E es' hq => by obtain ⟨g1, h1, -⟩ := hq; cases h1) (fun v' es' hq => by
    obtain ⟨g1, h1, rfl, hp⟩ := hq
    cases h1
    rw [hz.1, hz.2]
    exact h _ hp)
theorem JiV7 {M : MI} {R : Room} {Q : Res → List ME → Prop} {n0 pc nx : Nat} {L : List (Option Value)} {rest : List Value} {g : GS} {M' : MI} {R' : Room} {v1 v2 v3 v4 v5 v6 v7 : Value} {b : Nat} {idx : Nat} {P : Int32 → GS → Prop} (d : decode M.2.1 pc = .ok (.invokevirtual idx, 3)) (hn : pc + 3 = nx) (hml : ML M' 7) (hlk : Cond.methodLink M.1.cls idx M'.1 ∈ TT) (hins : Cond.instanceMethod M'.1 ∈ TT ∧ Cond.selects M'.1.cls M'.1 M'.1 ∈ TT) {T : u_T} {N ci : Nat} (hcl : vwCl[ci]? = some (M'.1.cls, T, N)) {fs : List Value} (he : (Wd g)[b]? = some (.inr (ci, fs))) (hroom : R'.frames + 1 ≤ R.frames ∧ 8 + (M'.2.2.1 + 11) + R'.locals ≤ R.locals) (hcat : (rest.map fun v => v.category).sum ≤ 8) (hz : R'.cells = 0 ∧ R'.slots = 0) (hct : Ct M' R' (.ref b :: [v1, v2, v3, v4, v5, v6, v7]) (Wd g) (RXi P)) (h : ∀ (x : Int32) (g1 : GS), P x g1 → J M R Q n0 nx L (.int x :: rest) (Wd g1) 0 0) : J M R Q n0 pc L (v7 :: v6 :: v5 :: v4 :: v3 :: v2 :: v1 :: .ref b :: rest) (Wd g) 0 0 :=
  J_callV (b := b) (As := [v1, v2, v3, v4, v5, v6, v7]) d hn hml hlk hins hcl he rfl hroom hcat ⟨by rw [hz.1]; exact Nat.zero_le _, by rw [hz.2]; exact Nat.zero_le _⟩ hct (fun E es' hq => by obtain ⟨v, g1, h1, -⟩ := hq; cases h1) (fun v' es' hq => by
    obtain ⟨v, g1, h1, rfl, hp⟩ := hq
    cases h1
    rw [hz.1, hz.2]
    exact h _ _ hp)
theorem JlV7 {M : MI} {R : Room} {Q : Res → List ME → Prop} {n0 pc nx : Nat} {L : List (Option Value)} {rest : List Value} {g : GS} {M' : MI} {R' : Room} {v1 v2 v3 v4 v5 v6 v7 : Value} {b : Nat} {idx : Nat} {P : Int64 → GS → Prop} (d : decode M.2.1 pc = .ok (.invokevirtual idx, 3)) (hn : pc + 3 = nx) (hml : ML M' 7) (hlk : Cond.methodLink M.1.cls idx M'.1 ∈ TT) (hins : Cond.instanceMethod M'.1 ∈ TT ∧ Cond.selects M'.1.cls M'.1 M'.1 ∈ TT) {T : u_T} {N ci : Nat} (hcl : vwCl[ci]? = some (M'.1.cls, T, N)) {fs : List Value} (he : (Wd g)[b]? = some (.inr (ci, fs))) (hroom : R'.frames + 1 ≤ R.frames ∧ 8 + (M'.2.2.1 + 11) + R'.locals ≤ R.locals) (hcat : (rest.map fun v => v.category).sum ≤ 8) (hz : R'.cells = 0 ∧ R'.slots = 0) (hct : Ct M' R' (.ref b :: [v1, v2, v3, v4, v5, v6, v7]) (Wd g) (RXl P)) (h : ∀ (x : Int64) (g1 : GS), P x g1 → J M R Q n0 nx L (.long x :: rest) (Wd g1) 0 0) : J M R Q n0 pc L (v7 :: v6 :: v5 :: v4 :: v3 :: v2 :: v1 :: .ref b :: rest) (Wd g) 0 0 :=
  J_callV (b := b) (As := [v1, v2, v3, v4, v5, v6, v7]) d hn hml hlk hins hcl he rfl hroom hcat ⟨by rw [hz.1]; exact Nat.zero_le _, by rw [hz.2]; exact Nat.zero_le _⟩ hct (fun E es' hq => by obtain ⟨v, g1, h1, -⟩ := hq; cases h1) (fun v' es' hq => by
    obtain ⟨v, g1, h1, rfl, hp⟩ := hq
    cases h1
    rw [hz.1, hz.2]
    exact h _ _ hp)
theorem JvV7 {M : MI} {R : Room} {Q : Res → List ME → Prop} {n0 pc nx : Nat} {L : List (Option Value)} {rest : List Value} {g : GS} {M' : MI} {R' : Room} {v1 v2 v3 v4 v5 v6 v7 : Value} {b : Nat} {idx : Nat} {P : GS → Prop} (d : decode M.2.1 pc = .ok (.invokevirtual idx, 3)) (hn : pc + 3 = nx) (hml : ML M' 7) (hlk : Cond.methodLink M.1.cls idx M'.1 ∈ TT) (hins : Cond.instanceMethod M'.1 ∈ TT ∧ Cond.selects M'.1.cls M'.1 M'.1 ∈ TT) {T : u_T} {N ci : Nat} (hcl : vwCl[ci]? = some (M'.1.cls, T, N)) {fs : List Value} (he : (Wd g)[b]? = some (.inr (ci, fs))) (hroom : R'.frames + 1 ≤ R.frames ∧ 8 + (M'.2.2.1 + 11) + R'.locals ≤ R.locals) (hcat : (rest.map fun v => v.category).sum ≤ 8) (hz : R'.cells = 0 ∧ R'.slots = 0) (hct : Ct M' R' (.ref b :: [v1, v2, v3, v4, v5, v6, v7]) (Wd g) (RXv P)) (h : ∀ (g1 : GS), P g1 → J M R Q n0 nx L (rest) (Wd g1) 0 0) : J M R Q n0 pc L (v7 :: v6 :: v5 :: v4 :: v3 :: v2 :: v1 :: .ref b :: rest) (Wd g) 0 0 :=
  J_callV (b := b) (As := [v1, v2, v3, v4, v5, v6, v7]) d hn hml hlk hins hcl he rfl hroom hcat ⟨by rw [hz.1]; exact Nat.zero_le _, by rw [hz.2]; exact Nat.zero_le _⟩ hct (fun E es' hq => by obtain ⟨g1, h1, -⟩ := hq; cases h1) (fun v' es' hq => by
    obtain ⟨g1, h1, rfl, hp⟩ := hq
    cases h1
    rw [hz.1, hz.2]
    exact h _ hp)
/-! things of a text: how many bytes, the number, the sign, the word that begins at a place, where the next one begins -/
abbrev Ob : Type := Nat × (Nat → Int32) × (Nat → Int32) × (Nat → Nat) × (Nat → Nat)
def oN (o : Ob) : Nat := o.1
def oNum (o : Ob) : Nat → Int32 := o.2.1
def oSgn (o : Ob) : Nat → Int32 := o.2.2.1
def oWrd (o : Ob) : Nat → Nat := o.2.2.2.1
def oNxt (o : Ob) : Nat → Nat := o.2.2.2.2
def ObOK (o : Ob) : Prop := oN o ≤ 400 ∧ (∀ b, b < oN o → b < oNxt o b ∧ oNxt o b ≤ oN o) ∧ (∀ b, oN o ≤ b → oNum o b = -1 ∧ oSgn o b = 0 ∧ oWrd o b = 0) ∧ (∀ b, oWrd o b < 23) ∧ (∀ b, oNum o b = -1 ∨ ∃ v, v ≤ 9999 ∧ oNum o b = nI v)
theorem ObOK.sgn {o : Ob} (h : ObOK o) {b : Nat} {x : Int32} (e : oSgn o b = x) (hx : ¬ x = 0) : b < oN o := by
  rcases Nat.lt_or_ge b (oN o) with h1 | h1
  · exact h1
  · exact absurd (e.symm.trans (h.2.2.1 b h1).2.1) hx
theorem ObOK.wrd {o : Ob} (h : ObOK o) {b w : Nat} (e : oWrd o b = w) (hx : ¬ w = 0) : b < oN o := by
  rcases Nat.lt_or_ge b (oN o) with h1 | h1
  · exact h1
  · exact absurd (e.symm.trans (h.2.2.1 b h1).2.2) hx
theorem ObOK.num {o : Ob} (h : ObOK o) {b : Nat} (e : ¬ oNum o b = -1) : b < oN o := by
  rcases Nat.lt_or_ge b (oN o) with h1 | h1
  · exact h1
  · exact absurd (h.2.2.1 b h1).1 e
/-- reading ends at a fault, or goes on at a place with all the cells so far -/
abbrev PR : Type := Nat ⊕ (Nat × List Int32)
def pFact (o : Ob) (rl : Bool) (b : Nat) : Int32 := if bI rl = 0 then (if wFact.getD (oWrd o b) 0 < 4 then -1 else wFact.getD (oWrd o b) 0) else wFact.getD (oWrd o b) 0
def pCell (o : Ob) (rl : Bool) (b : Nat) : Int32 := if pFact o rl b = -1 then oNum o b else 10000 + pFact o rl b
def pSumL (o : Ob) (rl : Bool) : Nat → Nat → Nat → List Int32 → PR
  | 0, _, b, _ => .inl b
  | k + 1, n, b, cs => if pCell o rl b = -1 then .inl b else
    if oSgn o (oNxt o b) = 43 then pSumL o rl k (n + 1) (oNxt o (oNxt o b)) (if n = 0 then cs ++ [pCell o rl b] else cs ++ [pCell o rl b] ++ [10010]) else .inr (oNxt o b, if n = 0 then cs ++ [pCell o rl b] else cs ++ [pCell o rl b] ++ [10010])
def pSum (o : Ob) (rl : Bool) (b : Nat) (cs : List Int32) : PR := pSumL o rl 400 0 b cs
def pLoop (o : Ob) (item : Nat → List Int32 → PR) (w : Nat) (op : Int32) : Nat → Nat → List Int32 → PR
  | 0, b, cs => .inr (b, cs)
  | k + 1, b, cs => if oWrd o b = w then (match item (oNxt o b) cs with
    | .inl e => .inl e
    | .inr q => pLoop o item w op k q.1 (q.2 ++ [op])) else .inr (b, cs)
def pSeq (o : Ob) (item : Nat → List Int32 → PR) (w : Nat) (op : Int32) (b : Nat) (cs : List Int32) : PR := match item b cs with
  | .inl e => .inl e
  | .inr q => pLoop o item w op 400 q.1 q.2
def pBase (o : Ob) (rl : Bool) (b : Nat) (cs : List Int32) : PR :=
  if ¬ bI rl = 0 ∧ oWrd o b = 15 then .inr (oNxt o b, cs ++ [10007]) else match pSum o rl b cs with
  | .inl e => .inl e
  | .inr q => if oSgn o q.1 = 60 then (match pSum o rl (oNxt o q.1) q.2 with
    | .inl e => .inl e
    | .inr r => .inr (r.1, r.2 ++ [10011])) else if oSgn o q.1 = 62 then (match pSum o rl (oNxt o q.1) q.2 with
    | .inl e => .inl e
    | .inr r => .inr (r.1, r.2 ++ [10012])) else .inl q.1
def pAtom (o : Ob) (rl : Bool) : Nat → Nat → List Int32 → PR
  | 0, b, cs => if oWrd o b = 14 then .inl b else if oSgn o b = 40 then .inl b else pBase o rl b cs
  | d + 1, b, cs => if oWrd o b = 14 then (match pAtom o rl d (oNxt o b) cs with
    | .inl e => .inl e
    | .inr q => .inr (q.1, q.2 ++ [10013])) else if oSgn o b = 40 then (match pSeq o (pSeq o (pAtom o rl d) 13 10014) 12 10015 (oNxt o b) cs with
    | .inl e => .inl e
    | .inr q => if oSgn o q.1 = 41 then .inr (oNxt o q.1, q.2) else .inl q.1) else pBase o rl b cs
def pAll (o : Ob) (rl : Bool) (d : Nat) : Nat → List Int32 → PR := pSeq o (pAtom o rl d) 13 10014
def pCond (o : Ob) (rl : Bool) (d : Nat) : Nat → List Int32 → PR := pSeq o (pAll o rl d) 12 10015
/-- a reader goes on: behind b, before the end, with a cell a byte at most -/
def PRok (o : Ob) (b : Nat) (cs : List Int32) (r : PR) : Prop := match r with
  | .inl e => e ≤ oN o
  | .inr q => b < q.1 ∧ q.1 ≤ oN o ∧ q.2.length + b ≤ q.1 + cs.length
theorem ObOK.cell {o : Ob} (h : ObOK o) {rl : Bool} {b : Nat} (e : ¬ pCell o rl b = -1) : b < oN o := by
  rcases Nat.lt_or_ge b (oN o) with h1 | h1
  · exact h1
  · refine absurd ?_ e
    have h2 := h.2.2.1 b h1
    have h3 : pFact o rl b = -1 := by
      unfold pFact
      rw [h2.2.2]
      cases rl <;> rfl
    unfold pCell
    rw [if_pos h3]
    exact h2.1
theorem pSumL_ok {o : Ob} (h : ObOK o) (rl : Bool) : ∀ (k n b : Nat) (cs cs0 : List Int32) (b0 : Nat), b ≤ oN o → b0 ≤ b → cs.length + b0 + (if n = 0 then 0 else 1) ≤ b + cs0.length → PRok o b0 cs0 (pSumL o rl k n b cs)
  | 0, n, b, cs, cs0, b0, hb, _, _ => hb
  | k + 1, n, b, cs, cs0, b0, hb, h0, hl => by
    unfold pSumL
    split
    · exact hb
    · rename_i h1
      have h2 := h.cell h1
      have h3 := h.2.1 b h2
      have hlen : (if n = 0 then cs ++ [pCell o rl b] else cs ++ [pCell o rl b] ++ [10010]).length + b0 ≤ oNxt o b + cs0.length := by
        by_cases hn : n = 0
        · rw [if_pos hn] at hl ⊢
          rw [List.length_append, List.length_singleton]; omega
        · rw [if_neg hn] at hl ⊢
          rw [List.length_append, List.length_append, List.length_singleton, List.length_singleton]; omega
      split
      · rename_i h4
        have h5 := h.sgn h4 (by decide)
        have h6 := h.2.1 _ h5
        exact pSumL_ok h rl k (n + 1) _ _ cs0 b0 h6.2 (by omega) (by rw [show (if n + 1 = 0 then 0 else 1) = 1 from if_neg (by omega)]; omega)
      · exact ⟨by omega, h3.2, hlen⟩
theorem pSum_ok {o : Ob} (h : ObOK o) (rl : Bool) (b : Nat) (cs : List Int32) (hb : b ≤ oN o) : PRok o b cs (pSum o rl b cs) :=
  pSumL_ok h rl 400 0 b cs cs b hb (Nat.le_refl _) (by rw [if_pos rfl]; omega)
theorem pLoop_ok {o : Ob} (h : ObOK o) {item : Nat → List Int32 → PR} {w : Nat} (hw : ¬ w = 0) (op : Int32) (hi : ∀ b cs, b ≤ oN o → PRok o b cs (item b cs)) : ∀ (k b : Nat) (cs cs0 : List Int32) (b0 : Nat), b ≤ oN o → b0 < b → cs.length + b0 ≤ b + cs0.length → PRok o b0 cs0 (pLoop o item w op k b cs)
  | 0, b, cs, cs0, b0, hb, h0, hl => ⟨h0, hb, hl⟩
  | k + 1, b, cs, cs0, b0, hb, h0, hl => by
    unfold pLoop
    split
    · rename_i h1
      have h2 := h.2.1 b (h.wrd h1 hw)
      have h3 := hi (oNxt o b) cs h2.2
      split
      · rename_i e he; rw [he] at h3; exact h3
      · rename_i q hq
        rw [hq] at h3
        exact pLoop_ok h hw op hi k q.1 _ cs0 b0 h3.2.1 (by have := h3.1; omega) (by rw [List.length_append, List.length_singleton]; have := h3.2.2; omega)
    · exact ⟨h0, hb, hl⟩
theorem pSeq_ok {o : Ob} (h : ObOK o) {item : Nat → List Int32 → PR} {w : Nat} (hw : ¬ w = 0) (op : Int32) (hi : ∀ b cs, b ≤ oN o → PRok o b cs (item b cs)) (b : Nat) (cs : List Int32) (hb : b ≤ oN o) : PRok o b cs (pSeq o item w op b cs) := by
  unfold pSeq
  have h3 := hi b cs hb
  split
  · rename_i e he; rw [he] at h3; exact h3
  · rename_i q hq
    rw [hq] at h3
    exact pLoop_ok h hw op hi 400 q.1 q.2 cs b h3.2.1 h3.1 h3.2.2
theorem pBase_ok {o : Ob} (h : ObOK o) (rl : Bool) (b : Nat) (cs : List Int32) (hb : b ≤ oN o) : PRok o b cs (pBase o rl b cs) := by
  have hS : ∀ (q : Nat × List Int32) (x : Int32), pSum o rl b cs = .inr q → b < oNxt o q.1 → PRok o (oNxt o q.1) q.2 (pSum o rl (oNxt o q.1) q.2) → oNxt o q.1 ≤ oN o → q.2.length + b + 1 ≤ oNxt o q.1 + cs.length → PRok o b cs (match pSum o rl (oNxt o q.1) q.2 with
    | .inl e => .inl e
    | .inr r => .inr (r.1, r.2 ++ [x])) := by
    intro q x _ h1 h2 h3 h4
    split
    · rename_i e he; rw [he] at h2; exact h2
    · rename_i r hr
      rw [hr] at h2
      refine ⟨by have := h2.1; show b < r.1; omega, h2.2.1, ?_⟩
      show (r.2 ++ [x]).length + b ≤ r.1 + cs.length
      rw [List.length_append, List.length_singleton]; have := h2.2.2; omega
  unfold pBase
  split
  · rename_i h1
    have h2 := h.2.1 b (h.wrd h1.2 (by decide))
    exact ⟨h2.1, h2.2, by show (cs ++ [10007]).length + b ≤ _; rw [List.length_append, List.length_singleton]; omega⟩
  · have h3 := pSum_ok h rl b cs hb
    split
    · rename_i e he; rw [he] at h3; exact h3
    · rename_i q hq
      rw [hq] at h3
      have h5 := h3.1; have h6 := h3.2.2
      split
      · rename_i h4
        have h7 := h.2.1 _ (h.sgn h4 (by decide))
        exact hS q _ hq (by omega) (pSum_ok h rl _ _ h7.2) h7.2 (by omega)
      · split
        · rename_i h4
          have h7 := h.2.1 _ (h.sgn h4 (by decide))
          exact hS q _ hq (by omega) (pSum_ok h rl _ _ h7.2) h7.2 (by omega)
        · exact h3.2.1
theorem pAtom_ok {o : Ob} (h : ObOK o) (rl : Bool) : ∀ (d b : Nat) (cs : List Int32), b ≤ oN o → PRok o b cs (pAtom o rl d b cs)
  | 0, b, cs, hb => by
    unfold pAtom
    split
    · exact hb
    · split
      · exact hb
      · exact pBase_ok h rl b cs hb
  | d + 1, b, cs, hb => by
    unfold pAtom
    split
    · rename_i h1
      have h2 := h.2.1 b (h.wrd h1 (by decide))
      have h3 := pAtom_ok h rl d _ cs h2.2
      split
      · rename_i e he; rw [he] at h3; exact h3
      · rename_i q hq
        rw [hq] at h3
        refine ⟨by have := h3.1; show b < q.1; omega, h3.2.1, ?_⟩
        show (q.2 ++ [10013]).length + b ≤ q.1 + cs.length
        rw [List.length_append, List.length_singleton]; have := h3.2.2; omega
    · split
      · rename_i h1
        have h2 := h.2.1 b (h.sgn h1 (by decide))
        have h3 := pSeq_ok h (w := 12) (by decide) 10015 (fun b cs hb => pSeq_ok h (w := 13) (by decide) 10014 (pAtom_ok h rl d) b cs hb) _ cs h2.2
        split
        · rename_i e he; rw [he] at h3; exact h3
        · rename_i q hq
          rw [hq] at h3
          split
          · rename_i h4
            have h5 := h.2.1 _ (h.sgn h4 (by decide))
            exact ⟨by have := h3.1; show b < oNxt o q.1; omega, h5.2, by have := h3.2.2; show q.2.length + b ≤ oNxt o q.1 + cs.length; omega⟩
          · exact h3.2.1
      · exact pBase_ok h rl b cs hb
theorem pAll_ok {o : Ob} (h : ObOK o) (rl : Bool) (d b : Nat) (cs : List Int32) (hb : b ≤ oN o) : PRok o b cs (pAll o rl d b cs) := pSeq_ok h (by decide) _ (pAtom_ok h rl d) b cs hb
theorem pCond_ok {o : Ob} (h : ObOK o) (rl : Bool) (d b : Nat) (cs : List Int32) (hb : b ≤ oN o) : PRok o b cs (pCond o rl d b cs) := pSeq_ok h (by decide) _ (pAll_ok h rl d) b cs hb
