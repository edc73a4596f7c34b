def rm (d k ks : Nat) : Room := { frames := 16 + d, cells := k, slots := ks, locals := 200 + 60 * d }
/-- what a method answers, and the world behind it -/
def RR (r : Res) (g : GS) : Res → List ME → Prop := fun r' es => r' = r ∧ es = Wd g
def RX (P : Option Value → GS → Prop) : Res → List ME → Prop := fun r es => ∃ (v : Option Value) (g : GS), r = .inl v ∧ es = Wd g ∧ P v g
def bI (b : Bool) : Int32 := bif b then 1 else 0
theorem bI_nar (b : Bool) : narrow .boolean (.int (bI b)) = .int (bI b) := by cases b <;> rfl
theorem bI_fit (b : Bool) : fits .boolean (.int (bI b)) = true := by cases b <;> rfl
theorem RR.i {x y : Int32} {g g1 : GS} (e : x = y) (e1 : Wd g = Wd g1) : RR (.inl (some (.int y))) g1 (.inl (some (.int x))) (Wd g) := ⟨by rw [e], e1⟩
theorem RR.l {x y : Int64} {g g1 : GS} (e : x = y) (e1 : Wd g = Wd g1) : RR (.inl (some (.long y))) g1 (.inl (some (.long x))) (Wd g) := ⟨by rw [e], e1⟩
theorem J_tabOut {M : MI} {R : Room} {Q : Res → List ME → Prop} {n0 pc nx : Nat} {L : List (Option Value)} {rest : List Value} {es : List ME} {k ks : Nat} {tgt : Nat} {dflt lo hi : Int} {offs : Array Int} {len : Nat} {x : Int32} (d : decode M.2.1 pc = .ok (.tableswitch dflt lo hi offs, len)) (hx : x.toInt < lo ∨ hi < x.toInt) (ht : (pc : Int) + dflt = (tgt : Int)) (h : J M R Q n0 tgt L (rest) es k ks) : J M R Q n0 pc L (.int x :: rest) es k ks :=
  J.stk (st' := rest) (fun ad hxx hb ho htt hw => lv_tableOut hxx hb d hx ht hw) (fun n h => ws_tl h) h
theorem J_tabIn {M : MI} {R : Room} {Q : Res → List ME → Prop} {n0 pc nx : Nat} {L : List (Option Value)} {rest : List Value} {es : List ME} {k ks : Nat} {tgt : Nat} {dflt lo hi : Int} {offs : Array Int} {len : Nat} {x : Int32} {off : Int} (d : decode M.2.1 pc = .ok (.tableswitch dflt lo hi offs, len)) (h1 : ¬ x.toInt < lo) (h2 : ¬ hi < x.toInt) (ho : offs[(x.toInt - lo).toNat]? = some off) (ht : (pc : Int) + off = (tgt : Int)) (h : J M R Q n0 tgt L (rest) es k ks) : J M R Q n0 pc L (.int x :: rest) es k ks :=
  J.stk (st' := rest) (fun ad hxx hb ho1 htt hw => lv_tableIn hxx hb d h1 h2 ho ht hw) (fun n h => ws_tl h) h
theorem J_ifnullN {M : MI} {R : Room} {Q : Res → List ME → Prop} {n0 pc nx : Nat} {L : List (Option Value)} {rest : List Value} {es : List ME} {k ks : Nat} {tgt : Nat} {off : Int} (d : decode M.2.1 pc = .ok (.ifnull off, 3)) (hj : (pc : Int) + off = (tgt : Int)) (h : J M R Q n0 tgt L (rest) es k ks) : J M R Q n0 pc L (.null :: rest) es k ks :=
  J.stk (st' := rest) (fun ad hxx hb ho1 htt hw => lv_ifnullN hxx hb d hj hw) (fun n h => ws_tl h) h
theorem J_ifnullR {M : MI} {R : Room} {Q : Res → List ME → Prop} {n0 pc nx : Nat} {L : List (Option Value)} {rest : List Value} {es : List ME} {k ks : Nat} {a : Nat} {off : Int} (d : decode M.2.1 pc = .ok (.ifnull off, 3)) (hn : pc + 3 = nx) (h : J M R Q n0 nx L (rest) es k ks) : J M R Q n0 pc L (.ref a :: rest) es k ks := by
  subst hn
  exact J.stk (st' := rest) (fun ad hxx hb ho1 htt hw => lv_ifnull hxx hb d hw) (fun n h => ws_tl h) h
theorem J_ifnonnullR {M : MI} {R : Room} {Q : Res → List ME → Prop} {n0 pc nx : Nat} {L : List (Option Value)} {rest : List Value} {es : List ME} {k ks : Nat} {a tgt : Nat} {off : Int} (d : decode M.2.1 pc = .ok (.ifnonnull off, 3)) (hj : (pc : Int) + off = (tgt : Int)) (h : J M R Q n0 tgt L (rest) es k ks) : J M R Q n0 pc L (.ref a :: rest) es k ks :=
  J.stk (st' := rest) (fun ad hxx hb ho1 htt hw => lv_ifnonnull hxx hb d hj hw) (fun n h => ws_tl h) h
theorem J_ifnonnullN {M : MI} {R : Room} {Q : Res → List ME → Prop} {n0 pc nx : Nat} {L : List (Option Value)} {rest : List Value} {es : List ME} {k ks : Nat} {off : Int} (d : decode M.2.1 pc = .ok (.ifnonnull off, 3)) (hn : pc + 3 = nx) (h : J M R Q n0 nx L (rest) es k ks) : J M R Q n0 pc L (.null :: rest) es k ks := by
  subst hn
  exact J.stk (st' := rest) (fun ad hxx hb ho1 htt hw => lv_ifnonnullN hxx hb d hw) (fun n h => ws_tl h) h
theorem JcS0 {M : MI} {R : Room} {Q : Res → List ME → Prop} {n0 pc nx : Nat} {L : List (Option Value)} {rest : List Value} {g g1 : GS} {M' : MI} {R' : Room} {idx : Nat} {v : Option Value} (d : decode M.2.1 pc = .ok (.invokestatic idx, 3)) (hn : pc + 3 = nx) (hml : ML M' 0) (hlk : Cond.methodLink M.1.cls idx M'.1 ∈ TT) (hst : Cond.static M'.1 ∈ TT) (hroom : R'.frames + 1 ≤ R.frames ∧ 8 + (M'.2.2.1 + 11) + R'.locals ≤ R.locals) (hcat : (rest.map fun v => v.category).sum ≤ 8) (hz : R'.cells = 0 ∧ R'.slots = 0) (hct : Ct M' R' [] (Wd g) (RR (.inl v) g1)) (h : J M R Q n0 nx L (v.toList ++ rest) (Wd g1) 0 0) : J M R Q n0 pc L (rest) (Wd g) 0 0 :=
  J_callS (As := []) d hn hml hlk hst rfl hroom hcat ⟨by rw [hz.1]; exact Nat.zero_le _, by rw [hz.2]; exact Nat.zero_le _⟩ hct (fun E es' hq => by cases hq.1) (fun v' es' hq => by
    obtain ⟨h1, rfl⟩ := hq
    cases h1
    rw [hz.1, hz.2]
    exact h)
theorem JxS0 {M : MI} {R : Room} {Q : Res → List ME → Prop} {n0 pc nx : Nat} {L : List (Option Value)} {rest : List Value} {g g1 : GS} {M' : MI} {R' : Room} {idx : Nat} {P : Option Value → GS → Prop} (d : decode M.2.1 pc = .ok (.invokestatic idx, 3)) (hn : pc + 3 = nx) (hml : ML M' 0) (hlk : Cond.methodLink M.1.cls idx M'.1 ∈ TT) (hst : Cond.static M'.1 ∈ TT) (hroom : R'.frames + 1 ≤ R.frames ∧ 8 + (M'.2.2.1 + 11) + R'.locals ≤ R.locals) (hcat : (rest.map fun v => v.category).sum ≤ 8) (hz : R'.cells = 0 ∧ R'.slots = 0) (hct : Ct M' R' [] (Wd g) (RX P)) (h : ∀ (v : Option Value) (g1 : GS), P v g1 → J M R Q n0 nx L (v.toList ++ rest) (Wd g1) 0 0) : J M R Q n0 pc L (rest) (Wd g) 0 0 :=
  J_callS (As := []) d hn hml hlk hst rfl hroom hcat ⟨by rw [hz.1]; exact Nat.zero_le _, by rw [hz.2]; exact Nat.zero_le _⟩ hct (fun E es' hq => by obtain ⟨v, g1, h1, -⟩ := hq; cases h1) (fun v' es' hq => by
    obtain ⟨v, g1, h1, rfl, hp⟩ := hq
    cases h1
    rw [hz.1, hz.2]
    exact h _ _ hp)
theorem JcV0 {M : MI} {R : Room} {Q : Res → List ME → Prop} {n0 pc nx : Nat} {L : List (Option Value)} {rest : List Value} {g g1 : GS} {M' : MI} {R' : Room} {b : Nat} {idx : Nat} {v : Option Value} (d : decode M.2.1 pc = .ok (.invokevirtual idx, 3)) (hn : pc + 3 = nx) (hml : ML M' 0) (hlk : Cond.methodLink M.1.cls idx M'.1 ∈ TT) (hins : Cond.instanceMethod M'.1 ∈ TT ∧ Cond.selects M'.1.cls M'.1 M'.1 ∈ TT) {T : u_T} {N ci : Nat} (hcl : vwCl[ci]? = some (M'.1.cls, T, N)) {fs : List Value} (he : (Wd g)[b]? = some (.inr (ci, fs))) (hroom : R'.frames + 1 ≤ R.frames ∧ 8 + (M'.2.2.1 + 11) + R'.locals ≤ R.locals) (hcat : (rest.map fun v => v.category).sum ≤ 8) (hz : R'.cells = 0 ∧ R'.slots = 0) (hct : Ct M' R' (.ref b :: []) (Wd g) (RR (.inl v) g1)) (h : J M R Q n0 nx L (v.toList ++ rest) (Wd g1) 0 0) : J M R Q n0 pc L (.ref b :: rest) (Wd g) 0 0 :=
  J_callV (b := b) (As := []) d hn hml hlk hins hcl he rfl hroom hcat ⟨by rw [hz.1]; exact Nat.zero_le _, by rw [hz.2]; exact Nat.zero_le _⟩ hct (fun E es' hq => by cases hq.1) (fun v' es' hq => by
    obtain ⟨h1, rfl⟩ := hq
    cases h1
    rw [hz.1, hz.2]
    exact h)
theorem JxV0 {M : MI} {R : Room} {Q : Res → List ME → Prop} {n0 pc nx : Nat} {L : List (Option Value)} {rest : List Value} {g g1 : GS} {M' : MI} {R' : Room} {b : Nat} {idx : Nat} {P : Option Value → GS → Prop} (d : decode M.2.1 pc = .ok (.invokevirtual idx, 3)) (hn : pc + 3 = nx) (hml : ML M' 0) (hlk : Cond.methodLink M.1.cls idx M'.1 ∈ TT) (hins : Cond.instanceMethod M'.1 ∈ TT ∧ Cond.selects M'.1.cls M'.1 M'.1 ∈ TT) {T : u_T} {N ci : Nat} (hcl : vwCl[ci]? = some (M'.1.cls, T, N)) {fs : List Value} (he : (Wd g)[b]? = some (.inr (ci, fs))) (hroom : R'.frames + 1 ≤ R.frames ∧ 8 + (M'.2.2.1 + 11) + R'.locals ≤ R.locals) (hcat : (rest.map fun v => v.category).sum ≤ 8) (hz : R'.cells = 0 ∧ R'.slots = 0) (hct : Ct M' R' (.ref b :: []) (Wd g) (RX P)) (h : ∀ (v : Option Value) (g1 : GS), P v g1 → J M R Q n0 nx L (v.toList ++ rest) (Wd g1) 0 0) : J M R Q n0 pc L (.ref b :: rest) (Wd g) 0 0 :=
  J_callV (b := b) (As := []) d hn hml hlk hins hcl he rfl hroom hcat ⟨by rw [hz.1]; exact Nat.zero_le _, by rw [hz.2]; exact Nat.zero_le _⟩ hct (fun E es' hq => by obtain ⟨v, g1, h1, -⟩ := hq; cases h1) (fun v' es' hq => by
    obtain ⟨v, g1, h1, rfl, hp⟩ := hq
    cases h1
    rw [hz.1, hz.2]
    exact h _ _ hp)
theorem JcS1 {M : MI} {R : Room} {Q : Res → List ME → Prop} {n0 pc nx : Nat} {L : List (Option Value)} {rest : List Value} {g g1 : GS} {M' : MI} {R' : Room} {v1 : Value} {idx : Nat} {v : Option Value} (d : decode M.2.1 pc = .ok (.invokestatic idx, 3)) (hn : pc + 3 = nx) (hml : ML M' 1) (hlk : Cond.methodLink M.1.cls idx M'.1 ∈ TT) (hst : Cond.static M'.1 ∈ TT) (hroom : R'.frames + 1 ≤ R.frames ∧ 8 + (M'.2.2.1 + 11) + R'.locals ≤ R.locals) (hcat : (rest.map fun v => v.category).sum ≤ 8) (hz : R'.cells = 0 ∧ R'.slots = 0) (hct : Ct M' R' [v1] (Wd g) (RR (.inl v) g1)) (h : J M R Q n0 nx L (v.toList ++ rest) (Wd g1) 0 0) : J M R Q n0 pc L (v1 :: rest) (Wd g) 0 0 :=
  J_callS (As := [v1]) d hn hml hlk hst rfl hroom hcat ⟨by rw [hz.1]; exact Nat.zero_le _, by rw [hz.2]; exact Nat.zero_le _⟩ hct (fun E es' hq => by cases hq.1) (fun v' es' hq => by
    obtain ⟨h1, rfl⟩ := hq
    cases h1
    rw [hz.1, hz.2]
    exact h)
theorem JxS1 {M : MI} {R : Room} {Q : Res → List ME → Prop} {n0 pc nx : Nat} {L : List (Option Value)} {rest : List Value} {g g1 : GS} {M' : MI} {R' : Room} {v1 : Value} {idx : Nat} {P : Option Value → GS → Prop} (d : decode M.2.1 pc = .ok (.invokestatic idx, 3)) (hn : pc + 3 = nx) (hml : ML M' 1) (hlk : Cond.methodLink M.1.cls idx M'.1 ∈ TT) (hst : Cond.static M'.1 ∈ TT) (hroom : R'.frames + 1 ≤ R.frames ∧ 8 + (M'.2.2.1 + 11) + R'.locals ≤ R.locals) (hcat : (rest.map fun v => v.category).sum ≤ 8) (hz : R'.cells = 0 ∧ R'.slots = 0) (hct : Ct M' R' [v1] (Wd g) (RX P)) (h : ∀ (v : Option Value) (g1 : GS), P v g1 → J M R Q n0 nx L (v.toList ++ rest) (Wd g1) 0 0) : J M R Q n0 pc L (v1 :: rest) (Wd g) 0 0 :=
  J_callS (As := [v1]) d hn hml hlk hst rfl hroom hcat ⟨by rw [hz.1]; exact Nat.zero_le _, by rw [hz.2]; exact Nat.zero_le _⟩ hct (fun E es' hq => by obtain ⟨v, g1, h1, -⟩ := hq; cases h1) (fun v' es' hq => by
    obtain ⟨v, g1, h1, rfl, hp⟩ := hq
    cases h1
    rw [hz.1, hz.2]
    exact h _ _ hp)
theorem JcV1 {M : MI} {R : Room} {Q : Res → List ME → Prop} {n0 pc nx : Nat} {L : List (Option Value)} {rest : List Value} {g g1 : GS} {M' : MI} {R' : Room} {v1 : Value} {b : Nat} {idx : Nat} {v : Option Value} (d : decode M.2.1 pc = .ok (.invokevirtual idx, 3)) (hn : pc + 3 = nx) (hml : ML M' 1) (hlk : Cond.methodLink M.1.cls idx M'.1 ∈ TT) (hins : Cond.instanceMethod M'.1 ∈ TT ∧ Cond.selects M'.1.cls M'.1 M'.1 ∈ TT) {T : u_T} {N ci : Nat} (hcl : vwCl[ci]? = some (M'.1.cls, T, N)) {fs : List Value} (he : (Wd g)[b]? = some (.inr (ci, fs))) (hroom : R'.frames + 1 ≤ R.frames ∧ 8 + (M'.2.2.1 + 11) + R'.locals ≤ R.locals) (hcat : (rest.map fun v => v.category).sum ≤ 8) (hz : R'.cells = 0 ∧ R'.slots = 0) (hct : Ct M' R' (.ref b :: [v1]) (Wd g) (RR (.inl v) g1)) (h : J M R Q n0 nx L (v.toList ++ rest) (Wd g1) 0 0) : J M R Q n0 pc L (v1 :: .ref b :: rest) (Wd g) 0 0 :=
  J_callV (b := b) (As := [v1]) d hn hml hlk hins hcl he rfl hroom hcat ⟨by rw [hz.1]; exact Nat.zero_le _, by rw [hz.2]; exact Nat.zero_le _⟩ hct (fun E es' hq => by cases hq.1) (fun v' es' hq => by
    obtain ⟨h1, rfl⟩ := hq
    cases h1
    rw [hz.1, hz.2]
    exact h)
theorem JxV1 {M : MI} {R : Room} {Q : Res → List ME → Prop} {n0 pc nx : Nat} {L : List (Option Value)} {rest : List Value} {g g1 : GS} {M' : MI} {R' : Room} {v1 : Value} {b : Nat} {idx : Nat} {P : Option Value → GS → Prop} (d : decode M.2.1 pc = .ok (.invokevirtual idx, 3)) (hn : pc + 3 = nx) (hml : ML M' 1) (hlk : Cond.methodLink M.1.cls idx M'.1 ∈ TT) (hins : Cond.instanceMethod M'.1 ∈ TT ∧ Cond.selects M'.1.cls M'.1 M'.1 ∈ TT) {T : u_T} {N ci : Nat} (hcl : vwCl[ci]? = some (M'.1.cls, T, N)) {fs : List Value} (he : (Wd g)[b]? = some (.inr (ci, fs))) (hroom : R'.frames + 1 ≤ R.frames ∧ 8 + (M'.2.2.1 + 11) + R'.locals ≤ R.locals) (hcat : (rest.map fun v => v.category).sum ≤ 8) (hz : R'.cells = 0 ∧ R'.slots = 0) (hct : Ct M' R' (.ref b :: [v1]) (Wd g) (RX P)) (h : ∀ (v : Option Value) (g1 : GS), P v g1 → J M R Q n0 nx L (v.toList ++ rest) (Wd g1) 0 0) : J M R Q n0 pc L (v1 :: .ref b :: rest) (Wd g) 0 0 :=
  J_callV (b := b) (As := [v1]) d hn hml hlk hins hcl he rfl hroom hcat ⟨by rw [hz.1]; exact Nat.zero_le _, by rw [hz.2]; exact Nat.zero_le _⟩ hct (fun E es' hq => by obtain ⟨v, g1, h1, -⟩ := hq; cases h1) (fun v' es' hq => by
    obtain ⟨v, g1, h1, rfl, hp⟩ := hq
    cases h1
    rw [hz.1, hz.2]
    exact h _ _ hp)
theorem JcS2 {M : MI} {R : Room} {Q : Res → List ME → Prop} {n0 pc nx : Nat} {L : List (Option Value)} {rest : List Value} {g g1 : GS} {M' : MI} {R' : Room} {v1 v2 : Value} {idx : Nat} {v : Option Value} (d : decode M.2.1 pc = .ok (.invokestatic idx, 3)) (hn : pc + 3 = nx) (hml : ML M' 2) (hlk : Cond.methodLink M.1.cls idx M'.1 ∈ TT) (hst : Cond.static M'.1 ∈ TT) (hroom : R'.frames + 1 ≤ R.frames ∧ 8 + (M'.2.2.1 + 11) + R'.locals ≤ R.locals) (hcat : (rest.map fun v => v.category).sum ≤ 8) (hz : R'.cells = 0 ∧ R'.slots = 0) (hct : Ct M' R' [v1, v2] (Wd g) (RR (.inl v) g1)) (h : J M R Q n0 nx L (v.toList ++ rest) (Wd g1) 0 0) : J M R Q n0 pc L (v2 :: v1 :: rest) (Wd g) 0 0 :=
  J_callS (As := [v1, v2]) d hn hml hlk hst rfl hroom hcat ⟨by rw [hz.1]; exact Nat.zero_le _, by rw [hz.2]; exact Nat.zero_le _⟩ hct (fun E es' hq => by cases hq.1) (fun v' es' hq => by
    obtain ⟨h1, rfl⟩ := hq
    cases h1
    rw [hz.1, hz.2]
    exact h)
theorem JxS2 {M : MI} {R : Room} {Q : Res → List ME → Prop} {n0 pc nx : Nat} {L : List (Option Value)} {rest : List Value} {g g1 : GS} {M' : MI} {R' : Room} {v1 v2 : Value} {idx : Nat} {P : Option Value → GS → Prop} (d : decode M.2.1 pc = .ok (.invokestatic idx, 3)) (hn : pc + 3 = nx) (hml : ML M' 2) (hlk : Cond.methodLink M.1.cls idx M'.1 ∈ TT) (hst : Cond.static M'.1 ∈ TT) (hroom : R'.frames + 1 ≤ R.frames ∧ 8 + (M'.2.2.1 + 11) + R'.locals ≤ R.locals) (hcat : (rest.map fun v => v.category).sum ≤ 8) (hz : R'.cells = 0 ∧ R'.slots = 0) (hct : Ct M' R' [v1, v2] (Wd g) (RX P)) (h : ∀ (v : Option Value) (g1 : GS), P v g1 → J M R Q n0 nx L (v.toList ++ rest) (Wd g1) 0 0) : J M R Q n0 pc L (v2 :: v1 :: rest) (Wd g) 0 0 :=
  J_callS (As := [v1, v2]) d hn hml hlk hst rfl hroom hcat ⟨by rw [hz.1]; exact Nat.zero_le _, by rw [hz.2]; exact Nat.zero_le _⟩ hct (fun E es' hq => by obtain ⟨v, g1, h1, -⟩ := hq; cases h1) (fun v' es' hq => by
    obtain ⟨v, g1, h1, rfl, hp⟩ := hq
    cases h1
    rw [hz.1, hz.2]
    exact h _ _ hp)
theorem JcV2 {M : MI} {R : Room} {Q : Res → List ME → Prop} {n0 pc nx : Nat} {L : List (Option Value)} {rest : List Value} {g g1 : GS} {M' : MI} {R' : Room} {v1 v2 : Value} {b : Nat} {idx : Nat} {v : Option Value} (d : decode M.2.1 pc = .ok (.invokevirtual idx, 3)) (hn : pc + 3 = nx) (hml : ML M' 2) (hlk : Cond.methodLink M.1.cls idx M'.1 ∈ TT) (hins : Cond.instanceMethod M'.1 ∈ TT ∧ Cond.selects M'.1.cls M'.1 M'.1 ∈ TT) {T : u_T} {N ci : Nat} (hcl : vwCl[ci]? = some (M'.1.cls, T, N)) {fs : List Value} (he : (Wd g)[b]? = some (.inr (ci, fs))) (hroom : R'.frames + 1 ≤ R.frames ∧ 8 + (M'.2.2.1 + 11) + R'.locals ≤ R.locals) (hcat : (rest.map fun v => v.category).sum ≤ 8) (hz : R'.cells = 0 ∧ R'.slots = 0) (hct : Ct M' R' (.ref b :: [v1, v2]) (Wd g) (RR (.inl v) g1)) (h : J M R Q n0 nx L (v.toList ++ rest) (Wd g1) 0 0) : J M R Q n0 pc L (v2 :: v1 :: .ref b :: rest) (Wd g) 0 0 :=
  J_callV (b := b) (As := [v1, v2]) d hn hml hlk hins hcl he rfl hroom hcat ⟨by rw [hz.1]; exact Nat.zero_le _, by rw [hz.2]; exact Nat.zero_le _⟩ hct (fun E es' hq => by cases hq.1) (fun v' es' hq => by
    obtain ⟨h1, rfl⟩ := hq
    cases h1
    rw [hz.1, hz.2]
    exact h)
theorem JxV2 {M : MI} {R : Room} {Q : Res → List ME → Prop} {n0 pc nx : Nat} {L : List (Option Value)} {rest : List Value} {g g1 : GS} {M' : MI} {R' : Room} {v1 v2 : Value} {b : Nat} {idx : Nat} {P : Option Value → GS → Prop} (d : decode M.2.1 pc = .ok (.invokevirtual idx, 3)) (hn : pc + 3 = nx) (hml : ML M' 2) (hlk : Cond.methodLink M.1.cls idx M'.1 ∈ TT) (hins : Cond.instanceMethod M'.1 ∈ TT ∧ Cond.selects M'.1.cls M'.1 M'.1 ∈ TT) {T : u_T} {N ci : Nat} (hcl : vwCl[ci]? = some (M'.1.cls, T, N)) {fs : List Value} (he : (Wd g)[b]? = some (.inr (ci, fs))) (hroom : R'.frames + 1 ≤ R.frames ∧ 8 + (M'.2.2.1 + 11) + R'.locals ≤ R.locals) (hcat : (rest.map fun v => v.category).sum ≤ 8) (hz : R'.cells = 0 ∧ R'.slots = 0) (hct : Ct M' R' (.ref b :: [v1, v2]) (Wd g) (RX P)) (h : ∀ (v : Option Value) (g1 : GS), P v g1 → J M R Q n0 nx L (v.toList ++ rest) (Wd g1) 0 0) : J M R Q n0 pc L (v2 :: v1 :: .ref b :: rest) (Wd g) 0 0 :=
  J_callV (b := b) (As := [v1, v2]) d hn hml hlk hins hcl he rfl hroom hcat ⟨by rw [hz.1]; exact Nat.zero_le _, by rw [hz.2]; exact Nat.zero_le _⟩ hct (fun E es' hq => by obtain ⟨v, g1, h1, -⟩ := hq; cases h1) (fun v' es' hq => by
    obtain ⟨v, g1, h1, rfl, hp⟩ := hq
    cases h1
    rw [hz.1, hz.2]
    exact h _ _ hp)
theorem JcS3 {M : MI} {R : Room} {Q : Res → List ME → Prop} {n0 pc nx : Nat} {L : List (Option Value)} {rest : List Value} {g g1 : GS} {M' : MI} {R' : Room} {v1 v2 v3 : Value} {idx : Nat} {v : Option Value} (d : decode M.2.1 pc = .ok (.invokestatic idx, 3)) (hn : pc + 3 = nx) (hml : ML M' 3) (hlk : Cond.methodLink M.1.cls idx M'.1 ∈ TT) (hst : Cond.static M'.1 ∈ TT) (hroom : R'.frames + 1 ≤ R.frames ∧ 8 + (M'.2.2.1 + 11) + R'.locals ≤ R.locals) (hcat : (rest.map fun v => v.category).sum ≤ 8) (hz : R'.cells = 0 ∧ R'.slots = 0) (hct : Ct M' R' [v1, v2, v3] (Wd g) (RR (.inl v) g1)) (h : J M R Q n0 nx L (v.toList ++ rest) (Wd g1) 0 0) : J M R Q n0 pc L (v3 :: v2 :: v1 :: rest) (Wd g) 0 0 :=
  J_callS (As := [v1, v2, v3]) d hn hml hlk hst rfl hroom hcat ⟨by rw [hz.1]; exact Nat.zero_le _, by rw [hz.2]; exact Nat.zero_le _⟩ hct (fun E es' hq => by cases hq.1) (fun v' es' hq => by
    obtain ⟨h1, rfl⟩ := hq
    cases h1
    rw [hz.1, hz.2]
    exact h)
theorem JxS3 {M : MI} {R : Room} {Q : Res → List ME → Prop} {n0 pc nx : Nat} {L : List (Option Value)} {rest : List Value} {g g1 : GS} {M' : MI} {R' : Room} {v1 v2 v3 : Value} {idx : Nat} {P : Option Value → GS → Prop} (d : decode M.2.1 pc = .ok (.invokestatic idx, 3)) (hn : pc + 3 = nx) (hml : ML M' 3) (hlk : Cond.methodLink M.1.cls idx M'.1 ∈ TT) (hst : Cond.static M'.1 ∈ TT) (hroom : R'.frames + 1 ≤ R.frames ∧ 8 + (M'.2.2.1 + 11) + R'.locals ≤ R.locals) (hcat : (rest.map fun v => v.category).sum ≤ 8) (hz : R'.cells = 0 ∧ R'.slots = 0) (hct : Ct M' R' [v1, v2, v3] (Wd g) (RX P)) (h : ∀ (v : Option Value) (g1 : GS), P v g1 → J M R Q n0 nx L (v.toList ++ rest) (Wd g1) 0 0) : J M R Q n0 pc L (v3 :: v2 :: v1 :: rest) (Wd g) 0 0 :=
  J_callS (As := [v1, v2, v3]) d hn hml hlk hst rfl hroom hcat ⟨by rw [hz.1]; exact Nat.zero_le _, by rw [hz.2]; exact Nat.zero_le _⟩ hct (fun E es' hq => by obtain ⟨v, g1, h1, -⟩ := hq; cases h1) (fun v' es' hq => by
    obtain ⟨v, g1, h1, rfl, hp⟩ := hq
    cases h1
    rw [hz.1, hz.2]
    exact h _ _ hp)
theorem JcV3 {M : MI} {R : Room} {Q : Res → List ME → Prop} {n0 pc nx : Nat} {L : List (Option Value)} {rest : List Value} {g g1 : GS} {M' : MI} {R' : Room} {v1 v2 v3 : Value} {b : Nat} {idx : Nat} {v : Option Value} (d : decode M.2.1 pc = .ok (.invokevirtual idx, 3)) (hn : pc + 3 = nx) (hml : ML M' 3) (hlk : Cond.methodLink M.1.cls idx M'.1 ∈ TT) (hins : Cond.instanceMethod M'.1 ∈ TT ∧ Cond.selects M'.1.cls M'.1 M'.1 ∈ TT) {T : u_T} {N ci : Nat} (hcl : vwCl[ci]? = some (M'.1.cls, T, N)) {fs : List Value} (he : (Wd g)[b]? = some (.inr (ci, fs))) (hroom : R'.frames + 1 ≤ R.frames ∧ 8 + (M'.2.2.1 + 11) + R'.locals ≤ R.locals) (hcat : (rest.map fun v => v.category).sum ≤ 8) (hz : R'.cells = 0 ∧ R'.slots = 0) (hct : Ct M' R' (.ref b :: [v1, v2, v3]) (Wd g) (RR (.inl v) g1)) (h : J M R Q n0 nx L (v.toList ++ rest) (Wd g1) 0 0) : J M R Q n0 pc L (v3 :: v2 :: v1 :: .ref b :: rest) (Wd g) 0 0 :=
  J_callV (b := b) (As := [v1, v2, v3]) d hn hml hlk hins hcl he rfl hroom hcat ⟨by rw [hz.1]; exact Nat.zero_le _, by rw [hz.2]; exact Nat.zero_le _⟩ hct (fun E es' hq => by cases hq.1) (fun v' es' hq => by
    obtain ⟨h1, rfl⟩ := hq
    cases h1
    rw [hz.1, hz.2]
    exact h)
theorem JxV3 {M : MI} {R : Room} {Q : Res → List ME → Prop} {n0 pc nx : Nat} {L : List (Option Value)} {rest : List Value} {g g1 : GS} {M' : MI} {R' : Room} {v1 v2 v3 : Value} {b : Nat} {idx : Nat} {P : Option Value → GS → Prop} (d : decode M.2.1 pc = .ok (.invokevirtual idx, 3)) (hn : pc + 3 = nx) (hml : ML M' 3) (hlk : Cond.methodLink M.1.cls idx M'.1 ∈ TT) (hins : Cond.instanceMethod M'.1 ∈ TT ∧ Cond.selects M'.1.cls M'.1 M'.1 ∈ TT) {T : u_T} {N ci : Nat} (hcl : vwCl[ci]? = some (M'.1.cls, T, N)) {fs : List Value} (he : (Wd g)[b]? = some (.inr (ci, fs))) (hroom : R'.frames + 1 ≤ R.frames ∧ 8 + (M'.2.2.1 + 11) + R'.locals ≤ R.locals) (hcat : (rest.map fun v => v.category).sum ≤ 8) (hz : R'.cells = 0 ∧ R'.slots = 0) (hct : Ct M' R' (.ref b :: [v1, v2, v3]) (Wd g) (RX P)) (h : ∀ (v : Option Value) (g1 : GS), P v g1 → J M R Q n0 nx L (v.toList ++ rest) (Wd g1) 0 0) : J M R Q n0 pc L (v3 :: v2 :: v1 :: .ref b :: rest) (Wd g) 0 0 :=
  J_callV (b := b) (As := [v1, v2, v3]) d hn hml hlk hins hcl he rfl hroom hcat ⟨by rw [hz.1]; exact Nat.zero_le _, by rw [hz.2]; exact Nat.zero_le _⟩ hct (fun E es' hq => by obtain ⟨v, g1, h1, -⟩ := hq; cases h1) (fun v' es' hq => by
    obtain ⟨v, g1, h1, rfl, hp⟩ := hq
    cases h1
    rw [hz.1, hz.2]
    exact h _ _ hp)
theorem JcS4 {M : MI} {R : Room} {Q : Res → List ME → Prop} {n0 pc nx : Nat} {L : List (Option Value)} {rest : List Value} {g g1 : GS} {M' : MI} {R' : Room} {v1 v2 v3 v4 : Value} {idx : Nat} {v : Option Value} (d : decode M.2.1 pc = .ok (.invokestatic idx, 3)) (hn : pc + 3 = nx) (hml : ML M' 4) (hlk : Cond.methodLink M.1.cls idx M'.1 ∈ TT) (hst : Cond.static M'.1 ∈ TT) (hroom : R'.frames + 1 ≤ R.frames ∧ 8 + (M'.2.2.1 + 11) + R'.locals ≤ R.locals) (hcat : (rest.map fun v => v.category).sum ≤ 8) (hz : R'.cells = 0 ∧ R'.slots = 0) (hct : Ct M' R' [v1, v2, v3, v4] (Wd g) (RR (.inl v) g1)) (h : J M R Q n0 nx L (v.toList ++ rest) (Wd g1) 0 0) : J M R Q n0 pc L (v4 :: v3 :: v2 :: v1 :: rest) (Wd g) 0 0 :=
  J_callS (As := [v1, v2, v3, v4]) d hn hml hlk hst rfl hroom hcat ⟨by rw [hz.1]; exact Nat.zero_le _, by rw [hz.2]; exact Nat.zero_le _⟩ hct (fun E es' hq => by cases hq.1) (fun v' es' hq => by
    obtain ⟨h1, rfl⟩ := hq
    cases h1
    rw [hz.1, hz.2]
    exact h)
theorem JxS4 {M : MI} {R : Room} {Q : Res → List ME → Prop} {n0 pc nx : Nat} {L : List (Option Value)} {rest : List Value} {g g1 : GS} {M' : MI} {R' : Room} {v1 v2 v3 v4 : Value} {idx : Nat} {P : Option Value → GS → Prop} (d : decode M.2.1 pc = .ok (.invokestatic idx, 3)) (hn : pc + 3 = nx) (hml : ML M' 4) (hlk : Cond.methodLink M.1.cls idx M'.1 ∈ TT) (hst : Cond.static M'.1 ∈ TT) (hroom : R'.frames + 1 ≤ R.frames ∧ 8 + (M'.2.2.1 + 11) + R'.locals ≤ R.locals) (hcat : (rest.map fun v => v.category).sum ≤ 8) (hz : R'.cells = 0 ∧ R'.slots = 0) (hct : Ct M' R' [v1, v2, v3, v4] (Wd g) (RX P)) (h : ∀ (v : Option Value) (g1 : GS), P v g1 → J M R Q n0 nx L (v.toList ++ rest) (Wd g1) 0 0) : J M R Q n0 pc L (v4 :: v3 :: v2 :: v1 :: rest) (Wd g) 0 0 :=
  J_callS (As := [v1, v2, v3, v4]) d hn hml hlk hst rfl hroom hcat ⟨by rw [hz.1]; exact Nat.zero_le _, by rw [hz.2]; exact Nat.zero_le _⟩ hct (fun E es' hq => by obtain ⟨v, g1, h1, -⟩ := hq; cases h1) (fun v' es' hq => by
    obtain ⟨v, g1, h1, rfl, hp⟩ := hq
    cases h1
    rw [hz.1, hz.2]
    exact h _ _ hp)
theorem JcV4 {M : MI} {R : Room} {Q : Res → List ME → Prop} {n0 pc nx : Nat} {L : List (Option Value)} {rest : List Value} {g g1 : GS} {M' : MI} {R' : Room} {v1 v2 v3 v4 : Value} {b : Nat} {idx : Nat} {v : Option Value} (d : decode M.2.1 pc = .ok (.invokevirtual idx, 3)) (hn : pc + 3 = nx) (hml : ML M' 4) (hlk : Cond.methodLink M.1.cls idx M'.1 ∈ TT) (hins : Cond.instanceMethod M'.1 ∈ TT ∧ Cond.selects M'.1.cls M'.1 M'.1 ∈ TT) {T : u_T} {N ci : Nat} (hcl : vwCl[ci]? = some (M'.1.cls, T, N)) {fs : List Value} (he : (Wd g)[b]? = some (.inr (ci, fs))) (hroom : R'.frames + 1 ≤ R.frames ∧ 8 + (M'.2.2.1 + 11) + R'.locals ≤ R.locals) (hcat : (rest.map fun v => v.category).sum ≤ 8) (hz : R'.cells = 0 ∧ R'.slots = 0) (hct : Ct M' R' (.ref b :: [v1, v2, v3, v4]) (Wd g) (RR (.inl v) g1)) (h : J M R Q n0 nx L (v.toList ++ rest) (Wd g1) 0 0) : J M R Q n0 pc L (v4 :: v3 :: v2 :: v1 :: .ref b :: rest) (Wd g) 0 0 :=
  J_callV (b := b) (As := [v1, v2, v3, v4]) d hn hml hlk hins hcl he rfl hroom hcat ⟨by rw [hz.1]; exact Nat.zero_le _, by rw [hz.2]; exact Nat.zero_le _⟩ hct (fun E es' hq => by cases hq.1) (fun v' es' hq => by
    obtain ⟨h1, rfl⟩ := hq
    cases h1
    rw [hz.1, hz.2]
    exact h)
theorem JxV4 {M : MI} {R : Room} {Q : Res → List ME → Prop} {n0 pc nx : Nat} {L : List (Option Value)} {rest : List Value} {g g1 : GS} {M' : MI} {R' : Room} {v1 v2 v3 v4 : Value} {b : Nat} {idx : Nat} {P : Option Value → GS → Prop} (d : decode M.2.1 pc = .ok (.invokevirtual idx, 3)) (hn : pc + 3 = nx) (hml : ML M' 4) (hlk : Cond.methodLink M.1.cls idx M'.1 ∈ TT) (hins : Cond.instanceMethod M'.1 ∈ TT ∧ Cond.selects M'.1.cls M'.1 M'.1 ∈ TT) {T : u_T} {N ci : Nat} (hcl : vwCl[ci]? = some (M'.1.cls, T, N)) {fs : List Value} (he : (Wd g)[b]? = some (.inr (ci, fs))) (hroom : R'.frames + 1 ≤ R.frames ∧ 8 + (M'.2.2.1 + 11) + R'.locals ≤ R.locals) (hcat : (rest.map fun v => v.category).sum ≤ 8) (hz : R'.cells = 0 ∧ R'.slots = 0) (hct : Ct M' R' (.ref b :: [v1, v2, v3, v4]) (Wd g) (RX P)) (h : ∀ (v : Option Value) (g1 : GS), P v g1 → J M R Q n0 nx L (v.toList ++ rest) (Wd g1) 0 0) : J M R Q n0 pc L (v4 :: v3 :: v2 :: v1 :: .ref b :: rest) (Wd g) 0 0 :=
  J_callV (b := b) (As := [v1, v2, v3, v4]) d hn hml hlk hins hcl he rfl hroom hcat ⟨by rw [hz.1]; exact Nat.zero_le _, by rw [hz.2]; exact Nat.zero_le _⟩ hct (fun E es' hq => by obtain ⟨v, g1, h1, -⟩ := hq; cases h1) (fun v' es' hq => by
    obtain ⟨v, g1, h1, rfl, hp⟩ := hq
    cases h1
    rw [hz.1, hz.2]
    exact h _ _ hp)
theorem JcS5 {M : MI} {R : Room} {Q : Res → List ME → Prop} {n0 pc nx : Nat} {L : List (Option Value)} {rest : List Value} {g g1 : GS} {M' : MI} {R' : Room} {v1 v2 v3 v4 v5 : Value} {idx : Nat} {v : Option Value} (d : decode M.2.1 pc = .ok (.invokestatic idx, 3)) (hn : pc + 3 = nx) (hml : ML M' 5) (hlk : Cond.methodLink M.1.cls idx M'.1 ∈ TT) (hst : Cond.static M'.1 ∈ TT) (hroom : R'.frames + 1 ≤ R.frames ∧ 8 + (M'.2.2.1 + 11) + R'.locals ≤ R.locals) (hcat : (rest.map fun v => v.category).sum ≤ 8) (hz : R'.cells = 0 ∧ R'.slots = 0) (hct : Ct M' R' [v1, v2, v3, v4, v5] (Wd g) (RR (.inl v) g1)) (h : J M R Q n0 nx L (v.toList ++ rest) (Wd g1) 0 0) : J M R Q n0 pc L (v5 :: v4 :: v3 :: v2 :: v1 :: rest) (Wd g) 0 0 :=
  J_callS (As := [v1, v2, v3, v4, v5]) d hn hml hlk hst rfl hroom hcat ⟨by rw [hz.1]; exact Nat.zero_le _, by rw [hz.2]; exact Nat.zero_le _⟩ hct (fun E es' hq => by cases hq.1) (fun v' es' hq => by
    obtain ⟨h1, rfl⟩ := hq
    cases h1
    rw [hz.1, hz.2]
    exact h)
theorem JxS5 {M : MI} {R : Room} {Q : Res → List ME → Prop} {n0 pc nx : Nat} {L : List (Option Value)} {rest : List Value} {g g1 : GS} {M' : MI} {R' : Room} {v1 v2 v3 v4 v5 : Value} {idx : Nat} {P : Option Value → GS → Prop} (d : decode M.2.1 pc = .ok (.invokestatic idx, 3)) (hn : pc + 3 = nx) (hml : ML M' 5) (hlk : Cond.methodLink M.1.cls idx M'.1 ∈ TT) (hst : Cond.static M'.1 ∈ TT) (hroom : R'.frames + 1 ≤ R.frames ∧ 8 + (M'.2.2.1 + 11) + R'.locals ≤ R.locals) (hcat : (rest.map fun v => v.category).sum ≤ 8) (hz : R'.cells = 0 ∧ R'.slots = 0) (hct : Ct M' R' [v1, v2, v3, v4, v5] (Wd g) (RX P)) (h : ∀ (v : Option Value) (g1 : GS), P v g1 → J M R Q n0 nx L (v.toList ++ rest) (Wd g1) 0 0) : J M R Q n0 pc L (v5 :: v4 :: v3 :: v2 :: v1 :: rest) (Wd g) 0 0 :=
  J_callS (As := [v1, v2, v3, v4, v5]) d hn hml hlk hst rfl hroom hcat ⟨by rw [hz.1]; exact Nat.zero_le _, by rw [hz.2]; exact Nat.zero_le _⟩ hct (fun E es' hq => by obtain ⟨v, g1, h1, -⟩ := hq; cases h1) (fun v' es' hq => by
    obtain ⟨v, g1, h1, rfl, hp⟩ := hq
    cases h1
    rw [hz.1, hz.2]
    exact h _ _ hp)
theorem JcV5 {M : MI} {R : Room} {Q : Res → List ME → Prop} {n0 pc nx : Nat} {L : List (Option Value)} {rest : List Value} {g g1 : GS} {M' : MI} {R' : Room} {v1 v2 v3 v4 v5 : Value} {b : Nat} {idx : Nat} {v : Option Value} (d : decode M.2.1 pc = .ok (.invokevirtual idx, 3)) (hn : pc + 3 = nx) (hml : ML M' 5) (hlk : Cond.methodLink M.1.cls idx M'.1 ∈ TT) (hins : Cond.instanceMethod M'.1 ∈ TT ∧ Cond.selects M'.1.cls M'.1 M'.1 ∈ TT) {T : u_T} {N ci : Nat} (hcl : vwCl[ci]? = some (M'.1.cls, T, N)) {fs : List Value} (he : (Wd g)[b]? = some (.inr (ci, fs))) (hroom : R'.frames + 1 ≤ R.frames ∧ 8 + (M'.2.2.1 + 11) + R'.locals ≤ R.locals) (hcat : (rest.map fun v => v.category).sum ≤ 8) (hz : R'.cells = 0 ∧ R'.slots = 0) (hct : Ct M' R' (.ref b :: [v1, v2, v3, v4, v5]) (Wd g) (RR (.inl v) g1)) (h : J M R Q n0 nx L (v.toList ++ rest) (Wd g1) 0 0) : J M R Q n0 pc L (v5 :: v4 :: v3 :: v2 :: v1 :: .ref b :: rest) (Wd g) 0 0 :=
  J_callV (b := b) (As := [v1, v2, v3, v4, v5]) d hn hml hlk hins hcl he rfl hroom hcat ⟨by rw [hz.1]; exact Nat.zero_le _, by rw [hz.2]; exact Nat.zero_le _⟩ hct (fun E es' hq => by cases hq.1) (fun v' es' hq => by
    obtain ⟨h1, rfl⟩ := hq
    cases h1
    rw [hz.1, hz.2]
    exact h)
theorem JxV5 {M : MI} {R : Room} {Q : Res → List ME → Prop} {n0 pc nx : Nat} {L : List (Option Value)} {rest : List Value} {g g1 : GS} {M' : MI} {R' : Room} {v1 v2 v3 v4 v5 : Value} {b : Nat} {idx : Nat} {P : Option Value → GS → Prop} (d : decode M.2.1 pc = .ok (.invokevirtual idx, 3)) (hn : pc + 3 = nx) (hml : ML M' 5) (hlk : Cond.methodLink M.1.cls idx M'.1 ∈ TT) (hins : Cond.instanceMethod M'.1 ∈ TT ∧ Cond.selects M'.1.cls M'.1 M'.1 ∈ TT) {T : u_T} {N ci : Nat} (hcl : vwCl[ci]? = some (M'.1.cls, T, N)) {fs : List Value} (he : (Wd g)[b]? = some (.inr (ci, fs))) (hroom : R'.frames + 1 ≤ R.frames ∧ 8 + (M'.2.2.1 + 11) + R'.locals ≤ R.locals) (hcat : (rest.map fun v => v.category).sum ≤ 8) (hz : R'.cells = 0 ∧ R'.slots = 0) (hct : Ct M' R' (.ref b :: [v1, v2, v3, v4, v5]) (Wd g) (RX P)) (h : ∀ (v : Option Value) (g1 : GS), P v g1 → J M R Q n0 nx L (v.toList ++ rest) (Wd g1) 0 0) : J M R Q n0 pc L (v5 :: v4 :: v3 :: v2 :: v1 :: .ref b :: rest) (Wd g) 0 0 :=
  J_callV (b := b) (As := [v1, v2, v3, v4, v5]) d hn hml hlk hins hcl he rfl hroom hcat ⟨by rw [hz.1]; exact Nat.zero_le _, by rw [hz.2]; exact Nat.zero_le _⟩ hct (fun E es' hq => by obtain ⟨v, g1, h1, -⟩ := hq; cases h1) (fun v' es' hq => by
    obtain ⟨v, g1, h1, rfl, hp⟩ := hq
    cases h1
    rw [hz.1, hz.2]
    exact h _ _ hp)
theorem JcS6 {M : MI} {R : Room} {Q : Res → List ME → Prop} {n0 pc nx : Nat} {L : List (Option Value)} {rest : List Value} {g g1 : GS} {M' : MI} {R' : Room} {v1 v2 v3 v4 v5 v6 : Value} {idx : Nat} {v : Option Value} (d : decode M.2.1 pc = .ok (.invokestatic idx, 3)) (hn : pc + 3 = nx) (hml : ML M' 6) (hlk : Cond.methodLink M.1.cls idx M'.1 ∈ TT) (hst : Cond.static M'.1 ∈ TT) (hroom : R'.frames + 1 ≤ R.frames ∧ 8 + (M'.2.2.1 + 11) + R'.locals ≤ R.locals) (hcat : (rest.map fun v => v.category).sum ≤ 8) (hz : R'.cells = 0 ∧ R'.slots = 0) (hct : Ct M' R' [v1, v2, v3, v4, v5, v6] (Wd g) (RR (.inl v) g1)) (h : J M R Q n0 nx L (v.toList ++ rest) (Wd g1) 0 0) : J M R Q n0 pc L (v6 :: v5 :: v4 :: v3 :: v2 :: v1 :: rest) (Wd g) 0 0 :=
  J_callS (As := [v1, v2, v3, v4, v5, v6]) d hn hml hlk hst rfl hroom hcat ⟨by rw [hz.1]; exact Nat.zero_le _, by rw [hz.2]; exact Nat.zero_le _⟩ hct (fun E es' hq => by cases hq.1) (fun v' es' hq => by
    obtain ⟨h1, rfl⟩ := hq
    cases h1
    rw [hz.1, hz.2]
    exact h)
theorem JxS6 {M : MI} {R : Room} {Q : Res → List ME → Prop} {n0 pc nx : Nat} {L : List (Option Value)} {rest : List Value} {g g1 : GS} {M' : MI} {R' : Room} {v1 v2 v3 v4 v5 v6 : Value} {idx : Nat} {P : Option Value → GS → Prop} (d : decode M.2.1 pc = .ok (.invokestatic idx, 3)) (hn : pc + 3 = nx) (hml : ML M' 6) (hlk : Cond.methodLink M.1.cls idx M'.1 ∈ TT) (hst : Cond.static M'.1 ∈ TT) (hroom : R'.frames + 1 ≤ R.frames ∧ 8 + (M'.2.2.1 + 11) + R'.locals ≤ R.locals) (hcat : (rest.map fun v => v.category).sum ≤ 8) (hz : R'.cells = 0 ∧ R'.slots = 0) (hct : Ct M' R' [v1, v2, v3, v4, v5, v6] (Wd g) (RX P)) (h : ∀ (v : Option Value) (g1 : GS), P v g1 → J M R Q n0 nx L (v.toList ++ rest) (Wd g1) 0 0) : J M R Q n0 pc L (v6 :: v5 :: v4 :: v3 :: v2 :: v1 :: rest) (Wd g) 0 0 :=
  J_callS (As := [v1, v2, v3, v4, v5, v6]) d hn hml hlk hst rfl hroom hcat ⟨by rw [hz.1]; exact Nat.zero_le _, by rw [hz.2]; exact Nat.zero_le _⟩ hct (fun E es' hq => by obtain ⟨v, g1, h1, -⟩ := hq; cases h1) (fun v' es' hq => by
    obtain ⟨v, g1, h1, rfl, hp⟩ := hq
    cases h1
    rw [hz.1, hz.2]
    exact h _ _ hp)
theorem JcV6 {M : MI} {R : Room} {Q : Res → List ME → Prop} {n0 pc nx : Nat} {L : List (Option Value)} {rest : List Value} {g g1 : GS} {M' : MI} {R' : Room} {v1 v2 v3 v4 v5 v6 : Value} {b : Nat} {idx : Nat} {v : Option Value} (d : decode M.2.1 pc = .ok (.invokevirtual idx, 3)) (hn : pc + 3 = nx) (hml : ML M' 6) (hlk : Cond.methodLink M.1.cls idx M'.1 ∈ TT) (hins : Cond.instanceMethod M'.1 ∈ TT ∧ Cond.selects M'.1.cls M'.1 M'.1 ∈ TT) {T : u_T} {N ci : Nat} (hcl : vwCl[ci]? = some (M'.1.cls, T, N)) {fs : List Value} (he : (Wd g)[b]? = some (.inr (ci, fs))) (hroom : R'.frames + 1 ≤ R.frames ∧ 8 + (M'.2.2.1 + 11) + R'.locals ≤ R.locals) (hcat : (rest.map fun v => v.category).sum ≤ 8) (hz : R'.cells = 0 ∧ R'.slots = 0) (hct : Ct M' R' (.ref b :: [v1, v2, v3, v4, v5, v6]) (Wd g) (RR (.inl v) g1)) (h : J M R Q n0 nx L (v.toList ++ rest) (Wd g1) 0 0) : J M R Q n0 pc L (v6 :: v5 :: v4 :: v3 :: v2 :: v1 :: .ref b :: rest) (Wd g) 0 0 :=
  J_callV (b := b) (As := [v1, v2, v3, v4, v5, v6]) d hn hml hlk hins hcl he rfl hroom hcat ⟨by rw [hz.1]; exact Nat.zero_le _, by rw [hz.2]; exact Nat.zero_le _⟩ hct (fun E es' hq => by cases hq.1) (fun v' es' hq => by
    obtain ⟨h1, rfl⟩ := hq
    cases h1
    rw [hz.1, hz.2]
    exact h)
theorem JxV6 {M : MI} {R : Room} {Q : Res → List ME → Prop} {n0 pc nx : Nat} {L : List (Option Value)} {rest : List Value} {g g1 : GS} {M' : MI} {R' : Room} {v1 v2 v3 v4 v5 v6 : Value} {b : Nat} {idx : Nat} {P : Option Value → GS → Prop} (d : decode M.2.1 pc = .ok (.invokevirtual idx, 3)) (hn : pc + 3 = nx) (hml : ML M' 6) (hlk : Cond.methodLink M.1.cls idx M'.1 ∈ TT) (hins : Cond.instanceMethod M'.1 ∈ TT ∧ Cond.selects M'.1.cls M'.1 M'.1 ∈ TT) {T : u_T} {N ci : Nat} (hcl : vwCl[ci]? = some (M'.1.cls, T, N)) {fs : List Value} (he : (Wd g)[b]? = some (.inr (ci, fs))) (hroom : R'.frames + 1 ≤ R.frames ∧ 8 + (M'.2.2.1 + 11) + R'.locals ≤ R.locals) (hcat : (rest.map fun v => v.category).sum ≤ 8) (hz : R'.cells = 0 ∧ R'.slots = 0) (hct : Ct M' R' (.ref b :: [v1, v2, v3, v4, v5, v6]) (Wd g) (RX P)) (h : ∀ (v : Option Value) (g1 : GS), P v g1 → J M R Q n0 nx L (v.toList ++ rest) (Wd g1) 0 0) : J M R Q n0 pc L (v6 :: v5 :: v4 :: v3 :: v2 :: v1 :: .ref b :: rest) (Wd g) 0 0 :=
  J_callV (b := b) (As := [v1, v2, v3, v4, v5, v6]) d hn hml hlk hins hcl he rfl hroom hcat ⟨by rw [hz.1]; exact Nat.zero_le _, by rw [hz.2]; exact Nat.zero_le _⟩ hct (fun E es' hq => by obtain ⟨v, g1, h1, -⟩ := hq; cases h1) (fun v' es' hq => by
    obtain ⟨v, g1, h1, rfl, hp⟩ := hq
    cases h1
    rw [hz.1, hz.2]
    exact h _ _ hp)
theorem JcS7 {M : MI} {R : Room} {Q : Res → List ME → Prop} {n0 pc nx : Nat} {L : List (Option Value)} {rest : List Value} {g g1 : GS} {M' : MI} {R' : Room} {v1 v2 v3 v4 v5 v6 v7 : Value} {idx : Nat} {v : Option Value} (d : decode M.2.1 pc = .ok (.invokestatic idx, 3)) (hn : pc + 3 = nx) (hml : ML M' 7) (hlk : Cond.methodLink M.1.cls idx M'.1 ∈ TT) (hst : Cond.static M'.1 ∈ TT) (hroom : R'.frames + 1 ≤ R.frames ∧ 8 + (M'.2.2.1 + 11) + R'.locals ≤ R.locals) (hcat : (rest.map fun v => v.category).sum ≤ 8) (hz : R'.cells = 0 ∧ R'.slots = 0) (hct : Ct M' R' [v1, v2, v3, v4, v5, v6, v7] (Wd g) (RR (.inl v) g1)) (h : J M R Q n0 nx L (v.toList ++ rest) (Wd g1) 0 0) : J M R Q n0 pc L (v7 :: v6 :: v5 :: v4 :: v3 :: v2 :: v1 :: rest) (Wd g) 0 0 :=
  J_callS (As := [v1, v2, v3, v4, v5, v6, v7]) d hn hml hlk hst rfl hroom hcat ⟨by rw [hz.1]; exact Nat.zero_le _, by rw [hz.2]; exact Nat.zero_le _⟩ hct (fun E es' hq => by cases hq.1) (fun v' es' hq => by
    obtain ⟨h1, rfl⟩ := hq
    cases h1
    rw [hz.1, hz.2]
    exact h)
theorem JxS7 {M : MI} {R : Room} {Q : Res → List ME → Prop} {n0 pc nx : Nat} {L : List (Option Value)} {rest : List Value} {g g1 : GS} {M' : MI} {R' : Room} {v1 v2 v3 v4 v5 v6 v7 : Value} {idx : Nat} {P : Option Value → GS → Prop} (d : decode M.2.1 pc = .ok (.invokestatic idx, 3)) (hn : pc + 3 = nx) (hml : ML M' 7) (hlk : Cond.methodLink M.1.cls idx M'.1 ∈ TT) (hst : Cond.static M'.1 ∈ TT) (hroom : R'.frames + 1 ≤ R.frames ∧ 8 + (M'.2.2.1 + 11) + R'.locals ≤ R.locals) (hcat : (rest.map fun v => v.category).sum ≤ 8) (hz : R'.cells = 0 ∧ R'.slots = 0) (hct : Ct M' R' [v1, v2, v3, v4, v5, v6, v7] (Wd g) (RX P)) (h : ∀ (v : Option Value) (g1 : GS), P v g1 → J M R Q n0 nx L (v.toList ++ rest) (Wd g1) 0 0) : J M R Q n0 pc L (v7 :: v6 :: v5 :: v4 :: v3 :: v2 :: v1 :: rest) (Wd g) 0 0 :=
  J_callS (As := [v1, v2, v3, v4, v5, v6, v7]) d hn hml hlk hst rfl hroom hcat ⟨by rw [hz.1]; exact Nat.zero_le _, by rw [hz.2]; exact Nat.zero_le _⟩ hct (fun E es' hq => by obtain ⟨v, g1, h1, -⟩ := hq; cases h1) (fun v' es' hq => by
    obtain ⟨v, g1, h1, rfl, hp⟩ := hq
    cases h1
    rw [hz.1, hz.2]
    exact h _ _ hp)
theorem JcV7 {M : MI} {R : Room} {Q : Res → List ME → Prop} {n0 pc nx : Nat} {L : List (Option Value)} {rest : List Value} {g g1 : GS} {M' : MI} {R' : Room} {v1 v2 v3 v4 v5 v6 v7 : Value} {b : Nat} {idx : Nat} {v : Option Value} (d : decode M.2.1 pc = .ok (.invokevirtual idx, 3)) (hn : pc + 3 = nx) (hml : ML M' 7) (hlk : Cond.methodLink M.1.cls idx M'.1 ∈ TT) (hins : Cond.instanceMethod M'.1 ∈ TT ∧ Cond.selects M'.1.cls M'.1 M'.1 ∈ TT) {T : u_T} {N ci : Nat} (hcl : vwCl[ci]? = some (M'.1.cls, T, N)) {fs : List Value} (he : (Wd g)[b]? = some (.inr (ci, fs))) (hroom : R'.frames + 1 ≤ R.frames ∧ 8 + (M'.2.2.1 + 11) + R'.locals ≤ R.locals) (hcat : (rest.map fun v => v.category).sum ≤ 8) (hz : R'.cells = 0 ∧ R'.slots = 0) (hct : Ct M' R' (.ref b :: [v1, v2, v3, v4, v5, v6, v7]) (Wd g) (RR (.inl v) g1)) (h : J M R Q n0 nx L (v.toList ++ rest) (Wd g1) 0 0) : J M R Q n0 pc L (v7 :: v6 :: v5 :: v4 :: v3 :: v2 :: v1 :: .ref b :: rest) (Wd g) 0 0 :=
  J_callV (b := b) (As := [v1, v2, v3, v4, v5, v6, v7]) d hn hml hlk hins hcl he rfl hroom hcat ⟨by rw [hz.1]; exact Nat.zero_le _, by rw [hz.2]; exact Nat.zero_le _⟩ hct (fun E es' hq => by cases hq.1) (fun v' es' hq => by
    obtain ⟨h1, rfl⟩ := hq
    cases h1
    rw [hz.1, hz.2]
    exact h)
theorem JxV7 {M : MI} {R : Room} {Q : Res → List ME → Prop} {n0 pc nx : Nat} {L : List (Option Value)} {rest : List Value} {g g1 : GS} {M' : MI} {R' : Room} {v1 v2 v3 v4 v5 v6 v7 : Value} {b : Nat} {idx : Nat} {P : Option Value → GS → Prop} (d : decode M.2.1 pc = .ok (.invokevirtual idx, 3)) (hn : pc + 3 = nx) (hml : ML M' 7) (hlk : Cond.methodLink M.1.cls idx M'.1 ∈ TT) (hins : Cond.instanceMethod M'.1 ∈ TT ∧ Cond.selects M'.1.cls M'.1 M'.1 ∈ TT) {T : u_T} {N ci : Nat} (hcl : vwCl[ci]? = some (M'.1.cls, T, N)) {fs : List Value} (he : (Wd g)[b]? = some (.inr (ci, fs))) (hroom : R'.frames + 1 ≤ R.frames ∧ 8 + (M'.2.2.1 + 11) + R'.locals ≤ R.locals) (hcat : (rest.map fun v => v.category).sum ≤ 8) (hz : R'.cells = 0 ∧ R'.slots = 0) (hct : Ct M' R' (.ref b :: [v1, v2, v3, v4, v5, v6, v7]) (Wd g) (RX P)) (h : ∀ (v : Option Value) (g1 : GS), P v g1 → J M R Q n0 nx L (v.toList ++ rest) (Wd g1) 0 0) : J M R Q n0 pc L (v7 :: v6 :: v5 :: v4 :: v3 :: v2 :: v1 :: .ref b :: rest) (Wd g) 0 0 :=
  J_callV (b := b) (As := [v1, v2, v3, v4, v5, v6, v7]) d hn hml hlk hins hcl he rfl hroom hcat ⟨by rw [hz.1]; exact Nat.zero_le _, by rw [hz.2]; exact Nat.zero_le _⟩ hct (fun E es' hq => by obtain ⟨v, g1, h1, -⟩ := hq; cases h1) (fun v' es' hq => by
    obtain ⟨v, g1, h1, rfl, hp⟩ := hq
    cases h1
    rw [hz.1, hz.2]
    exact h _ _ hp)
