/-! the relation, where the Book or the tail changes -/
def fY (c k : Nat) : Bool := !(Nat.beq c 30 || ((Nat.beq c 26 && Nat.beq k 0) || ((Nat.beq c 0 && Nat.beq k 4) || (Nat.beq c 63 && Nat.beq k 3))))
def aY (c : Nat) : Bool := !((Nat.ble 31 c && Nat.ble c 35) || (Nat.beq c 39 || Nat.beq c 65))
theorem fY_of {f : Nat → Nat → Bool} (h2 : ∀ k, f 30 k = false) (h3 : f 26 0 = false) (h4 : f 0 4 = false) (h5 : f 63 3 = false) (c k : Nat) (h : fY c k = false) : f c k = false := by
  have h' := h
  unfold fY at h'
  rw [Bool.not_eq_false', Bool.or_eq_true, Bool.or_eq_true, Bool.or_eq_true, Bool.and_eq_true, Bool.and_eq_true, Bool.and_eq_true] at h'
  rcases h' with x | ⟨x, y⟩ | ⟨x, y⟩ | ⟨x, y⟩
  · rw [Nat.eq_of_beq_eq_true x]; exact h2 k
  · rw [Nat.eq_of_beq_eq_true x, Nat.eq_of_beq_eq_true y]; exact h3
  · rw [Nat.eq_of_beq_eq_true x, Nat.eq_of_beq_eq_true y]; exact h4
  · rw [Nat.eq_of_beq_eq_true x, Nat.eq_of_beq_eq_true y]; exact h5
theorem aY_of {a : Nat → Bool} (h1 : a 31 = false ∧ a 32 = false ∧ a 33 = false ∧ a 34 = false ∧ a 35 = false) (h4 : a 39 = false) (h5 : a 65 = false) (c : Nat) (h : aY c = false) : a c = false := by
  have h' := h
  unfold aY at h'
  rw [Bool.not_eq_false', Bool.or_eq_true, Bool.or_eq_true, Bool.and_eq_true] at h'
  rcases h' with ⟨x, y⟩ | x | x
  · have x := Nat.le_of_ble_eq_true x; have y := Nat.le_of_ble_eq_true y
    have : c = 31 ∨ c = 32 ∨ c = 33 ∨ c = 34 ∨ c = 35 := by omega
    rcases this with rfl | rfl | rfl | rfl | rfl
    · exact h1.1
    · exact h1.2.1
    · exact h1.2.2.1
    · exact h1.2.2.2.1
    · exact h1.2.2.2.2
  · rw [Nat.eq_of_beq_eq_true x]; exact h4
  · rw [Nat.eq_of_beq_eq_true x]; exact h5
/-- Fr, but for the tail, that may grow -/
def Fg (g g' : GS) : Prop := (∀ c k, fY c k = false → gF g' c k = gF g c k) ∧ (∀ c, aY c = false → gA g' c = gA g c) ∧ (∀ c k, fY c k = false → gV g' c k = gV g c k) ∧ (∀ c, aY c = false → gP g' c = gP g c) ∧ ∃ l, gT g' = gT g ++ l
theorem Fg.of {f : Nat → Nat → Bool} {a : Nat → Bool} {g g' : GS} (h : Fr f a g g') (hf : ∀ c k, fY c k = false → f c k = false) (ha : ∀ c, aY c = false → a c = false) : Fg g g' :=
  ⟨fun c k e => h.1 c k (hf c k e), fun c e => h.2.1 c (ha c e), fun c k e => h.2.2.2.1 c k (hf c k e), fun c e => h.2.2.2.2.1 c (ha c e), [], by rw [List.append_nil]; exact h.2.2.2.2.2⟩
theorem Fg.rf {g : GS} : Fg g g := ⟨fun _ _ _ => rfl, fun _ _ => rfl, fun _ _ _ => rfl, fun _ _ => rfl, [], (List.append_nil _).symm⟩
theorem Fg.tr {g g1 g2 : GS} (h : Fg g g1) (h2 : Fg g1 g2) : Fg g g2 := by
  obtain ⟨a1, a2, a3, a4, l, a5⟩ := h
  obtain ⟨b1, b2, b3, b4, m, b5⟩ := h2
  exact ⟨fun c k e => (b1 c k e).trans (a1 c k e), fun c e => (b2 c e).trans (a2 c e), fun c k e => (b3 c k e).trans (a3 c k e), fun c e => (b4 c e).trans (a4 c e), l ++ m, by rw [b5, a5, List.append_assoc]⟩
theorem Fg.sF {g g1 : GS} (h : Fg g g1) {c k : Nat} {v : Int32} (hc : fY c k = true) : Fg g (sF g1 c k v) := h.tr (Fg.of (f := fY) (a := aY) (Fr.rf.sF hc) (fun _ _ e => e) (fun _ e => e))
theorem Fg.sA {g g1 : GS} (h : Fg g g1) {c : Nat} {v : Nat → Int32} (hc : aY c = true) : Fg g (sA g1 c v) := h.tr (Fg.of (f := fY) (a := aY) (Fr.rf.sA hc) (fun _ _ e => e) (fun _ e => e))
theorem Fg.sB {g g1 : GS} (h : Fg g g1) {c : Nat} {v : Nat → Int64} (hc : aY c = true) : Fg g (sB g1 c v) := h.tr (Fg.of (f := fY) (a := aY) (Fr.rf.sB hc) (fun _ _ e => e) (fun _ e => e))
theorem Rel.mk3 {K K' : Nat} {g g' : GS} (h : Rel K g) (hf : Fg g g') (hr : ∃ gl rl, WR (gA g' 64) gl rl ∧ BkR g' (gA g' 64) gl rl) (hz : Z0 g') (ht : TpR g') (hfa : gF g' 7 7 = gF g' 63 10) (hK : (gT g').length ≤ K') : Rel K' g' := by
  obtain ⟨-, -, h3, -, -, ⟨i1, i2, i3, i4⟩, h9⟩ := h
  obtain ⟨fF, fA, fV, fP, l, fT⟩ := hf
  have b3 : gF g' 30 = gF g 30 := funext fun k => fF 30 k rfl
  refine ⟨hr, hz, ?_, ht, hfa, ⟨?_, ?_, ?_, ?_⟩, hK⟩
  · rw [fF 26 0 rfl]; exact h3
  · rw [fV 30 7 rfl]; exact i1
  · rw [fP 39 rfl, fT]
    intro i hi v hv
    obtain ⟨cd, x⟩ := i2 i hi v hv
    exact ⟨cd, x.app l⟩
  · rw [b3]; exact i3
  · rw [fF 0 4 rfl, fF 63 3 rfl, fA 65 rfl]
    rcases i4 with x | ⟨x1, x2, gl, rl, hw, hb⟩
    · exact Or.inl x
    · refine Or.inr ⟨x1, x2, gl, rl, hw, ?_⟩
      unfold KpR
      rw [b3, fA 31 rfl, fA 32 rfl, fA 33 rfl, fA 34 rfl, fA 35 rfl, fV 30 7 rfl, fP 39 rfl, fT]
      exact BV.cg hb hw.n6 hw.r4 (fun _ _ _ => rfl) (fun _ _ => rfl) (fun _ _ => rfl) (fun _ _ => rfl) (fun _ _ => rfl) (fun _ _ => rfl) (fun _ _ => rfl) Lo.rf
