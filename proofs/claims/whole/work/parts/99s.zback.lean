theorem bk_core {K : Nat} {g gb g2 : GS} (h : Rel K g) (h4 : ¬ gF g 0 4 = 0) (b : Fr (fBk 20) (aBk 20) g gb) (hF : gF gb 20 8 = gF g 30 8 ∧ gF gb 20 9 = gF g 30 9 ∧ gF gb 20 10 = gF g 30 10 ∧ gF gb 20 11 = gF g 30 11 ∧ gF gb 20 12 = gF g 30 12 ∧ gF gb 20 13 = gF g 30 13 ∧ gF gb 20 14 = gF g 30 14 ∧ gF gb 20 15 = gF g 30 15 ∧ gF gb 20 16 = gF g 30 16 ∧ gF gb 20 17 = gF g 30 17) (hV : gV gb 20 7 = gV g 30 7) (hA : gA gb 21 = rCopy 1088 1088 (gA g 31) (gA g 21) ∧ gA gb 22 = rCopy 8 8 (gA g 32) (gA g 22) ∧ gA gb 23 = rCopy 6 6 (gA g 33) (gA g 23) ∧ gA gb 24 = rCopy 6 6 (gA g 34) (gA g 24) ∧ gA gb 25 = rCopy 192 192 (gA g 35) (gA g 25)) (hP : ∀ i, gP gb 29 i = if i < 4 then gP g 39 i else gP g 29 i) (m : Fr f0 a64o (mi0 gb) g2) (e64 : Lo (gA g 65) (gA g2 64)) : Rel K g2 := by
  obtain ⟨-, hz, h26, ⟨n, t1, t2, t3, t4⟩, hfa, ⟨i1, i2, i3, i4⟩, hl⟩ := h
  rcases i4 with ⟨x, -⟩ | ⟨x1, x2, gl, rl, hw, hb⟩
  · exact absurd x h4
  have mA : ∀ c, a64o c = false → gA g2 c = gA gb c := fun c hc => m.2.1 c hc
  have mF : ∀ c k, ¬ (c = 63 ∧ k = 0) → gF g2 c k = gF gb c k := fun c k h1 => by
    rw [m.1 c k rfl]
    show (bif Nat.beq c 63 && Nat.beq k 0 then 0 else gF gb c k) = _
    have e2 : (Nat.beq c 63 && Nat.beq k 0) = false := by
      cases x : (Nat.beq c 63 && Nat.beq k 0)
      · rfl
      · rw [Bool.and_eq_true] at x
        exact absurd ⟨Nat.eq_of_beq_eq_true x.1, Nat.eq_of_beq_eq_true x.2⟩ h1
    rw [e2, cond_false]
  have mV : ∀ c k, gV g2 c k = gV gb c k := fun c k => m.2.2.2.1 c k rfl
  have mP : ∀ c, a64o c = false → gP g2 c = gP gb c := fun c hc => m.2.2.2.2.1 c hc
  have mT' : gT g2 = gT g := m.2.2.2.2.2.trans b.2.2.2.2.2
  have eP : ∀ i, i < 4 → gP g2 29 i = gP g 39 i := fun i hi => by rw [mP 29 rfl, hP i, if_pos hi]
  have k30 : gF g2 30 = gF g 30 := funext fun k => (mF 30 k (by omega)).trans (b.1 30 k rfl)
  refine ⟨⟨gl, rl, hw.lo e64, ?_⟩, fun s hs => ?_, ?_, ⟨n, t1, ?_, ?_, ?_⟩, ?_, ⟨?_, ?_, ?_, Or.inr ⟨?_, ?_, gl, rl, ?_, ?_⟩⟩, ?_⟩
  · unfold BkR
    have mF20 : ∀ k, gF g2 20 k = gF gb 20 k := fun k => mF 20 k (by omega)
    rw [mA 21 rfl, mA 22 rfl, mA 23 rfl, mA 24 rfl, mA 25 rfl, mV, mT', hV]
    exact BV.copy hb hw.n6 hw.r4 (by rw [mF20, mF20, mF20, mF20, mF20, mF20, mF20, mF20, mF20, mF20]; exact hF) hA eP e64
  · rw [mA 50 rfl, mA 59 rfl, b.2.1 50 rfl, b.2.1 59 rfl]; exact hz s hs
  · rw [mF 26 0 (by omega), b.1 26 0 rfl]; exact h26
  · rw [mF 1 1 (by omega), b.1 1 1 rfl]; exact t2
  · rw [mF 63 5 (by omega), b.1 63 5 rfl]; exact t3
  · rw [mA 66 rfl, mA 2 rfl, b.2.1 66 rfl, b.2.1 2 rfl]; exact t4
  · rw [mF 7 7 (by omega), mF 63 10 (by omega), b.1 7 7 rfl, b.1 63 10 rfl]; exact hfa
  · rw [mV, b.2.2.2.1 30 7 rfl]; exact i1
  · rw [mP 39 rfl, b.2.2.2.2.1 39 rfl, mT']; exact i2
  · rw [k30]; exact i3
  · rw [mF 0 4 (by omega), b.1 0 4 rfl]; exact x1
  · rw [mF 63 3 (by omega), b.1 63 3 rfl]; exact x2
  · rw [mA 65 rfl, b.2.1 65 rfl]; exact hw
  · unfold KpR
    rw [k30, mA 31 rfl, mA 32 rfl, mA 33 rfl, mA 34 rfl, mA 35 rfl, mV, mP 39 rfl, mT', b.2.1 31 rfl, b.2.1 32 rfl, b.2.1 33 rfl, b.2.1 34 rfl, b.2.1 35 rfl, b.2.2.2.1 30 7 rfl, b.2.2.2.2.1 39 rfl, mA 65 rfl, b.2.1 65 rfl]
    exact hb
  · rw [mT']; exact hl
theorem bk_lo {g gb : GS} {N : Nat} (hN : N = 5615) (e : gA gb 65 = gA g 65) : Lo (gA g 65) (gA (itU mbI N 0 (mi0 gb)) 64) := fun i hi => by
  rw [mbI_at, if_pos (by omega)]
  show gA gb 65 i = gA g 65 i
  rw [e]
theorem bk_all {K : Nat} {g gb : GS} {N : Nat} (hN : N = 5615) (h : Rel K g) (h4 : ¬ gF g 0 4 = 0) (b : Fr (fBk 20) (aBk 20) g gb) (hF : gF gb 20 8 = gF g 30 8 ∧ gF gb 20 9 = gF g 30 9 ∧ gF gb 20 10 = gF g 30 10 ∧ gF gb 20 11 = gF g 30 11 ∧ gF gb 20 12 = gF g 30 12 ∧ gF gb 20 13 = gF g 30 13 ∧ gF gb 20 14 = gF g 30 14 ∧ gF gb 20 15 = gF g 30 15 ∧ gF gb 20 16 = gF g 30 16 ∧ gF gb 20 17 = gF g 30 17) (hV : gV gb 20 7 = gV g 30 7) (hA : gA gb 21 = rCopy 1088 1088 (gA g 31) (gA g 21) ∧ gA gb 22 = rCopy 8 8 (gA g 32) (gA g 22) ∧ gA gb 23 = rCopy 6 6 (gA g 33) (gA g 23) ∧ gA gb 24 = rCopy 6 6 (gA g 34) (gA g 24) ∧ gA gb 25 = rCopy 192 192 (gA g 35) (gA g 25)) (hP : ∀ i, gP gb 29 i = if i < 4 then gP g 39 i else gP g 29 i) : Rel K (itU mbI N 0 (mi0 gb)) :=
  bk_core h h4 b hF hV hA hP (mbI_fr N 0 Fr.rf) (bk_lo hN (b.2.1 65 rfl))
theorem al_back {K : Nat} {g : GS} (h : Rel K g) : Ct mX11_back (rm 2 0 0) [.ref 0] (Wd g) (RXi (AdI mX12_back (rm 1 0 0) [.ref 63] K)) := by
  obtain ⟨⟨c, xV⟩, i2, i3, i4⟩ := h.2.2.2.2.2.1
  refine (ct_back g c i2 xV (nar01 i3).1 (nar01 i3).2).imp (fun r es hr => ⟨_, _, hr.1, hr.2, ?_⟩)
  by_cases h4 : gF g 0 4 = 0
  · have h3 : gF g 63 3 = 0 := by
      rcases i4 with ⟨-, x⟩ | ⟨x, -⟩
      · exact x
      · rw [h4] at x; exact absurd x (by decide)
    rw [if_pos h4, if_pos h4]
    refine (ct_m_back g).imp (fun r es hr => ?_)
    rw [if_pos h3, if_pos h3] at hr
    exact ⟨_, _, hr.1, hr.2, rfl, h.s0 0⟩
  · have h3 : ¬ gF g 63 3 = 0 := by
      rcases i4 with ⟨x, -⟩ | ⟨-, x, -⟩
      · exact absurd x h4
      · rw [x]; decide
    have b := bkC_30_20_fr g
    have f := bkC_30_20_F g
    have v := bkC_30_20_V g
    have a := bkC_30_20_A g
    have p := bkC_30_20_P g
    rw [if_neg h4, if_neg h4]
    generalize bkC 30 20 g = gb at b f v a p ⊢
    have h3' : ¬ gF gb 63 3 = 0 := by rw [b.1 63 3 rfl]; exact h3
    refine (ct_m_back gb).imp (fun r es hr => ?_)
    rw [if_neg h3', if_neg h3'] at hr
    exact ⟨_, _, hr.1, hr.2, rfl, bk_all rfl h h4 b f v a p⟩
