/-! image, back -/
def a65o (c : Nat) : Bool := Nat.beq c 65
theorem miI_fr {g0 : GS} : ∀ (k i : Nat) {g : GS}, Fr f0 a65o g0 g → Fr f0 a65o g0 (itU miI k i g)
  | 0, _, _, h => h
  | k + 1, i, g, h => miI_fr k (i + 1) (h.sA rfl)
theorem mbI_fr {g0 : GS} : ∀ (k i : Nat) {g : GS}, Fr f0 a64o g0 g → Fr f0 a64o g0 (itU mbI k i g)
  | 0, _, _, h => h
  | k + 1, i, g, h => mbI_fr k (i + 1) (h.sA rfl)
theorem miI_at : ∀ (k i : Nat) (g : GS) (j : Nat), gA (itU miI k i g) 65 j = if i ≤ j ∧ j < i + k then gA g 64 j else gA g 65 j
  | 0, i, g, j => by rw [if_neg (by omega)]; rfl
  | k + 1, i, g, j => by
    show gA (itU miI k (i + 1) (miI i g)) 65 j = _
    rw [miI_at k (i + 1) (miI i g) j]
    by_cases c : i + 1 ≤ j ∧ j < i + 1 + k
    · rw [if_pos c, if_pos (by omega)]; rfl
    · rw [if_neg c]
      by_cases e : j = i
      · subst e
        rw [if_pos (by omega)]
        exact upd_here _ _ _
      · rw [if_neg (by omega)]
        exact upd_other e
theorem mbI_at : ∀ (k i : Nat) (g : GS) (j : Nat), gA (itU mbI k i g) 64 j = if i ≤ j ∧ j < i + k then gA g 65 j else gA g 64 j
  | 0, i, g, j => by rw [if_neg (by omega)]; rfl
  | k + 1, i, g, j => by
    show gA (itU mbI k (i + 1) (mbI i g)) 64 j = _
    rw [mbI_at k (i + 1) (mbI i g) j]
    by_cases c : i + 1 ≤ j ∧ j < i + 1 + k
    · rw [if_pos c, if_pos (by omega)]; rfl
    · rw [if_neg c]
      by_cases e : j = i
      · subst e
        rw [if_pos (by omega)]
        exact upd_here _ _ _
      · rw [if_neg (by omega)]
        exact upd_other e
theorem f8_01 {W : Nat → Int32} {F A1 A2 A3 A4 A5 : Nat → Int32} {V : Value} {P : Nat → Option Nat} {T : List ME} {gl : List TxL} {rl : Nat → List TxL} (h : BV F A1 A2 A3 A4 A5 V P T W gl rl) : (F 8 = 0 ∨ F 8 = 1) ∧ ∃ c, V = .ref c := by
  rcases h.2.1 with ⟨-, x, y⟩ | ⟨-, x, c, cd, y, -⟩
  · exact ⟨Or.inl x, 26, y⟩
  · exact ⟨Or.inr x, c, y⟩
theorem nar01 {x : Int32} (h : x = 0 ∨ x = 1) : narrow .boolean (.int x) = .int x ∧ fits .boolean (.int x) = true := by
  rcases h with rfl | rfl <;> exact ⟨by decide, by decide⟩
theorem BV.copy {F F' A1 A1' A2 A2' A3 A3' A4 A4' A5 A5' B1 B2 B3 B4 B5 : Nat → Int32} {V : Value} {P P' : Nat → Option Nat} {T : List ME} {W W' : Nat → Int32} {gl : List TxL} {rl : Nat → List TxL} (h : BV F A1 A2 A3 A4 A5 V P T W gl rl) (hn : mN W ≤ 6) (hr : mR W ≤ 4) (hF : F' 8 = F 8 ∧ F' 9 = F 9 ∧ F' 10 = F 10 ∧ F' 11 = F 11 ∧ F' 12 = F 12 ∧ F' 13 = F 13 ∧ F' 14 = F 14 ∧ F' 15 = F 15 ∧ F' 16 = F 16 ∧ F' 17 = F 17) (hA : A1' = rCopy 1088 1088 A1 B1 ∧ A2' = rCopy 8 8 A2 B2 ∧ A3' = rCopy 6 6 A3 B3 ∧ A4' = rCopy 6 6 A4 B4 ∧ A5' = rCopy 192 192 A5 B5) (hP : ∀ i, i < 4 → P' i = P i) (hW : Lo W W') : BV F' A1' A2' A3' A4' A5' V P' T W' gl rl := by
  obtain ⟨h1, h2, h3, h4, h5⟩ := hA
  have := BV.cg (l := []) (F' := F') (A1' := A1') (A2' := A2') (A3' := A3') (A4' := A4') (A5' := A5') h hn hr (fun k a b => by
    obtain ⟨x8, x9, x10, x11, x12, x13, x14, x15, x16, x17⟩ := hF
    have : k = 8 ∨ k = 9 ∨ k = 10 ∨ k = 11 ∨ k = 12 ∨ k = 13 ∨ k = 14 ∨ k = 15 ∨ k = 16 ∨ k = 17 := by omega
    rcases this with rfl | rfl | rfl | rfl | rfl | rfl | rfl | rfl | rfl | rfl <;> assumption)
    (fun i hi => by rw [h1]; exact if_pos ⟨hi, hi⟩) (fun i hi => by rw [h2]; exact if_pos ⟨hi, hi⟩) (fun i hi => by rw [h3]; exact if_pos ⟨hi, hi⟩) (fun i hi => by rw [h4]; exact if_pos ⟨hi, hi⟩) (fun i hi => by rw [h5]; exact if_pos ⟨hi, hi⟩) hP hW
  rw [List.append_nil] at this
  exact this
theorem im_core {K : Nat} {g gb g2 : GS} (h : Rel K g) (b : Fr (fBk 30) (aBk 30) g gb) (hF : gF gb 30 8 = gF g 20 8 ∧ gF gb 30 9 = gF g 20 9 ∧ gF gb 30 10 = gF g 20 10 ∧ gF gb 30 11 = gF g 20 11 ∧ gF gb 30 12 = gF g 20 12 ∧ gF gb 30 13 = gF g 20 13 ∧ gF gb 30 14 = gF g 20 14 ∧ gF gb 30 15 = gF g 20 15 ∧ gF gb 30 16 = gF g 20 16 ∧ gF gb 30 17 = gF g 20 17) (hV : gV gb 30 7 = gV g 20 7) (hA : gA gb 31 = rCopy 1088 1088 (gA g 21) (gA g 31) ∧ gA gb 32 = rCopy 8 8 (gA g 22) (gA g 32) ∧ gA gb 33 = rCopy 6 6 (gA g 23) (gA g 33) ∧ gA gb 34 = rCopy 6 6 (gA g 24) (gA g 34) ∧ gA gb 35 = rCopy 192 192 (gA g 25) (gA g 35)) (hP : ∀ i, gP gb 39 i = if i < 4 then gP g 29 i else gP g 39 i) (m : Fr f0 a65o (mi0 (sF gb 0 4 1)) g2) (e65 : Lo (gA g 64) (gA g2 65)) : Rel K (sF g2 63 3 1) := by
  obtain ⟨⟨gl, rl, hw, hb⟩, hz, h26, ⟨n, t1, t2, t3, t4⟩, hfa, ⟨i1, i2, i3, i4⟩, hl⟩ := h
  obtain ⟨x8, c, xV⟩ := f8_01 hb
  have mA : ∀ c, a65o c = false → gA (sF g2 63 3 1) c = gA gb c := fun c hc => m.2.1 c hc
  have mF : ∀ c k, ¬ (c = 63 ∧ (k = 0 ∨ k = 3)) → ¬ (c = 0 ∧ k = 4) → gF (sF g2 63 3 1) c k = gF gb c k := fun c k h1 h2 => by
    show (bif Nat.beq c 63 && Nat.beq k 3 then 1 else gF g2 c k) = _
    have e1 : (Nat.beq c 63 && Nat.beq k 3) = false := by
      cases x : (Nat.beq c 63 && Nat.beq k 3)
      · rfl
      · rw [Bool.and_eq_true] at x
        exact absurd ⟨Nat.eq_of_beq_eq_true x.1, Or.inr (Nat.eq_of_beq_eq_true x.2)⟩ h1
    have e2 : (Nat.beq c 63 && Nat.beq k 0) = false := by
      cases x : (Nat.beq c 63 && Nat.beq k 0)
      · rfl
      · rw [Bool.and_eq_true] at x
        exact absurd ⟨Nat.eq_of_beq_eq_true x.1, Or.inl (Nat.eq_of_beq_eq_true x.2)⟩ h1
    have e3 : (Nat.beq c 0 && Nat.beq k 4) = false := by
      cases x : (Nat.beq c 0 && Nat.beq k 4)
      · rfl
      · rw [Bool.and_eq_true] at x
        exact absurd ⟨Nat.eq_of_beq_eq_true x.1, Nat.eq_of_beq_eq_true x.2⟩ h2
    rw [e1, cond_false, m.1 c k rfl]
    show (bif Nat.beq c 63 && Nat.beq k 0 then 0 else (bif Nat.beq c 0 && Nat.beq k 4 then 1 else gF gb c k)) = _
    rw [e2, cond_false, e3, cond_false]
  have k20 : gF (sF g2 63 3 1) 20 = gF g 20 := funext fun k => (mF 20 k (by omega) (by omega)).trans (b.1 20 k rfl)
  have mV : ∀ c k, gV (sF g2 63 3 1) c k = gV gb c k := fun c k => m.2.2.2.1 c k rfl
  have mP : ∀ c, a65o c = false → gP (sF g2 63 3 1) c = gP gb c := fun c hc => m.2.2.2.2.1 c hc
  have mT' : gT (sF g2 63 3 1) = gT g := m.2.2.2.2.2.trans b.2.2.2.2.2
  have eP : ∀ i, i < 4 → gP (sF g2 63 3 1) 39 i = gP g 29 i := fun i hi => by rw [mP 39 rfl, hP i, if_pos hi]
  refine ⟨⟨gl, rl, ?_, ?_⟩, fun s hs => ?_, ?_, ⟨n, t1, ?_, ?_, ?_⟩, ?_, ⟨⟨c, ?_⟩, fun i hi v hv => ?_, ?_, Or.inr ⟨?_, rfl, gl, rl, hw.lo e65, ?_⟩⟩, ?_⟩
  · rw [mA 64 rfl, b.2.1 64 rfl]; exact hw
  · unfold BkR
    rw [k20, mA 21 rfl, mA 22 rfl, mA 23 rfl, mA 24 rfl, mA 25 rfl, mV, mP 29 rfl, mT', mA 64 rfl, b.2.1 21 rfl, b.2.1 22 rfl, b.2.1 23 rfl, b.2.1 24 rfl, b.2.1 25 rfl, b.2.2.2.1 20 7 rfl, b.2.2.2.2.1 29 rfl, b.2.1 64 rfl]
    exact hb
  · rw [mA 50 rfl, mA 59 rfl, b.2.1 50 rfl, b.2.1 59 rfl]; exact hz s hs
  · rw [mF 26 0 (by omega) (by omega), b.1 26 0 rfl]; exact h26
  · rw [mF 1 1 (by omega) (by omega), b.1 1 1 rfl]; exact t2
  · rw [mF 63 5 (by omega) (by omega), b.1 63 5 rfl]; exact t3
  · rw [mA 66 rfl, mA 2 rfl, b.2.1 66 rfl, b.2.1 2 rfl]; exact t4
  · rw [mF 7 7 (by omega) (by omega), mF 63 10 (by omega) (by omega), b.1 7 7 rfl, b.1 63 10 rfl]; exact hfa
  · rw [mV, hV]; exact xV
  · rw [eP i hi] at hv; rw [mT']; exact hb.2.2.2 i hi v hv
  · rw [mF 30 8 (by omega) (by omega), hF.1]; exact x8
  · show (bif Nat.beq 0 63 && Nat.beq 4 3 then 1 else gF g2 0 4) = 1
    rw [m.1 0 4 rfl]; rfl
  · unfold KpR
    have mF30 : ∀ k, gF (sF g2 63 3 1) 30 k = gF gb 30 k := fun k => mF 30 k (by omega) (by omega)
    rw [mA 31 rfl, mA 32 rfl, mA 33 rfl, mA 34 rfl, mA 35 rfl, mV, mT', hV]
    exact BV.copy hb hw.n6 hw.r4 (by rw [mF30, mF30, mF30, mF30, mF30, mF30, mF30, mF30, mF30, mF30]; exact hF) hA eP e65
  · rw [mT']; exact hl
theorem im_lo {g gb : GS} {N : Nat} (hN : N = 5615) (e : gA gb 64 = gA g 64) : Lo (gA g 64) (gA (itU miI N 0 (mi0 (sF gb 0 4 1))) 65) := fun i hi => by
  rw [miI_at, if_pos (by omega)]
  show gA gb 64 i = gA g 64 i
  rw [e]
theorem im_all {K : Nat} {g gb : GS} {N : Nat} (hN : N = 5615) (h : Rel K g) (b : Fr (fBk 30) (aBk 30) g gb) (hF : gF gb 30 8 = gF g 20 8 ∧ gF gb 30 9 = gF g 20 9 ∧ gF gb 30 10 = gF g 20 10 ∧ gF gb 30 11 = gF g 20 11 ∧ gF gb 30 12 = gF g 20 12 ∧ gF gb 30 13 = gF g 20 13 ∧ gF gb 30 14 = gF g 20 14 ∧ gF gb 30 15 = gF g 20 15 ∧ gF gb 30 16 = gF g 20 16 ∧ gF gb 30 17 = gF g 20 17) (hV : gV gb 30 7 = gV g 20 7) (hA : gA gb 31 = rCopy 1088 1088 (gA g 21) (gA g 31) ∧ gA gb 32 = rCopy 8 8 (gA g 22) (gA g 32) ∧ gA gb 33 = rCopy 6 6 (gA g 23) (gA g 33) ∧ gA gb 34 = rCopy 6 6 (gA g 24) (gA g 34) ∧ gA gb 35 = rCopy 192 192 (gA g 25) (gA g 35)) (hP : ∀ i, gP gb 39 i = if i < 4 then gP g 29 i else gP g 39 i) : Rel K (sF (itU miI N 0 (mi0 (sF gb 0 4 1))) 63 3 1) :=
  im_core h b hF hV hA hP (miI_fr N 0 Fr.rf) (im_lo hN (b.2.1 64 rfl))
theorem al_image {K : Nat} {g : GS} (h : Rel K g) : Ct mX11_image (rm 2 0 0) [.ref 0] (Wd g) (RXv (fun g1 => Ct mX12_image (rm 1 0 0) [.ref 63] (Wd g1) (RXv (Rel K)))) := by
  obtain ⟨gl, rl, hw, hb⟩ := h.1
  obtain ⟨x8, c, xV⟩ := f8_01 hb
  refine (ct_image g c hb.2.2.2 xV (nar01 x8).1 (nar01 x8).2).imp (fun r es hr => ⟨_, hr.1, hr.2, ?_⟩)
  exact (ct_m_image (sF (bkC 20 30 g) 0 4 1)).imp (fun r es hr => ⟨_, hr.1, hr.2, im_all rfl h (bkC_20_30_fr g) (bkC_20_30_F g) (bkC_20_30_V g) (bkC_20_30_A g) (bkC_20_30_P g)⟩)
