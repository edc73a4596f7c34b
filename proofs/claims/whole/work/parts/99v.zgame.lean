theorem prd_inr {n : Nat} {C : Nat → Int32} {g3 g4 : GS} {kd : Int32} {r : Nat ⊕ Dr} {x : Int32} {s : Dr} (h : PRd n (IGr n C) (rdM kd n g3) r x g4) (hr : r = .inr s) : x = 1 ∧ gF g4 63 10 = -1 ∧ drM g4 = s := by
  obtain ⟨g1, ln, h1, h3, h4⟩ := h
  subst hr
  dsimp only at h4
  obtain ⟨y1, y2, y3, b, y4, y5⟩ := h4
  refine ⟨y1, by rw [y2]; rfl, ?_⟩
  rw [y2]
  exact y5.2.2
def M4 (G g4 : GS) (e : Int32) : Prop := Fr fMd aTg G g4 ∧ Lo (gA G 64) (gA g4 64) ∧ gF g4 63 5 = 0 ∧ gF g4 63 10 = e ∧ gF g4 63 0 = 0
theorem prd_0 {α : Type} {n : Nat} {I : GS → Nat → Nat → α → Prop} {g3 g4 : GS} {kd : Int32} {r : Nat ⊕ α} {x : Int32} (h : PRd n I (rdM kd n g3) r x g4) : gF g4 63 0 = 0 := by
  obtain ⟨g1, ln, ⟨h1, h2⟩, h3, h4⟩ := h
  have e : gF g1 63 0 = 0 := by rw [h1.1 63 0 rfl]; rfl
  cases r with
  | inl e' => dsimp only at h4; rw [h4.2]; exact e
  | inr s => dsimp only at h4; rw [h4.2.1]; exact e
theorem gm_m {G g2 : GS} {x : Int32} {n GC : Nat} {W B C : Nat → Int32} {gl : List TxL} {rl : Nat → List TxL} {g : GS} {d : Dr} {rg : Nat ⊕ Dr} (h : MGa n GC G x g2) (e66 : gA G 66 = C) (e64 : gA G 64 = W) (ht : TpE n C B) (hn : n ≤ 400) (hw : WR W gl rl) (hb : BkR g W gl rl) (h1 : ∀ i, i < 1088 → d.1 i = gA g 21 i) (h2 : ∀ z, z < 8 → d.2.1 z = gA g 22 z) (h3 : d.2.2 = gF g 20 12) (hrg : rg = match pRead (obT n B) (gaLine (obT n B)) (sk n B 0) d with | .inl e => .inl e | .inr d => if drK d.1 32 0 = true then .inr d else .inl n) :
    (∃ e g4, rg = .inl e ∧ M4 G g4 (nI e) ∧ g2 = sF g4 63 0 1) ∨ (∃ r g4, rg = .inr r ∧ GC = 12 ∧ M4 G g4 (-1) ∧ g2 = sF g4 63 0 2) ∨ (∃ r r' g4, rg = .inr r ∧ ¬ GC = 12 ∧ x = nI (GC + 1) ∧ DrE r r' ∧ (∀ q, q < 32 → gmS r'.1 q ≤ 100) ∧ DrB r' ∧ NZ (dW r') 32 ≤ NZ W 32 + 12 ∧ M4 G g4 (-1) ∧ drM g4 = r' ∧ MGf GC g4 g2) := by
  obtain ⟨g3, x1, g4, ⟨m1, m2, m3, m4⟩, hP, hB⟩ := h
  rw [e66] at hP
  rw [e64] at m2 m3 m4
  obtain ⟨dE, dB, dN⟩ := dr_in hw hb h1 h2 h3 (d' := drM g3) m2 m3 m4
  obtain ⟨p1, p2, p3, p4⟩ := prd_fr hP
  have m1' : Fr fMd aTg G g3 := m1.mono fMd_Gm (fun c e => aTg_Gm c e)
  have e3 : gA g3 64 = gA G 64 := m1.2.1 64 rfl
  have pf : Fr fMd aTg G g4 := m1'.tr p1
  have pl : Lo (gA G 64) (gA g4 64) := by rw [← e3]; exact p2
  rcases gm_two ht hn dE dB hrg with ⟨e, r1, r2⟩ | ⟨r', r1, r2, r3⟩ | ⟨r, r', r1, r2, r3, r4, r5, r6⟩
  · obtain ⟨q1, q2⟩ := prd_in hP r2
    refine Or.inl ⟨e, g4, r1, ⟨pf, pl, p3, q2, prd_0 hP⟩, ?_⟩
    rcases hB with ⟨-, -, b3⟩ | ⟨b1, -⟩ | ⟨b1, -⟩ | ⟨b1, -⟩
    · exact b3
    · rw [q1] at b1; exact absurd b1 (by decide)
    · rw [q1] at b1; exact absurd b1 (by decide)
    · rw [q1] at b1; exact absurd b1 (by decide)
  · obtain ⟨q1, q2, q3⟩ := prd_inr hP r1
    have e68 : gA g4 68 = r'.1 := by rw [← q3]; rfl
    rcases hB with ⟨b1, -⟩ | ⟨-, -, -, b3⟩ | ⟨-, b2, -⟩ | ⟨-, b2, -⟩
    · rw [q1] at b1; exact absurd b1 (by decide)
    · exact Or.inl ⟨n, sF g4 63 10 (gF g4 63 7), r2, ⟨pf.sF rfl, pl, p3, p4, (show gF g4 63 0 = 0 from prd_0 hP)⟩, b3⟩
    · rw [e68] at b2; exact absurd b2 r3
    · rw [e68] at b2; exact absurd b2 r3
  · obtain ⟨q1, q2, q3⟩ := prd_inr hP r1
    have e68 : gA g4 68 = r'.1 := by rw [← q3]; rfl
    rcases hB with ⟨b1, -⟩ | ⟨-, ⟨q, b2, b3⟩, -⟩ | ⟨-, -, b2, -, b3⟩ | ⟨-, -, b2, b3, b4⟩
    · rw [q1] at b1; exact absurd b1 (by decide)
    · rw [e68] at b3
      have := r4 q b2
      have i1 := Int32.lt_iff_toInt_lt.mp b3
      have i2 := Int32.le_iff_toInt_le.mp this
      omega
    · exact Or.inr (Or.inl ⟨r, g4, r2, b2, ⟨pf, pl, p3, q2, prd_0 hP⟩, b3⟩)
    · exact Or.inr (Or.inr ⟨r, r', g4, r2, b2, b3, r3, r4, r5, by rw [← dN]; exact r6, ⟨pf, pl, p3, q2, prd_0 hP⟩, q3, b4⟩)
theorem c_lt12 {GC : Nat} (h : GC ≤ 12) : fLt (nI GC) 12 = true ↔ ¬ GC = 12 := by
  unfold fLt
  by_cases c : GC = 12
  · subst c; exact ⟨fun z => absurd z (by decide), fun z => absurd rfl z⟩
  · rw [if_neg (fun z => by
      have := nI_led (a := 12) (b := GC) (by omega) (by omega) z
      omega)]
    exact ⟨fun _ => c, fun _ => rfl⟩
theorem gm_core {K : Nat} {g gb g1 gc g2 g4 : GS} {W : Nat → Int32} {gl : List TxL} {rl : Nat → List TxL} {r r' : Dr} {GC : Nat} {w : Nat → Int64} (h : Rel K g) (hw : WR (gA g 64) gl rl) (hb : BkR g (gA g 64) gl rl) (hGC : gA g 64 0 = nI GC) (hG : GC < 12)
    (b : Fr (fBk 8) (aBk 8) g gb) (bF : gF gb 8 8 = gF g 20 8 ∧ gF gb 8 9 = gF g 20 9 ∧ gF gb 8 10 = gF g 20 10 ∧ gF gb 8 11 = gF g 20 11 ∧ gF gb 8 12 = gF g 20 12 ∧ gF gb 8 13 = gF g 20 13 ∧ gF gb 8 14 = gF g 20 14 ∧ gF gb 8 15 = gF g 20 15 ∧ gF gb 8 16 = gF g 20 16 ∧ gF gb 8 17 = gF g 20 17) (bV : gV gb 8 7 = gV g 20 7) (bA : gA gb 9 = rCopy 1088 1088 (gA g 21) (gA g 9) ∧ gA gb 10 = rCopy 8 8 (gA g 22) (gA g 10) ∧ gA gb 11 = rCopy 6 6 (gA g 23) (gA g 11) ∧ gA gb 12 = rCopy 6 6 (gA g 24) (gA g 12) ∧ gA gb 13 = rCopy 192 192 (gA g 25) (gA g 13)) (bP : ∀ i, gP gb 17 i = if i < 4 then gP g 29 i else gP g 17 i)
    (f1 : Fr fR aR gb g1) (hd : drOf g1 = r) (h77 : gF g1 7 7 = -1)
    (c : Fr (fBk 20) (aBk 20) (sF g1 1 1 0) gc) (cF : gF gc 20 8 = gF g1 8 8 ∧ gF gc 20 9 = gF g1 8 9 ∧ gF gc 20 10 = gF g1 8 10 ∧ gF gc 20 11 = gF g1 8 11 ∧ gF gc 20 12 = gF g1 8 12 ∧ gF gc 20 13 = gF g1 8 13 ∧ gF gc 20 14 = gF g1 8 14 ∧ gF gc 20 15 = gF g1 8 15 ∧ gF gc 20 16 = gF g1 8 16 ∧ gF gc 20 17 = gF g1 8 17) (cV : gV gc 20 7 = gV g1 8 7) (cA : gA gc 21 = rCopy 1088 1088 (gA g1 9) (gA g1 21) ∧ gA gc 22 = rCopy 8 8 (gA g1 10) (gA g1 22) ∧ gA gc 23 = rCopy 6 6 (gA g1 11) (gA g1 23) ∧ gA gc 24 = rCopy 6 6 (gA g1 12) (gA g1 24) ∧ gA gc 25 = rCopy 192 192 (gA g1 13) (gA g1 25)) (cP : ∀ i, gP gc 29 i = if i < 4 then gP g1 17 i else gP g1 29 i)
    (hE : DrE r r') (hk : ∀ q, q < 32 → gmS r'.1 q ≤ 100) (hB : DrB r') (hN : NZ (dW r') 32 ≤ NZ (gA g 64) 32 + 12) (m : M4 (sB (sF gc 20 9 (gF gc 20 9 + 1)) 82 w) g4 (-1)) (hM : drM g4 = r') (hf : MGf GC g4 g2) :
    gF (sF gc 20 9 (gF gc 20 9 + 1)) 20 9 = nI (GC + 1) ∧ gF g2 63 0 = 0 ∧ Rel K g2 ∧ gB g2 82 = w := by
  obtain ⟨m1, m2, m3, m4, m0⟩ := m
  obtain ⟨x1, x2⟩ := hf
  have b9 := hb.1.2.2.2.2.1
  have n6 := hw.n6
  have F1 : ∀ k, ¬ k = 12 → gF g1 8 k = gF gb 8 k := fun k hk => f1.1 8 k (by
    show fR 8 k = false
    unfold fR fG
    rw [show (Nat.beq 8 8 && Nat.beq k 12) = false from by rw [beq_f hk]; rfl]
    rfl)
  have e9 : gF gc 20 9 + 1 = nI (GC + 1) := by rw [cF.2.1, F1 9 (by omega), bF.2.1, b9, hGC]; exact nIa rfl (nIc 1)
  have e64 : ∀ i, i < 5615 → gA g4 64 i = gA g 64 i := fun i hi => by
    rw [m2 i hi]
    show gA gc 64 i = _
    rw [c.2.1 64 rfl]
    show gA g1 64 i = _
    rw [f1.2.1 64 rfl, b.2.1 64 rfl]
  have eW : ∀ i, i < 5615 → gA g2 64 i = if i = 0 then nI (GC + 1) else if i = 4 then r'.2.2 else if 10 ≤ i ∧ i < 10 + 8 then r'.2.1 (i - 10) else if 18 ≤ i ∧ i < 18 + 1088 then r'.1 (i - 18) else gA g 64 i := fun i hi => by
    rw [x2 i, ← hM, e64 i hi]; rfl
  obtain ⟨w1, w2⟩ := gm_row hw hGC hG hB hk hN eW
  have g20 : ∀ k, ¬ k = 9 → gF g2 20 k = gF gc 20 k := fun k hk => by
    rw [x1.1 20 k rfl, m1.1 20 k rfl]
    show (bif Nat.beq 20 20 && Nat.beq k 9 then _ else gF gc 20 k) = _
    rw [beq_f hk]; rfl
  have g209 : gF g2 20 9 = nI (GC + 1) := by
    rw [x1.1 20 9 rfl, m1.1 20 9 rfl, ← e9]; rfl
  have gA2 : ∀ c, a64o c = false → aTg c = false → ¬ c = 82 → gA g2 c = gA gc c := fun c h1 h2 _ => by
    rw [x1.2.1 c h1, m1.2.1 c h2]; rfl
  have fgc : Fg g gc := (Fg.of b fB8_Y aB8_Y).tr ((Fg.of f1 fR_Y aR_Y).tr ((Fg.rf.sF (c := 1) (k := 1) (v := 0) rfl).tr (Fg.of c fB20_Y aB20_Y)))
  have fg : Fg g g2 := (((fgc.sF (c := 20) (k := 9) (v := gF gc 20 9 + 1) rfl).sB (c := 82) (v := w) rfl).tr (Fg.of m1 fMd_Y aTg_Y)).tr (Fg.of x1 (fun _ _ _ => rfl) (fun c e => aY_of (a := a64o) ⟨rfl, rfl, rfl, rfl, rfl⟩ rfl rfl c e))
  have hT : gT g2 = gT g := by
    rw [x1.2.2.2.2.2, m1.2.2.2.2.2]
    show gT gc = _
    rw [c.2.2.2.2.2]
    show gT g1 = _
    rw [f1.2.2.2.2.2, b.2.2.2.2.2]
  have hV : gV g2 20 7 = gV g 20 7 := by
    rw [x1.2.2.2.1 20 7 rfl, m1.2.2.2.1 20 7 rfl]
    show gV gc 20 7 = _
    rw [cV, f1.2.2.2.1 8 7 rfl, bV]
  have hP : ∀ i, i < 4 → gP g2 29 i = gP g 29 i := fun i hi => by
    rw [x1.2.2.2.2.1 29 rfl, m1.2.2.2.2.1 29 rfl]
    show gP gc 29 i = _
    rw [cP i, if_pos hi, f1.2.2.2.2.1 17 rfl, bP i, if_pos hi]
  have r1 : ∀ i, i < 1088 → gA g2 21 i = r'.1 i := fun i hi => by
    rw [gA2 21 rfl rfl (by omega), cA.1]
    show (if i < 1088 ∧ i < 1088 then gA g1 9 i else _) = _
    rw [if_pos ⟨hi, hi⟩, ← hE.1 i hi, ← hd]; rfl
  have r2 : ∀ z, z < 8 → gA g2 22 z = r'.2.1 z := fun z hz => by
    rw [gA2 22 rfl rfl (by omega), cA.2.1]
    show (if z < 8 ∧ z < 8 then gA g1 10 z else _) = _
    rw [if_pos ⟨hz, hz⟩, ← hE.2.1 z hz, ← hd]; rfl
  have r3 : ∀ i, i < 6 → gA g2 23 i = gA g 23 i := fun i hi => by
    rw [gA2 23 rfl rfl (by omega), cA.2.2.1]
    show (if i < 6 ∧ i < 6 then gA g1 11 i else _) = _
    rw [if_pos ⟨hi, hi⟩, f1.2.1 11 rfl, bA.2.2.1]
    exact if_pos ⟨hi, hi⟩
  have r4 : ∀ i, i < 6 → gA g2 24 i = gA g 24 i := fun i hi => by
    rw [gA2 24 rfl rfl (by omega), cA.2.2.2.1]
    show (if i < 6 ∧ i < 6 then gA g1 12 i else _) = _
    rw [if_pos ⟨hi, hi⟩, f1.2.1 12 rfl, bA.2.2.2.1]
    exact if_pos ⟨hi, hi⟩
  have r5 : ∀ i, i < 192 → gA g2 25 i = gA g 25 i := fun i hi => by
    rw [gA2 25 rfl rfl (by omega), cA.2.2.2.2]
    show (if i < 192 ∧ i < 192 then gA g1 13 i else _) = _
    rw [if_pos ⟨hi, hi⟩, f1.2.1 13 rfl, bA.2.2.2.2]
    exact if_pos ⟨hi, hi⟩
  obtain ⟨⟨c1, c2, c3, c4, c9, c10, c11, c12, c13, c14, c15, c16, c17⟩, hg, hru, hrow⟩ := hb
  have eN : mN (gA g2 64) = mN (gA g 64) := by unfold mN; rw [w2 2 (by omega) (by omega) (by omega) (by omega)]
  have eR : mR (gA g2 64) = mR (gA g 64) := by unfold mR; rw [w2 1 (by omega) (by omega) (by omega) (by omega)]
  refine ⟨e9, (x1.1 63 0 rfl).trans m0, h.mk3 fg ⟨gl, rl, w1, ?_⟩ (fun s hs => ?_) ⟨0, by omega, ?_, ?_, fun i hi => absurd hi (by omega)⟩ ?_ ?_, (x1.2.2.1 82 rfl).trans (m1.2.2.1 82 rfl)⟩
  · refine ⟨⟨fun s k hs hk => ?_, fun z hz => ?_, fun k hk => ?_, fun p h6 h7 => ?_, ?_, ?_, ?_, ?_, ?_, ?_, ?_, ?_, ?_⟩, ?_, fun q hq => ?_, fun i hi v hv => ?_⟩
    · rw [r1 _ (by omega), eW _ (by omega), if_neg (by omega), if_neg (by omega), if_neg (by omega), if_pos (by omega), show 18 + 34 * s + k - 18 = 34 * s + k by omega]
    · rw [r2 z hz, eW _ (by omega), if_neg (by omega), if_neg (by omega), if_pos (by omega), show 10 + z - 10 = z by omega]
    · rw [eN] at hk
      obtain ⟨d1, d2, d3⟩ := c3 k hk
      rw [r3 k (by omega), r4 k (by omega), w2 _ (by omega) (by omega) (by omega) (by omega), w2 _ (by omega) (by omega) (by omega) (by omega)]
      exact ⟨d1, d2, fun s hs => by rw [r5 _ (by omega), w2 _ (by omega) (by omega) (by omega) (by omega)]; exact d3 s hs⟩
    · rw [eN] at h6; rw [r5 p h7]; exact c4 p h6 h7
    · rw [g209, eW 0 (by omega), if_pos rfl]
    · rw [g20 10 (by omega), cF.2.2.1, F1 10 (by omega), bF.2.2.1, w2 1 (by omega) (by omega) (by omega) (by omega)]; exact c10
    · rw [g20 11 (by omega), cF.2.2.2.1, F1 11 (by omega), bF.2.2.2.1, w2 2 (by omega) (by omega) (by omega) (by omega)]; exact c11
    · rw [g20 12 (by omega), cF.2.2.2.2.1, eW 4 (by omega), if_neg (by omega), if_pos rfl, ← hE.2.2, ← hd]; rfl
    · rw [g20 13 (by omega), cF.2.2.2.2.2.1, F1 13 (by omega), bF.2.2.2.2.2.1, w2 5 (by omega) (by omega) (by omega) (by omega)]; exact c13
    · rw [g20 14 (by omega), cF.2.2.2.2.2.2.1, F1 14 (by omega), bF.2.2.2.2.2.2.1, w2 6 (by omega) (by omega) (by omega) (by omega)]; exact c14
    · rw [g20 15 (by omega), cF.2.2.2.2.2.2.2.1, F1 15 (by omega), bF.2.2.2.2.2.2.2.1, w2 7 (by omega) (by omega) (by omega) (by omega)]; exact c15
    · rw [g20 16 (by omega), cF.2.2.2.2.2.2.2.2.1, F1 16 (by omega), bF.2.2.2.2.2.2.2.2.1, w2 8 (by omega) (by omega) (by omega) (by omega)]; exact c16
    · rw [g20 17 (by omega), cF.2.2.2.2.2.2.2.2.2, F1 17 (by omega), bF.2.2.2.2.2.2.2.2.2, w2 9 (by omega) (by omega) (by omega) (by omega)]; exact c17
    · rw [g20 8 (by omega), cF.1, F1 8 (by omega), bF.1, hV, hT, w2 3 (by omega) (by omega) (by omega) (by omega), w2 (1310 + 861 * 4) (by omega) (by omega) (by omega) (by omega)]; exact hg
    · rw [eR] at hq
      obtain ⟨c', cd, y1, y2, y3⟩ := hru q hq
      have := hw.r4
      exact ⟨c', cd, by rw [hP q (by omega)]; exact y1, by rw [hT]; exact y2, y3⟩
    · rw [hP i hi] at hv; rw [hT]; exact hrow i hi v hv
  · rw [x1.2.1 50 rfl, m1.2.1 50 rfl, x1.2.1 59 rfl, m1.2.1 59 rfl]
    show gA gc 50 s = 0 ∧ gA gc 59 s = 0
    rw [c.2.1 50 rfl, c.2.1 59 rfl]
    show gA g1 50 s = 0 ∧ gA g1 59 s = 0
    rw [f1.2.1 50 rfl, f1.2.1 59 rfl, b.2.1 50 rfl, b.2.1 59 rfl]
    exact h.2.1 s hs
  · rw [x1.1 1 1 rfl, m1.1 1 1 rfl]
    show gF gc 1 1 = 0
    rw [c.1 1 1 rfl]; rfl
  · rw [x1.1 63 5 rfl]; exact m3
  · rw [x1.1 7 7 rfl, m1.1 7 7 rfl, x1.1 63 10 rfl, m4]
    show gF gc 7 7 = -1
    rw [c.1 7 7 rfl]; exact h77
  · rw [hT]; exact h.2.2.2.2.2.2
theorem gd_v {gc : GS} {v : Int32} : gF (sF gc 20 9 v) 20 9 = v := rfl
theorem gd_5 {gc : GS} {n : Nat} {w : Nat → Int64} {v : Int32} (s5 : gF gc 63 5 = nI n) : gF (sB (sF gc 20 9 v) 82 w) 63 5 = nI n := s5
theorem gd_A {gc : GS} {f : Nat → Int32} {w : Nat → Int64} {v : Int32} {c : Nat} (s5 : gA gc c = f) : gA (sB (sF gc 20 9 v) 82 w) c = f := s5
theorem rgR_eq (g : GS) (n : Nat) : rgR g n = match pRead (obT n (gA g 2)) (gaLine (obT n (gA g 2))) (sk n (gA g 2) 0) (drOf g) with | .inl e => .inl e | .inr d => if drK d.1 32 0 = true then .inr d else .inl n := by
  unfold rgR
  generalize pRead (obT n (gA g 2)) (gaLine (obT n (gA g 2))) (sk n (gA g 2) 0) (drOf g) = p
  cases p <;> rfl
theorem al_game {K : Nat} {g : GS} (h : Rel K g) : Ct mX11_game (rm 40 2 12) [.ref 0] (Wd g) (PLi [x_iae, x_uoe] (fun k v g1 => ∀ w, Ct mX12_game (rm 43 0 0) [.ref 63] (Wd (sB g1 82 w)) (RXi (AlI K k v w)))) := by
  obtain ⟨gl, rl, hw, hb⟩ := h.1
  obtain ⟨x8, c, xV⟩ := f8_01 hb
  obtain ⟨n, n4, n1, n2, n3⟩ := h.2.2.2.1
  obtain ⟨GC, hGC, hG⟩ : ∃ GC, gA g 64 0 = nI GC ∧ GC ≤ 12 := ⟨(gA g 64 0).toInt.toNat, by
    have := hw.1.2.2.2.2.2.2.2.2.2.2.2.2
    unfold zW at this
    exact Int32.toInt_inj.mp (by rw [nI_toInt (by omega)]; omega), by
    have := hw.1.2.2.2.2.2.2.2.2.2.2.2.2
    unfold zW at this
    omega⟩
  refine (ct_game g n c n1 n4 hb.2.2.2 xV (nar01 x8).1 (nar01 x8).2).imp (fun r es hr => ?_)
  unfold GM at hr
  obtain ⟨g1, f1, hr⟩ := hr
  have b := bkC_20_8_fr g
  have bF := bkC_20_8_F g
  have bV := bkC_20_8_V g
  have bA := bkC_20_8_A g
  have bP := bkC_20_8_P g
  generalize bkC 20 8 g = gb at b bF bV bA bP f1 hr
  have e2 : gA gb 2 = gA g 2 := b.2.1 2 rfl
  have hrg : rgR gb n = match pRead (obT n (gA g 2)) (gaLine (obT n (gA g 2))) (sk n (gA g 2) 0) (drOf gb) with | .inl e => .inl e | .inr d => if drK d.1 32 0 = true then .inr d else .inl n := by
    have u := rgR_eq gb n
    rw [e2] at u
    exact u
  have h1 : ∀ i, i < 1088 → (drOf gb).1 i = gA g 21 i := fun i hi => by
    show gA gb 9 i = _
    rw [bA.1]; exact if_pos ⟨hi, hi⟩
  have h2 : ∀ z, z < 8 → (drOf gb).2.1 z = gA g 22 z := fun z hz => by
    show gA gb 10 z = _
    rw [bA.2.1]; exact if_pos ⟨hz, hz⟩
  have h3 : (drOf gb).2.2 = gF g 20 12 := bF.2.2.2.2.1
  have key : ∀ G, gF G 63 5 = nI n → gA G 64 = gA g 64 → gA G 66 = gA g 66 → Ct mX12_game (rm 43 0 0) [.ref 63] (Wd G) (RXi (fun x g2 => (∃ e g4, rgR gb n = .inl e ∧ M4 G g4 (nI e) ∧ g2 = sF g4 63 0 1) ∨ (∃ r g4, rgR gb n = .inr r ∧ GC = 12 ∧ M4 G g4 (-1) ∧ g2 = sF g4 63 0 2) ∨ (∃ r r' g4, rgR gb n = .inr r ∧ ¬ GC = 12 ∧ x = nI (GC + 1) ∧ DrE r r' ∧ (∀ q, q < 32 → gmS r'.1 q ≤ 100) ∧ DrB r' ∧ NZ (dW r') 32 ≤ NZ (gA g 64) 32 + 12 ∧ M4 G g4 (-1) ∧ drM g4 = r' ∧ MGf GC g4 g2))) := fun G G5 G64 G66 => by
    refine (ct_m_game G n G5 n4 GC (by rw [G64]; exact hGC) hG).imp (fun r es hq => ?_)
    obtain ⟨x, g2, y1, y2, y3⟩ := hq
    exact ⟨x, g2, y1, y2, gm_m y3 G66 G64 n3 n4 hw hb h1 h2 h3 hrg⟩
  generalize rgR gb n = rg at hr key
  have fk1 : Fr fX aX g g1 := (b.mono fB8_X aB8_X).tr (f1.mono fR_X aR_X)
  have hz1 : Z0 g1 := fun s hs => by
    rw [f1.2.1 50 rfl, f1.2.1 59 rfl, b.2.1 50 rfl, b.2.1 59 rfl]; exact h.2.1 s hs
  have q5 : gF g1 63 5 = nI n := by rw [f1.1 63 5 rfl, b.1 63 5 rfl]; exact n2
  have q64 : gA g1 64 = gA g 64 := by rw [f1.2.1 64 rfl, b.2.1 64 rfl]
  have q66 : gA g1 66 = gA g 66 := by rw [f1.2.1 66 rfl, b.2.1 66 rfl]
  have nt : ∀ (w : Nat → Int64) (g4 : GS) (e : Int32) (c : Int32), M4 (sB (sF g1 1 1 0) 82 w) g4 e → gF g1 7 7 = e → Rel K (sF g4 63 0 c) := fun w g4 e c m u =>
    h.not (G := sB (sF g1 1 1 0) 82 w) ((fk1.sF rfl).sB rfl) hz1 q64 m.1 m.2.1 m.2.2.1 rfl (u.trans m.2.2.2.1.symm) c
  cases rg with
  | inl e =>
    dsimp only at hr
    obtain ⟨a1, a2, a3⟩ := hr
    refine ⟨nI (0 + 1), 0, sF g1 1 1 0, a3, fun w => (key (sB (sF g1 1 1 0) 82 w) q5 q64 q66).imp (fun r' es' hq => ?_), Or.inr ⟨0, by decide, rfl, a2⟩⟩
    obtain ⟨x, g2, y1, y2, y3⟩ := hq
    refine ⟨x, g2, y1, y2, ?_⟩
    rcases y3 with ⟨e', g4, z1, z2, z3⟩ | ⟨r, g4, z1, -⟩ | ⟨r, r', g4, z1, -⟩
    · cases z1
      subst z3
      exact ⟨rfl, fun u => absurd u (by decide), nt w g4 _ 1 z2 a1, z2.1.2.2.1 82 rfl⟩
    · cases z1
    · cases z1
  | inr d =>
    dsimp only at hr
    obtain ⟨a1, a2, ⟨a3, a4, a5⟩ | ⟨a3, a4, a5⟩⟩ := hr
    · have e9 : gF g 20 9 = nI GC := hb.1.2.2.2.2.1.trans hGC
      refine ⟨nI (1 + 1), 0, sF g1 1 1 0, a5, fun w => (key (sB (sF g1 1 1 0) 82 w) q5 q64 q66).imp (fun r' es' hq => ?_), Or.inr ⟨1, by decide, rfl, a4⟩⟩
      obtain ⟨x, g2, y1, y2, y3⟩ := hq
      refine ⟨x, g2, y1, y2, ?_⟩
      rcases y3 with ⟨e', g4, z1, z2, z3⟩ | ⟨r, g4, z1, z2, z3, z4⟩ | ⟨r, r', g4, z1, z2, -⟩
      · cases z1
      · subst z4
        exact ⟨rfl, fun u => absurd u (by decide), nt w g4 _ 2 z3 a1, z3.1.2.2.1 82 rfl⟩
      · rw [e9, (c_lt12 hG).mpr z2] at a3
        cases a3
    · have cf := bkC_8_20_fr (sF g1 1 1 0)
      have cF := bkC_8_20_F (sF g1 1 1 0)
      have cV := bkC_8_20_V (sF g1 1 1 0)
      have cA := bkC_8_20_A (sF g1 1 1 0)
      have cP := bkC_8_20_P (sF g1 1 1 0)
      unfold gmG at a4 a5
      generalize bkC 8 20 (sF g1 1 1 0) = gc at cf cF cV cA cP a4 a5
      have s5 : gF gc 63 5 = nI n := by rw [cf.1 63 5 rfl]; exact q5
      have s64 : gA gc 64 = gA g 64 := by rw [cf.2.1 64 rfl]; exact q64
      have s66 : gA gc 66 = gA g 66 := by rw [cf.2.1 66 rfl]; exact q66
      have e9 : gF g 20 9 = nI GC := hb.1.2.2.2.2.1.trans hGC
      rw [e9] at a3
      obtain ⟨v, hv⟩ : ∃ v, v = gF gc 20 9 + 1 := ⟨_, rfl⟩
      rw [← hv] at a4 a5
      have kk : ∀ w, _ := fun w => key (sB (sF gc 20 9 v) 82 w) (gd_5 s5) (gd_A s64) (gd_A s66)
      refine ⟨0, v, sF gc 20 9 v, a5, fun w => (kk w).imp (fun r' es' hq => ?_), Or.inl ⟨rfl, a4⟩⟩
      obtain ⟨x, g2, y1, y2, y3⟩ := hq
      refine ⟨x, g2, y1, y2, ?_⟩
      rcases y3 with ⟨e', g4, z1, z2, z3⟩ | ⟨r, g4, z1, z2, z3, z4⟩ | ⟨r, r', g4, z1, z2, z3, z4, z5, z6, z7, z8, z9, z10⟩
      · cases z1
      · exact absurd z2 ((c_lt12 hG).mp a3)
      · cases z1
        rw [hv] at z8
        obtain ⟨u1, u2, u3, u4⟩ := gm_core (W := gA g 64) (w := w) h hw hb hGC (by omega) b bF bV bA bP f1 a2 a1 cf cF cV cA cP z4 z5 z6 z7 z8 z9 z10
        exact ⟨u2, fun _ => by rw [z3, hv, ← u1, gd_v], u3, u4⟩
