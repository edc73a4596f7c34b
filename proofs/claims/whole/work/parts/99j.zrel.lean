/-! the class and the Model, side by side -/
theorem CodeT.app {T : List ME} {c : Nat} {cd : CD} (h : CodeT T c cd) (l : List ME) : CodeT (T ++ l) c cd := by
  obtain ⟨h0, h1, h2, h3, h4⟩ := h
  have u : ∀ {i : Nat} {e : ME}, T[i]? = some e → (T ++ l)[i]? = some e := fun {i e} x => by
    have hi : i < T.length := by
      rcases Nat.lt_or_ge i T.length with y | y
      · exact y
      · rw [List.getElem?_eq_none y] at x; cases x
    rw [List.getElem?_append_left hi]; exact x
  exact ⟨h0, u h1, u h2, u h3, h4⟩
def BV (F : Nat → Int32) (A1 A2 A3 A4 A5 : Nat → Int32) (V : Value) (P : Nat → Option Nat) (T : List ME) (W : Nat → Int32) (gl : List TxL) (rl : Nat → List TxL) : Prop :=
  ((∀ s k, s < 32 → k < 34 → A1 (34 * s + k) = W (18 + 34 * s + k)) ∧ (∀ z, z < 8 → A2 z = W (10 + z)) ∧ (∀ k, k < mN W → A3 k = W (1106 + 34 * k + 0) ∧ A4 k = W (1106 + 34 * k + 1) ∧ ∀ s, s < 32 → A5 (32 * k + s) = W (1106 + 34 * k + (2 + s))) ∧ (∀ p, 32 * mN W ≤ p → p < 192 → A5 p = 0) ∧ F 9 = W 0 ∧ F 10 = W 1 ∧ F 11 = W 2 ∧ F 12 = W 4 ∧ F 13 = W 5 ∧ F 14 = W 6 ∧ F 15 = W 7 ∧ F 16 = W 8 ∧ F 17 = W 9) ∧
  ((W 3 = 0 ∧ F 8 = 0 ∧ V = .ref 26) ∨ (W 3 = 1 ∧ F 8 = 1 ∧ ∃ c cd, V = .ref c ∧ CodeT T c cd ∧ GolC cd gl ∧ nI cd.1 = W (1310 + 861 * 4))) ∧
  (∀ r, r < mR W → ∃ c cd, P r = some c ∧ CodeT T c cd ∧ RulQ cd (rl r)) ∧ (∀ i, i < 4 → ∀ v, P i = some v → ∃ cd, CodeT T v cd)
def BkR (g : GS) (W : Nat → Int32) (gl : List TxL) (rl : Nat → List TxL) : Prop := BV (gF g 20) (gA g 21) (gA g 22) (gA g 23) (gA g 24) (gA g 25) (gV g 20 7) (gP g 29) (gT g) W gl rl
def KpR (g : GS) (W : Nat → Int32) (gl : List TxL) (rl : Nat → List TxL) : Prop := BV (gF g 30) (gA g 31) (gA g 32) (gA g 33) (gA g 34) (gA g 35) (gV g 30 7) (gP g 39) (gT g) W gl rl
def WR (W : Nat → Int32) (gl : List TxL) (rl : Nat → List TxL) : Prop := WB W ∧ NZ W 32 ≤ 12 * nN (W 0) ∧ MOK W gl rl ∧ KOK W rl
/-- the same number in a row's first part -/
def Lo (W W' : Nat → Int32) : Prop := ∀ i, i < 5615 → W' i = W i
theorem Lo.N {W W' : Nat → Int32} (h : Lo W W') : mN W' = mN W := by unfold mN; rw [h 2 (by omega)]
theorem Lo.R {W W' : Nat → Int32} (h : Lo W W') : mR W' = mR W := by unfold mR; rw [h 1 (by omega)]
theorem Lo.G {W W' : Nat → Int32} (h : Lo W W') : mG W' = mG W := by unfold mG; rw [h 4 (by omega)]
theorem Lo.T {W W' : Nat → Int32} (h : Lo W W') : mT W' = mT W := by unfold mT; rw [h 5 (by omega)]
theorem Lo.ch {W W' : Nat → Int32} (h : Lo W W') : ChE W W' := fun i hi => h i (by omega)
theorem BV.cg {F F' A1 A1' A2 A2' A3 A3' A4 A4' A5 A5' : Nat → Int32} {V : Value} {P P' : Nat → Option Nat} {T l : List ME} {W W' : Nat → Int32} {gl : List TxL} {rl : Nat → List TxL} (h : BV F A1 A2 A3 A4 A5 V P T W gl rl) (hn : mN W ≤ 6) (hr : mR W ≤ 4) (hF : ∀ k, 8 ≤ k → k ≤ 17 → F' k = F k) (h1 : ∀ i, i < 1088 → A1' i = A1 i) (h2 : ∀ i, i < 8 → A2' i = A2 i) (h3 : ∀ i, i < 6 → A3' i = A3 i) (h4 : ∀ i, i < 6 → A4' i = A4 i) (h5 : ∀ i, i < 192 → A5' i = A5 i) (hP : ∀ i, i < 4 → P' i = P i) (hW : Lo W W') : BV F' A1' A2' A3' A4' A5' V P' (T ++ l) W' gl rl := by
  obtain ⟨⟨c1, c2, c3, c4, c9, c10, c11, c12, c13, c14, c15, c16, c17⟩, hg, hru, hrow⟩ := h
  refine ⟨⟨fun s k hs hk => ?_, fun z hz => ?_, fun k hk => ?_, fun p h6 h7 => ?_, ?_, ?_, ?_, ?_, ?_, ?_, ?_, ?_, ?_⟩, ?_, fun r hr' => ?_, fun i hi v hv => ?_⟩
  · rw [h1 _ (by omega), hW _ (by omega)]; exact c1 s k hs hk
  · rw [h2 _ hz, hW _ (by omega)]; exact c2 z hz
  · rw [hW.N] at hk
    obtain ⟨d1, d2, d3⟩ := c3 k hk
    rw [h3 k (by omega), h4 k (by omega), hW _ (by omega), hW _ (by omega)]
    exact ⟨d1, d2, fun s hs => by rw [h5 _ (by omega), hW _ (by omega)]; exact d3 s hs⟩
  · rw [hW.N] at h6; rw [h5 p h7]; exact c4 p h6 h7
  · rw [hF 9 (by omega) (by omega), hW 0 (by omega)]; exact c9
  · rw [hF 10 (by omega) (by omega), hW 1 (by omega)]; exact c10
  · rw [hF 11 (by omega) (by omega), hW 2 (by omega)]; exact c11
  · rw [hF 12 (by omega) (by omega), hW 4 (by omega)]; exact c12
  · rw [hF 13 (by omega) (by omega), hW 5 (by omega)]; exact c13
  · rw [hF 14 (by omega) (by omega), hW 6 (by omega)]; exact c14
  · rw [hF 15 (by omega) (by omega), hW 7 (by omega)]; exact c15
  · rw [hF 16 (by omega) (by omega), hW 8 (by omega)]; exact c16
  · rw [hF 17 (by omega) (by omega), hW 9 (by omega)]; exact c17
  · rw [hF 8 (by omega) (by omega), hW 3 (by omega), hW (1310 + 861 * 4) (by omega)]
    rcases hg with x | ⟨x1, x2, c, cd, x3, x4, x5⟩
    · exact Or.inl x
    · exact Or.inr ⟨x1, x2, c, cd, x3, x4.app l, x5⟩
  · rw [hW.R] at hr'
    obtain ⟨c, cd, x1, x2, x3⟩ := hru r hr'
    exact ⟨c, cd, by rw [hP r (by omega)]; exact x1, x2.app l, x3⟩
  · rw [hP i hi] at hv
    obtain ⟨cd, x⟩ := hrow i hi v hv
    exact ⟨cd, x.app l⟩
theorem WB.lo {W W' : Nat → Int32} (h : WB W) (e : ∀ i, i < 1310 → W' i = W i) : WB W' := by
  obtain ⟨a1, a2, a3, a4, a5, a6, a7, a8, a9, a10, a11, a12, a13⟩ := h
  have ec : ChE W W' := fun i hi => e i (by omega)
  have z : ∀ i, i < 1310 → zW W' i = zW W i := fun i hi => by unfold zW; rw [e i hi]
  have eN : mN W' = mN W := by unfold mN; rw [e 2 (by omega)]
  have eR : mR W' = mR W := by unfold mR; rw [e 1 (by omega)]
  have eG : mG W' = mG W := by unfold mG; rw [e 4 (by omega)]
  have eT : mT W' = mT W := by unfold mT; rw [e 5 (by omega)]
  refine ⟨fun s hs => ?_, ?_, fun z' hz => ?_, ?_, ?_, ?_, fun k hk => ?_, ?_, ?_, ?_, ?_, ?_, ?_⟩
  · obtain ⟨c1, c2⟩ := a1 s hs
    refine ⟨fun k hk => by rw [zC_cg ec hs hk]; exact c1 k hk, ?_⟩
    rw [zS_congr 34 (fun i hi => zC_cg ec hs hi)]; exact c2
  · unfold LB; rw [z 8 (by omega)]; exact a2
  · rw [z _ (by omega)]; exact a3 z' hz
  · rw [z _ (by omega)]; exact a4
  · rw [NZ_cg ec 32 (Nat.le_refl _)]; exact a5
  · rw [eN, e 2 (by omega)]; exact a6
  · rw [eN] at hk
    obtain ⟨b1, b2, b3⟩ := a7 k hk
    have := a6.1
    rw [z _ (by omega), z _ (by omega)]
    exact ⟨b1, b2, fun s hs => by rw [z _ (by omega)]; exact b3 s hs⟩
  · rw [z _ (by omega)]; exact a8
  · rw [z _ (by omega)]; exact a9
  · rw [eG, e 4 (by omega)]; exact a10
  · rw [eT, e 5 (by omega)]; exact a11
  · rw [eR, e 1 (by omega)]; exact a12
  · rw [z _ (by omega)]; exact a13
theorem MTx.cg {W W' : Nat → Int32} {t : Nat} {ls : List TxL} (h : MTx W t ls) (e : ∀ i, 1310 + 861 * t ≤ i → i < 1310 + 861 * t + 861 → W' i = W i) : MTx W' t ls := by
  obtain ⟨h1, h2, h3⟩ := h
  refine ⟨by rw [e _ (by omega) (by omega)]; exact h1, h2, fun q hq => ?_⟩
  obtain ⟨a1, a2, a3, b, m1, m2, m3, m4, m5⟩ := h3 q hq
  refine ⟨by rw [e _ (by omega) (by omega)]; exact a1, by rw [e _ (by omega) (by omega)]; exact a2, by rw [e _ (by omega) (by omega)]; exact a3, b, by rw [e _ (by omega) (by omega)]; exact m1, by rw [e _ (by omega) (by omega)]; exact m2, m3, fun j hj => ?_, m5⟩
  rw [e _ (by omega) (by omega), e _ (by omega) (by omega)]
  exact m4 j hj
/-- numbers changed, texts as they were -/
theorem WR.of {W W' : Nat → Int32} {gl : List TxL} {rl : Nat → List TxL} (h : WR W gl rl) (hb : WB W') (hn : NZ W' 32 ≤ 12 * nN (W' 0)) (h1 : W' 1 = W 1) (h3 : W' 3 = W 3) (ht : ∀ i, 1310 ≤ i → i < 5615 → W' i = W i) : WR W' gl rl := by
  obtain ⟨-, -, ⟨-, -, ⟨r1, r2, r3⟩, -, m3, m4⟩, hk⟩ := h
  have eR : mR W' = mR W := by unfold mR; rw [h1]
  refine ⟨hb, hn, ⟨hb.2.2.2.2.2.2.2.2.2.1, hb.2.2.2.2.2.2.2.2.2.2.1, ⟨by rw [eR]; exact r1, by rw [eR, h1]; exact r2, fun r hr => ?_⟩, hb.2.2.2.2.2.1, fun x => ?_, m4⟩, fun r hr => ?_⟩
  · rw [eR] at hr
    exact (r3 r hr).cg (fun i a b => ht i (by omega) (by omega))
  · rw [h3] at x
    exact (m3 x).cg (fun i a b => ht i (by omega) (by omega))
  · rw [eR] at hr
    exact hk r hr
theorem WR.lo {W W' : Nat → Int32} {gl : List TxL} {rl : Nat → List TxL} (h : WR W gl rl) (e : Lo W W') : WR W' gl rl :=
  h.of (h.1.lo (fun i hi => e i (by omega))) (by rw [NZ_cg e.ch 32 (Nat.le_refl _), e 0 (by omega)]; exact h.2.1) (e 1 (by omega)) (e 3 (by omega)) (fun i _ b => e i b)
theorem WR.n6 {W : Nat → Int32} {gl : List TxL} {rl : Nat → List TxL} (h : WR W gl rl) : mN W ≤ 6 := h.1.2.2.2.2.2.1.1
theorem WR.r4 {W : Nat → Int32} {gl : List TxL} {rl : Nat → List TxL} (h : WR W gl rl) : mR W ≤ 4 := h.2.2.1.2.2.1.1
/-! the relation -/
def TpR (g : GS) : Prop := ∃ n, n ≤ 400 ∧ gF g 1 1 = nI n ∧ gF g 63 5 = nI n ∧ TpE n (gA g 66) (gA g 2)
def ImR (g : GS) : Prop := (∃ c, gV g 30 7 = .ref c) ∧ (∀ i, i < 4 → ∀ v, gP g 39 i = some v → ∃ cd, CodeT (gT g) v cd) ∧ (gF g 30 8 = 0 ∨ gF g 30 8 = 1) ∧ ((gF g 0 4 = 0 ∧ gF g 63 3 = 0) ∨ (gF g 0 4 = 1 ∧ gF g 63 3 = 1 ∧ ∃ gl rl, WR (gA g 65) gl rl ∧ KpR g (gA g 65) gl rl))
def Rel (K : Nat) (g : GS) : Prop := (∃ gl rl, WR (gA g 64) gl rl ∧ BkR g (gA g 64) gl rl) ∧ Z0 g ∧ gF g 26 0 = 0 ∧ TpR g ∧ gF g 7 7 = gF g 63 10 ∧ ImR g ∧ (gT g).length ≤ K
theorem Rel.up {K K' : Nat} {g : GS} (h : Rel K g) (hk : K ≤ K') : Rel K' g := ⟨h.1, h.2.1, h.2.2.1, h.2.2.2.1, h.2.2.2.2.1, h.2.2.2.2.2.1, Nat.le_trans h.2.2.2.2.2.2 hk⟩
def fRl (c k : Nat) : Bool := fK c k || fQ c k
def aRl (c : Nat) : Bool := aK c || (aQ c || Nat.beq c 82)
theorem Rel.fr {K : Nat} {g g' : GS} (h : Rel K g) (hf : Fr fRl aRl g g') (hz : Z0 g') : Rel K g' := by
  obtain ⟨⟨gl, rl, h1, h2⟩, -, h3, ⟨n, h4, h5, h6, h7⟩, h8, ⟨i1, i2, i3, i4⟩, h9⟩ := h
  obtain ⟨fF, fA, -, fV, fP, fT⟩ := hf
  have b : gF g' 20 = gF g 20 := funext fun k => fF 20 k rfl
  have b3 : gF g' 30 = gF g 30 := funext fun k => fF 30 k rfl
  refine ⟨⟨gl, rl, ?_, ?_⟩, hz, ?_, ⟨n, h4, ?_, ?_, ?_⟩, ?_, ⟨?_, ?_, ?_, ?_⟩, ?_⟩
  · rw [fA 64 rfl]; exact h1
  · unfold BkR
    rw [b, fA 21 rfl, fA 22 rfl, fA 23 rfl, fA 24 rfl, fA 25 rfl, fV 20 7 rfl, fP 29 rfl, fT, fA 64 rfl]
    exact h2
  · rw [fF 26 0 rfl]; exact h3
  · rw [fF 1 1 rfl]; exact h5
  · rw [fF 63 5 rfl]; exact h6
  · rw [fA 66 rfl, fA 2 rfl]; exact h7
  · rw [fF 7 7 rfl, fF 63 10 rfl]; exact h8
  · rw [fV 30 7 rfl]; exact i1
  · rw [fP 39 rfl, fT]; exact i2
  · rw [b3]; exact i3
  · rw [fF 0 4 rfl, fF 63 3 rfl, fA 65 rfl]
    unfold KpR
    rw [b3, fA 31 rfl, fA 32 rfl, fA 33 rfl, fA 34 rfl, fA 35 rfl, fV 30 7 rfl, fP 39 rfl, fT]
    exact i4
  · rw [fT]; exact h9
theorem fRl_K (c k : Nat) (h : fRl c k = false) : fK c k = false := (Bool.or_eq_false_iff.mp h).1
theorem fRl_Q (c k : Nat) (h : fRl c k = false) : fQ c k = false := (Bool.or_eq_false_iff.mp h).2
theorem aRl_K (c : Nat) (h : aRl c = false) : aK c = false := (Bool.or_eq_false_iff.mp h).1
theorem aRl_Q (c : Nat) (h : aRl c = false) : aQ c = false := (Bool.or_eq_false_iff.mp (Bool.or_eq_false_iff.mp h).2).1
theorem kf_rl {g g' : GS} (h : KF g g') : Fr fRl aRl g g' := h.mono fRl_K aRl_K
theorem qf_rl {g g' : GS} (h : Fr fQ aQ g g') : Fr fRl aRl g g' := h.mono fRl_Q aRl_Q
theorem Z0.fq {g g' : GS} (h : Z0 g) (hf : Fr fQ aQ g g') : Z0 g' := fun s hs => by
  rw [hf.2.1 50 rfl, hf.2.1 59 rfl]; exact h s hs
theorem Z0.sB {g : GS} (h : Z0 g) (c : Nat) (w : Nat → Int64) : Z0 (sB g c w) := h
theorem sb_rl {g g' : GS} (h : Fr fRl aRl g g') (w : Nat → Int64) : Fr fRl aRl g (sB g' 82 w) := h.sB rfl
/-! what a call finds -/
def gq (W : Nat → Int32) (q : Option CD) : Prop := match q with | none => W 3 = 0 | some _ => ¬ W 3 = 0
theorem Rel.cq {K : Nat} {g : GS} (h : Rel K g) : ∃ gl rl q, WR (gA g 64) gl rl ∧ BkR g (gA g 64) gl rl ∧ Cl g q (mT (gA g 64)) (mG (gA g 64)) ∧ CQ g (gA g 64) gl q := by
  obtain ⟨⟨gl, rl, h1, h2⟩, hz, -⟩ := h
  have hW := h1.1
  obtain ⟨b1, b2, b3, b4⟩ := h2
  have e12 : gF g 20 12 = nI (mG (gA g 64)) := b1.2.2.2.2.2.2.2.1.trans hW.2.2.2.2.2.2.2.2.2.1.2
  have e13 : gF g 20 13 = nI (mT (gA g 64)) := b1.2.2.2.2.2.2.2.2.1.trans hW.2.2.2.2.2.2.2.2.2.2.1.2.2
  rcases b2 with ⟨x1, x2, x3⟩ | ⟨x1, x2, c, cd, x3, x4, x5, x6⟩
  · exact ⟨gl, rl, none, h1, ⟨b1, Or.inl ⟨x1, x2, x3⟩, b3, b4⟩, ⟨x2, e13, hW.T, e12, hW.G⟩, ⟨b1, hW, hz, x1⟩⟩
  · exact ⟨gl, rl, some cd, h1, ⟨b1, Or.inr ⟨x1, x2, c, cd, x3, x4, x5, x6⟩, b3, b4⟩, ⟨⟨by rw [x2]; decide, c, x3, x4⟩, e13, hW.T, e12, hW.G⟩, ⟨b1, hW, hz, ⟨by rw [x1]; decide, x5⟩⟩⟩
