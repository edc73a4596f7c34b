/-! goals and rules, alike: what both have read -/
theorem CdOf_N {rl : Bool} {g : GS} {s : HC} (h : TxOK rl g s) : CdOf (cdN g s.1.length s.2.length) s := by
  obtain ⟨-, -, h12, h400, hH, hc, -⟩ := h
  have a : ∀ j, j < 4 * s.1.length → cd_hd (cdN g s.1.length s.2.length) (nI j) = gA g 18 j := fun j hj => by
    show rAt (4 * s.1.length) (rCopy 48 (4 * s.1.length) (gA g 18) (fun _ => 0)) (nI j) = _
    rw [rAt_in hj (by omega)]
    exact if_pos ⟨by omega, hj⟩
  refine ⟨rfl, h12, h400, fun l hl => ?_, fun i hi => ?_⟩
  · obtain ⟨x0, x1, x2, x3⟩ := hH l hl
    have e : (4 : Int32) * nI l = nI (4 * l) := nIm (nIc 4) rfl
    rw [e, show nI (4 * l) + 1 = nI (4 * l + 1) from nIa rfl (nIc 1), show nI (4 * l) + 2 = nI (4 * l + 2) from nIa rfl (nIc 2), show nI (4 * l) + 3 = nI (4 * l + 3) from nIa rfl (nIc 3), a _ (by omega), a _ (by omega), a _ (by omega), a _ (by omega)]
    exact ⟨x0, x1, x2, x3⟩
  · show rAt s.2.length (rCopy 400 s.2.length (gA g 19) (fun _ => 0)) (nI i) = _
    rw [rAt_in hi (by omega)]
    exact (if_pos ⟨by omega, hi⟩).trans (hc i hi)
theorem kpI_at {t : Nat} (ht : t ≤ 4) : ∀ (k i : Nat) (g : GS) (j : Nat), i + k ≤ 861 → gA (itU (kpS t) k i g) 64 j = if 1310 + 861 * t + i ≤ j ∧ j < 1310 + 861 * t + i + k then gA g 64 (1310 + 861 * 5 + (j - (1310 + 861 * t))) else gA g 64 j
  | 0, i, g, j, _ => by rw [if_neg (by omega)]; rfl
  | k + 1, i, g, j, hk => by
    show gA (itU (kpS t) k (i + 1) (kpS t i g)) 64 j = _
    have u : ∀ q, gA (kpS t i g) 64 q = if q = 1310 + 861 * t + i then gA g 64 (1310 + 861 * 5 + i) else gA g 64 q := fun q => rfl
    rw [kpI_at ht k (i + 1) (kpS t i g) j (by omega), u, u]
    by_cases c : 1310 + 861 * t + (i + 1) ≤ j ∧ j < 1310 + 861 * t + (i + 1) + k
    · rw [if_pos c, if_neg (show ¬ (1310 + 861 * 5 + (j - (1310 + 861 * t)) = 1310 + 861 * t + i) by omega), if_pos (show 1310 + 861 * t + i ≤ j ∧ j < 1310 + 861 * t + i + (k + 1) by omega)]
    · rw [if_neg c]
      by_cases e : j = 1310 + 861 * t + i
      · rw [if_pos e, if_pos (by omega), e, show 1310 + 861 * t + i - (1310 + 861 * t) = i by omega]
      · rw [if_neg e, if_neg (by omega)]
theorem kp_fr (t : Nat) {g0 : GS} : ∀ (k i : Nat) {g : GS}, Fr f0 a64o g0 g → Fr f0 a64o g0 (itU (kpS t) k i g)
  | 0, _, _, h => h
  | k + 1, i, g, h => kp_fr t k (i + 1) (h.sA rfl)
theorem kpG_at {t : Nat} (ht : t ≤ 4) (g : GS) (j : Nat) : gA (kpG t g) 64 j = if 1310 + 861 * t ≤ j ∧ j < 1310 + 861 * t + 861 then gA g 64 (1310 + 861 * 5 + (j - (1310 + 861 * t))) else gA g 64 j := by
  unfold kpG
  rw [kpI_at ht 861 0 g j (by omega)]; rfl
theorem kpG_fr (t : Nat) (g : GS) : Fr f0 a64o g (kpG t g) := kp_fr t 861 0 Fr.rf
theorem TxQ.mv {rl : Bool} {W W' : Nat → Int32} {t : Nat} {s : HC} (h : TxQ rl W 5 s) (e : ∀ i, i < 861 → W' (1310 + 861 * t + i) = W (1310 + 861 * 5 + i)) : TxQ rl W' t s := by
  obtain ⟨h1, h2, h3, h4, h5⟩ := h
  have e' : ∀ j q i, i < 861 → j = 1310 + 861 * t + i → q = 1310 + 861 * 5 + i → W' j = W q := fun j q i hi hj hq => by rw [hj, hq]; exact e i hi
  refine ⟨(e' _ (1310 + 861 * 5) 0 (by omega) (by omega) (by omega)).trans h1, h2, h3, fun i hi => ?_, fun i hi => ?_⟩
  · have q := h4 i hi
    have r0 := e' (1310 + 861 * t + 1 + 5 * i) (1310 + 861 * 5 + 1 + 5 * i) (1 + 5 * i) (by omega) (by omega) (by omega)
    have r1 := e' (1310 + 861 * t + 1 + 5 * i + 1) (1310 + 861 * 5 + 1 + 5 * i + 1) (1 + 5 * i + 1) (by omega) (by omega) (by omega)
    have r2 := e' (1310 + 861 * t + 1 + 5 * i + 2) (1310 + 861 * 5 + 1 + 5 * i + 2) (1 + 5 * i + 2) (by omega) (by omega) (by omega)
    have r3 := e' (1310 + 861 * t + 1 + 5 * i + 3) (1310 + 861 * 5 + 1 + 5 * i + 3) (1 + 5 * i + 3) (by omega) (by omega) (by omega)
    have r4 := e' (1310 + 861 * t + 1 + 5 * i + 4) (1310 + 861 * 5 + 1 + 5 * i + 4) (1 + 5 * i + 4) (by omega) (by omega) (by omega)
    rw [r0, r1, r2, r3, r4]
    exact q
  · have q := h5 i hi
    have r0 := e' (1310 + 861 * t + 61 + 2 * i) (1310 + 861 * 5 + 61 + 2 * i) (61 + 2 * i) (by omega) (by omega) (by omega)
    have r1 := e' (1310 + 861 * t + 61 + 2 * i + 1) (1310 + 861 * 5 + 61 + 2 * i + 1) (61 + 2 * i + 1) (by omega) (by omega) (by omega)
    rw [r0, r1]
    exact q
theorem tx_in {n : Nat} {C : Nat → Int32} {rl : Bool} {G g4 : GS} {kd : Int32} {r : Nat ⊕ HC} {x : Int32} {s : HC} (h : PRd n (ITr n C rl) (rdM kd n G) r x g4) (hr : r = .inr s) (h12 : s.1.length ≤ 12) (h400 : s.2.length ≤ 400) : x = 1 ∧ gF g4 63 10 = -1 ∧ TxQ rl (gA g4 64) 5 s := by
  obtain ⟨g1, ln, h1, h3, h4⟩ := h
  subst hr
  dsimp only at h4
  obtain ⟨y1, y2, y3, b, y4, y5⟩ := h4
  obtain ⟨z1, ⟨z2, z3⟩, z4, z5, z6, z7⟩ := y5
  have e : ∀ q, gA g4 64 q = if q = 1310 + 861 * 5 then nI ln else gA g1 64 q := fun q => by rw [y2]; rfl
  have e' : ∀ q, ¬ q = 1310 + 861 * 5 → gA g4 64 q = gA g1 64 q := fun q hq => (e q).trans (if_neg hq)
  refine ⟨y1, by rw [y2]; rfl, (e _).trans ((if_pos rfl).trans (by rw [z7])), h12, h400, fun i hi => ?_, fun i hi => ?_⟩
  · obtain ⟨w1, w2, w3⟩ := z6 i hi
    rw [e' (1310 + 861 * 5 + 1 + 5 * i) (by omega), e' (1310 + 861 * 5 + 1 + 5 * i + 1) (by omega), e' (1310 + 861 * 5 + 1 + 5 * i + 2) (by omega), e' (1310 + 861 * 5 + 1 + 5 * i + 3) (by omega), e' (1310 + 861 * 5 + 1 + 5 * i + 4) (by omega)]
    refine ⟨w2, w3, fun hl => ?_, fun hl => ?_⟩
    · subst hl; exact w1
    · subst hl; exact w1
  · rw [e' (1310 + 861 * 5 + 61 + 2 * i) (by omega), e' (1310 + 861 * 5 + 61 + 2 * i + 1) (by omega)]
    exact z3 i hi
/-- the Book's first part, where a text is taken -/
theorem BV.tx {F F' A1 A2 A3 A4 A5 : Nat → Int32} {V V' : Value} {P P' : Nat → Option Nat} {T T' : List ME} {W W' : Nat → Int32} {gl gl' : List TxL} {rl rl' : Nat → List TxL} (h : BV F A1 A2 A3 A4 A5 V P T W gl rl) (hn : mN W ≤ 6) (e : ∀ i, i < 1310 → ¬ i = 1 → ¬ i = 3 → W' i = W i) (fF : ∀ k, ¬ k = 8 → ¬ k = 10 → F' k = F k) (f10 : F' 10 = W' 1) (hg : (W' 3 = 0 ∧ F' 8 = 0 ∧ V' = .ref 26) ∨ (W' 3 = 1 ∧ F' 8 = 1 ∧ ∃ c cd, V' = .ref c ∧ CodeT T' c cd ∧ GolC cd gl' ∧ nI cd.1 = W' (1310 + 861 * 4))) (hru : ∀ r, r < mR W' → ∃ c cd, P' r = some c ∧ CodeT T' c cd ∧ RulQ cd (rl' r)) (hrow : ∀ i, i < 4 → ∀ v, P' i = some v → ∃ cd, CodeT T' v cd) : BV F' A1 A2 A3 A4 A5 V' P' T' W' gl' rl' := by
  obtain ⟨⟨c1, c2, c3, c4, c9, c10, c11, c12, c13, c14, c15, c16, c17⟩, -⟩ := h
  have eN : mN W' = mN W := by unfold mN; rw [e 2 (by omega) (by omega) (by omega)]
  refine ⟨⟨fun s k hs hk => ?_, fun z hz => ?_, fun k hk => ?_, fun p h6 h7 => ?_, ?_, f10, ?_, ?_, ?_, ?_, ?_, ?_, ?_⟩, hg, hru, hrow⟩
  · rw [e _ (by omega) (by omega) (by omega)]; exact c1 s k hs hk
  · rw [e _ (by omega) (by omega) (by omega)]; exact c2 z hz
  · rw [eN] at hk
    obtain ⟨d1, d2, d3⟩ := c3 k hk
    rw [e _ (by omega) (by omega) (by omega), e _ (by omega) (by omega) (by omega)]
    exact ⟨d1, d2, fun s hs => by rw [e _ (by omega) (by omega) (by omega)]; exact d3 s hs⟩
  · rw [eN] at h6; exact c4 p h6 h7
  · rw [fF 9 (by omega) (by omega), e 0 (by omega) (by omega) (by omega)]; exact c9
  · rw [fF 11 (by omega) (by omega), e 2 (by omega) (by omega) (by omega)]; exact c11
  · rw [fF 12 (by omega) (by omega), e 4 (by omega) (by omega) (by omega)]; exact c12
  · rw [fF 13 (by omega) (by omega), e 5 (by omega) (by omega) (by omega)]; exact c13
  · rw [fF 14 (by omega) (by omega), e 6 (by omega) (by omega) (by omega)]; exact c14
  · rw [fF 15 (by omega) (by omega), e 7 (by omega) (by omega) (by omega)]; exact c15
  · rw [fF 16 (by omega) (by omega), e 8 (by omega) (by omega) (by omega)]; exact c16
  · rw [fF 17 (by omega) (by omega), e 9 (by omega) (by omega) (by omega)]; exact c17
theorem WB.tx {W W' : Nat → Int32} (h : WB W) (e : ∀ i, i < 1310 → ¬ i = 1 → ¬ i = 3 → W' i = W i) (hR : mR W' ≤ 4 ∧ W' 1 = nI (mR W')) : WB W' ∧ NZ W' 32 = NZ W 32 := by
  have z : ∀ i, i < 1310 → ¬ i = 1 → ¬ i = 3 → zW W' i = zW W i := fun i h1 h2 h3 => by unfold zW; rw [e i h1 h2 h3]
  have eG : mG W' = mG W := by unfold mG; rw [e 4 (by omega) (by omega) (by omega)]
  have eT : mT W' = mT W := by unfold mT; rw [e 5 (by omega) (by omega) (by omega)]
  obtain ⟨a1, a2, a3, a4, a5, a6, a7, a8, a9, a10, a11, a12, a13⟩ := id h
  refine ⟨h.nums (fun i x y => e i y (by omega) (by omega)) (e 2 (by omega) (by omega) (by omega)) ?_ ?_ ?_ ?_ ?_ ?_ hR ?_, NZ_c (fun s k hs hk => z _ (by omega) (by omega) (by omega)) 32 (Nat.le_refl _)⟩
  · rw [z 9 (by omega) (by omega) (by omega)]; exact a4
  · unfold LB; rw [z 8 (by omega) (by omega) (by omega)]; exact a2
  · rw [z 6 (by omega) (by omega) (by omega)]; exact a8
  · rw [z 7 (by omega) (by omega) (by omega)]; exact a9
  · rw [eG, e 4 (by omega) (by omega) (by omega)]; exact a10
  · rw [eT, e 5 (by omega) (by omega) (by omega)]; exact a11
  · rw [z 0 (by omega) (by omega) (by omega)]; exact a13
