/-! game, alike -/
theorem gm_two {n : Nat} {B C : Nat → Int32} (ht : TpE n C B) (hn : n ≤ 400) {d d' : Dr} (hd : DrE d d') (hb : DrB d') {rg : Nat ⊕ Dr} (hrg : rg = match pRead (obT n B) (gaLine (obT n B)) (sk n B 0) d with | .inl e => .inl e | .inr d => if drK d.1 32 0 = true then .inr d else .inl n) :
    (∃ e, rg = .inl e ∧ pRead (obT n C) (gaLine (obT n C)) (sk n C 0) d' = .inl e) ∨ (∃ r', pRead (obT n C) (gaLine (obT n C)) (sk n C 0) d' = .inr r' ∧ rg = .inl n ∧ ¬ ∀ q, q < 32 → gmS r'.1 q ≤ 100) ∨ (∃ r r', pRead (obT n C) (gaLine (obT n C)) (sk n C 0) d' = .inr r' ∧ rg = .inr r ∧ DrE r r' ∧ (∀ q, q < 32 → gmS r'.1 q ≤ 100) ∧ DrB r' ∧ NZ (dW r') 32 ≤ NZ (dW d') 32 + 12) := by
  rcases game_rel ht hd with ⟨e, h1, h2⟩ | ⟨r, r', h1, h2, h3⟩
  · rw [h1] at hrg
    exact Or.inl ⟨e, hrg, h2⟩
  · rw [h1] at hrg
    have hb' := game_b (obT_ok n C hn) hb h2
    have hk : drK r.1 32 0 = true ↔ ∀ q, q < 32 → gmS r'.1 q ≤ 100 := by
      rw [drK_z 32 0 rfl]
      exact ⟨fun z q hq => by rw [← drS_z h3 hq]; exact z q (Nat.zero_le _) hq, fun z q _ hq => by rw [drS_z h3 hq]; exact z q hq⟩
    by_cases c : drK r.1 32 0 = true
    · refine Or.inr (Or.inr ⟨r, r', h2, ?_, h3, hk.mp c, hb'.1, hb'.2⟩)
      rw [hrg]; exact if_pos c
    · refine Or.inr (Or.inl ⟨r', h2, ?_, fun z => c (hk.mpr z)⟩)
      rw [hrg]; exact if_neg c
def fMd (c k : Nat) : Bool := Nat.beq c 63 && !(Nat.beq k 3)
theorem beq_f {a b : Nat} (h : ¬ a = b) : Nat.beq a b = false := by
  cases x : Nat.beq a b
  · rfl
  · exact absurd (Nat.eq_of_beq_eq_true x) h
theorem fMd_Tg (c k : Nat) (h : fMd c k = false) : fTg c k = false := by
  unfold fMd at h
  unfold fTg
  cases x : Nat.beq c 63
  · rfl
  · rw [x] at h
    cases y : Nat.beq k 3
    · rw [y] at h; cases h
    · rw [Nat.eq_of_beq_eq_true y]; rfl
theorem fMd_Gm (c k : Nat) (h : fMd c k = false) : fGm c k = false := fTg_Gm c k (fMd_Tg c k h)
theorem fMd_Y (c k : Nat) (h : fY c k = false) : fMd c k = false := fY_of (f := fMd) (fun _ => rfl) rfl rfl rfl c k h
theorem aTg_Y (c : Nat) (h : aY c = false) : aTg c = false := aY_of (a := aTg) ⟨rfl, rfl, rfl, rfl, rfl⟩ rfl rfl c h
/-- what a reading of the Model leaves -/
theorem prd_fr {α : Type} {n : Nat} {I : GS → Nat → Nat → α → Prop} {g3 g4 : GS} {kd : Int32} {r : Nat ⊕ α} {x : Int32} (h : PRd n I (rdM kd n g3) r x g4) : Fr fMd aTg g3 g4 ∧ Lo (gA g3 64) (gA g4 64) ∧ gF g4 63 5 = 0 ∧ gF g4 63 7 = nI n := by
  obtain ⟨g1, ln, ⟨h1, h2⟩, h3, h4⟩ := h
  have hr : Fr fMd aTg g3 (rdM kd n g3) := (((((Fr.rf.sF rfl).sF rfl).sF rfl).sF rfl).sF rfl).sF rfl
  have hg : Fr fMd aTg g3 g1 := hr.tr (h1.mono fMd_Tg (fun _ e => e))
  have key : ∀ e : Int32, Fr fMd aTg g3 (wU (sF g1 63 10 e) (1310 + 861 * 5) (nI ln)) ∧ Lo (gA g3 64) (gA (wU (sF g1 63 10 e) (1310 + 861 * 5) (nI ln)) 64) ∧ gF (wU (sF g1 63 10 e) (1310 + 861 * 5) (nI ln)) 63 5 = 0 ∧ gF (wU (sF g1 63 10 e) (1310 + 861 * 5) (nI ln)) 63 7 = nI n := fun e => by
    refine ⟨(hg.sF rfl).sA rfl, fun i hi => ?_, ?_, ?_⟩
    · refine (upd_other (f := gA g1 64) (i := 1310 + 861 * 5) (v := nI ln) (by omega)).trans ?_
      rw [h2 i (by unfold lC; omega)]; rfl
    · show gF g1 63 5 = 0
      rw [h1.1 63 5 rfl]; rfl
    · show gF g1 63 7 = nI n
      rw [h1.1 63 7 rfl]; rfl
  cases r with
  | inl e => dsimp only at h4; rw [h4.2]; exact key _
  | inr s => dsimp only at h4; rw [h4.2.1]; exact key _
theorem prd_in {α : Type} {n : Nat} {I : GS → Nat → Nat → α → Prop} {g3 g4 : GS} {kd : Int32} {r : Nat ⊕ α} {x : Int32} {e : Nat} (h : PRd n I (rdM kd n g3) r x g4) (hr : r = .inl e) : x = 0 ∧ gF g4 63 10 = nI e := by
  obtain ⟨g1, ln, h1, h3, h4⟩ := h
  subst hr
  dsimp only at h4
  exact ⟨h4.1, by rw [h4.2]; rfl⟩
theorem fR_Y (c k : Nat) (h : fY c k = false) : fR c k = false := fY_of (f := fR) (fun _ => rfl) rfl rfl rfl c k h
theorem aR_Y (c : Nat) (h : aY c = false) : aR c = false := aY_of (a := aR) ⟨rfl, rfl, rfl, rfl, rfl⟩ rfl rfl c h
theorem fB8_Y (c k : Nat) (h : fY c k = false) : fBk 8 c k = false := fY_of (f := fBk 8) (fun _ => rfl) rfl rfl rfl c k h
theorem aB8_Y (c : Nat) (h : aY c = false) : aBk 8 c = false := aY_of (a := aBk 8) ⟨rfl, rfl, rfl, rfl, rfl⟩ rfl rfl c h
theorem fB20_Y (c k : Nat) (h : fY c k = false) : fBk 20 c k = false := fY_of (f := fBk 20) (fun _ => rfl) rfl rfl rfl c k h
theorem aB20_Y (c : Nat) (h : aY c = false) : aBk 20 c = false := aY_of (a := aBk 20) ⟨rfl, rfl, rfl, rfl, rfl⟩ rfl rfl c h
theorem i5a {a : Nat → Bool} (b : Nat) (h : a b = false ∧ a (b + 1) = false ∧ a (b + 2) = false ∧ a (b + 3) = false ∧ a (b + 4) = false) (i : Nat) (hi : i < 5) : a (b + i) = false := by
  match i, hi with
  | 0, _ => exact h.1
  | 1, _ => exact h.2.1
  | 2, _ => exact h.2.2.1
  | 3, _ => exact h.2.2.2.1
  | 4, _ => exact h.2.2.2.2
theorem fMd_X (c k : Nat) (h : fX c k = false) : fMd c k = false := fX_of (f := fMd) (fun _ => rfl) (fun _ => rfl) rfl rfl rfl c k h
theorem aTg_X (c : Nat) (h : aX c = false) : aTg c = false := aX_of (a := aTg) (i5a 21 ⟨rfl, rfl, rfl, rfl, rfl⟩) (i5a 31 ⟨rfl, rfl, rfl, rfl, rfl⟩) rfl rfl rfl c h
theorem fR_X (c k : Nat) (h : fX c k = false) : fR c k = false := fX_of (f := fR) (fun _ => rfl) (fun _ => rfl) rfl rfl rfl c k h
theorem aR_X (c : Nat) (h : aX c = false) : aR c = false := aX_of (a := aR) (i5a 21 ⟨rfl, rfl, rfl, rfl, rfl⟩) (i5a 31 ⟨rfl, rfl, rfl, rfl, rfl⟩) rfl rfl rfl c h
theorem fB8_X (c k : Nat) (h : fX c k = false) : fBk 8 c k = false := fX_of (f := fBk 8) (fun _ => rfl) (fun _ => rfl) rfl rfl rfl c k h
theorem aB8_X (c : Nat) (h : aX c = false) : aBk 8 c = false := aX_of (a := aBk 8) (i5a 21 ⟨rfl, rfl, rfl, rfl, rfl⟩) (i5a 31 ⟨rfl, rfl, rfl, rfl, rfl⟩) rfl rfl rfl c h
/-- a text that was not taken: nothing but the tape and the fault -/
theorem Rel.not {K : Nat} {g G g4 : GS} (h : Rel K g) (hk : Fr fX aX g G) (hz : Z0 G) (h64 : gA G 64 = gA g 64) (hm : Fr fMd aTg G g4) (hl : Lo (gA G 64) (gA g4 64)) (h5 : gF g4 63 5 = 0) (h1 : gF G 1 1 = 0) (hf : gF G 7 7 = gF g4 63 10) (c : Int32) : Rel K (sF g4 63 0 c) := by
  refine h.mk ((hk.tr (hm.mono fMd_X aTg_X)).sF rfl) ?_ (fun s hs => ?_) ⟨0, Nat.zero_le _, ?_, h5, fun i hi => absurd hi (by omega)⟩ ?_
  · rw [← h64]; exact hl
  · show gA g4 50 s = 0 ∧ gA g4 59 s = 0
    rw [hm.2.1 50 rfl, hm.2.1 59 rfl]; exact hz s hs
  · show gF g4 1 1 = 0
    rw [hm.1 1 1 rfl]; exact h1
  · show gF g4 7 7 = gF g4 63 10
    rw [hm.1 7 7 rfl]; exact hf
/-- the drafts, where a text begins -/
theorem dr_in {g : GS} {W : Nat → Int32} {gl : List TxL} {rl : Nat → List TxL} (hw : WR W gl rl) (hb : BkR g W gl rl) {d d' : Dr} (h1 : ∀ i, i < 1088 → d.1 i = gA g 21 i) (h2 : ∀ z, z < 8 → d.2.1 z = gA g 22 z) (h3 : d.2.2 = gF g 20 12) (k1 : ∀ i, i < 1088 → d'.1 i = W (18 + i)) (k2 : ∀ z, z < 8 → d'.2.1 z = W (10 + z)) (k3 : d'.2.2 = W 4) : DrE d d' ∧ DrB d' ∧ NZ (dW d') 32 = NZ W 32 := by
  obtain ⟨b1, b2, b3, b4, b9, b10, b11, b12, -⟩ := hb.1
  have eW : ∀ s k, s < 32 → k < 34 → zC (dW d') s k = zC W s k := fun s k hs hk => by
    show (d'.1 (18 + 34 * s + k - 18)).toInt = (W (18 + 34 * s + k)).toInt
    rw [k1 _ (by omega), show 18 + (18 + 34 * s + k - 18) = 18 + 34 * s + k by omega]
  refine ⟨⟨fun i hi => ?_, fun z hz => ?_, ?_⟩, ⟨fun i hi => ?_, fun z hz => ?_, ?_⟩, NZ_c eW 32 (Nat.le_refl _)⟩
  · rw [h1 i hi, k1 i hi]
    have := b1 (i / 34) (i % 34) (by omega) (by omega)
    rw [show 34 * (i / 34) + i % 34 = i by omega, show 18 + 34 * (i / 34) + i % 34 = 18 + i by omega] at this
    exact this
  · rw [h2 z hz, k2 z hz]; exact b2 z hz
  · rw [h3, k3]; exact b12
  · rw [k1 i hi]
    have := zC_100 hw.1.1 (s := i / 34) (o := i % 34) (by omega) (by omega)
    unfold zC zW at this
    rw [show 18 + 34 * (i / 34) + i % 34 = 18 + i by omega] at this
    exact this
  · rw [k2 z hz]; exact hw.1.2.2.1 z hz
  · rw [k3]
    obtain ⟨g1, g2⟩ := hw.1.2.2.2.2.2.2.2.2.2.1
    rw [g2, nI_toInt (by omega)]; omega
/-- the row that a game leaves -/
theorem gm_row {W W' : Nat → Int32} {gl : List TxL} {rl : Nat → List TxL} {d' : Dr} {GC : Nat} (hw : WR W gl rl) (hGC : W 0 = nI GC) (hG : GC < 12) (hb : DrB d') (hk : ∀ q, q < 32 → gmS d'.1 q ≤ 100) (hn : NZ (dW d') 32 ≤ NZ W 32 + 12) (e : ∀ i, i < 5615 → W' i = if i = 0 then nI (GC + 1) else if i = 4 then d'.2.2 else if 10 ≤ i ∧ i < 10 + 8 then d'.2.1 (i - 10) else if 18 ≤ i ∧ i < 18 + 1088 then d'.1 (i - 18) else W i) : WR W' gl rl ∧ (∀ i, i < 5615 → ¬ i = 0 → ¬ i = 4 → (i < 10 ∨ 1106 ≤ i) → W' i = W i) := by
  have lo : ∀ i, i < 5615 → ¬ i = 0 → ¬ i = 4 → (i < 10 ∨ 1106 ≤ i) → W' i = W i := fun i h1 h2 h3 h4 => by
    rw [e i h1, if_neg h2, if_neg h3, if_neg (by omega), if_neg (by omega)]
  have zl : ∀ i, i < 5615 → ¬ i = 0 → ¬ i = 4 → (i < 10 ∨ 1106 ≤ i) → zW W' i = zW W i := fun i h1 h2 h3 h4 => by unfold zW; rw [lo i h1 h2 h3 h4]
  have ec : ∀ s k, s < 32 → k < 34 → zC W' s k = zC (dW d') s k := fun s k hs hk => by
    show (W' (18 + 34 * s + k)).toInt = (d'.1 (18 + 34 * s + k - 18)).toInt
    rw [e _ (by omega), if_neg (by omega), if_neg (by omega), if_neg (by omega), if_pos (by omega)]
  obtain ⟨⟨a1, a2, a3, a4, a5, a6, a7, a8, a9, a10, a11, a12, a13⟩, hz, hM, hK⟩ := hw
  have e4 : W' 4 = d'.2.2 := by rw [e 4 (by omega), if_neg (by omega), if_pos rfl]
  have e0 : W' 0 = nI (GC + 1) := by rw [e 0 (by omega), if_pos rfl]
  have eR : mR W' = mR W := by unfold mR; rw [lo 1 (by omega) (by omega) (by omega) (by omega)]
  have eN : mN W' = mN W := by unfold mN; rw [lo 2 (by omega) (by omega) (by omega) (by omega)]
  have eT : mT W' = mT W := by unfold mT; rw [lo 5 (by omega) (by omega) (by omega) (by omega)]
  have eG : mG W' ≤ 10 ∧ W' 4 = nI (mG W') := by
    obtain ⟨-, -, u, v⟩ := hb
    have : W' 4 = nI d'.2.2.toInt.toNat := by rw [e4]; exact Int32.toInt_inj.mp (by rw [nI_toInt (by omega)]; omega)
    have m : mG W' = d'.2.2.toInt.toNat := by unfold mG; rw [this, nI_clamp (by omega)]
    rw [m]; exact ⟨by omega, this⟩
  have hz' : NZ W' 32 ≤ 12 * (GC + 1) := by
    rw [NZ_c ec 32 (Nat.le_refl _)]
    rw [hGC, show nN (nI GC) = GC from nN_nI (by omega)] at hz
    omega
  have hC := gm_CB hb hk
  have hWB : WB W' := by
    refine ⟨fun s hs => ?_, ?_, fun z hz => ?_, ?_, by omega, ?_, fun k hk => ?_, ?_, ?_, eG, ?_, ?_, ?_⟩
    · obtain ⟨c1, c2⟩ := hC s hs
      refine ⟨fun k hk => by rw [ec s k hs hk]; exact c1 k hk, ?_⟩
      rw [zS_congr 34 (fun i hi => ec s i hs hi)]; exact c2
    · unfold LB; rw [zl 8 (by omega) (by omega) (by omega) (by omega)]; exact a2
    · unfold zW
      rw [e _ (by omega), if_neg (by omega), if_neg (by omega), if_pos (by omega), show 10 + z - 10 = z by omega]
      exact hb.2.1 z hz
    · rw [zl _ (by omega) (by omega) (by omega) (by omega)]; exact a4
    · rw [eN, lo 2 (by omega) (by omega) (by omega) (by omega)]; exact a6
    · rw [eN] at hk
      obtain ⟨b1, b2, b3⟩ := a7 k hk
      have := a6.1
      rw [zl _ (by omega) (by omega) (by omega) (by omega), zl _ (by omega) (by omega) (by omega) (by omega)]
      exact ⟨b1, b2, fun s hs => by rw [zl _ (by omega) (by omega) (by omega) (by omega)]; exact b3 s hs⟩
    · rw [zl _ (by omega) (by omega) (by omega) (by omega)]; exact a8
    · rw [zl _ (by omega) (by omega) (by omega) (by omega)]; exact a9
    · rw [eT, lo 5 (by omega) (by omega) (by omega) (by omega)]; exact a11
    · rw [eR, lo 1 (by omega) (by omega) (by omega) (by omega)]; exact a12
    · unfold zW
      rw [e0, nI_toInt (by omega)]; omega
  refine ⟨WR.of (W := W) ⟨⟨a1, a2, a3, a4, a5, a6, a7, a8, a9, a10, a11, a12, a13⟩, hz, hM, hK⟩ hWB (by rw [e0, show nN (nI (GC + 1)) = GC + 1 from nN_nI (by omega)]; exact hz') (lo 1 (by omega) (by omega) (by omega) (by omega)) (lo 3 (by omega) (by omega) (by omega) (by omega)) (fun i a b => lo i b (by omega) (by omega) (by omega)), lo⟩
