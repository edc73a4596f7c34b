
/-! the class's Ways against the Model's chances -/
theorem i34 (s k : Nat) : (34 : Int32) * nI s + nI k = nI (34 * s + k) := nIa (nIm (nIc 34) rfl) rfl
theorem i32m (s k : Nat) : nI s * 32 + nI k = nI (32 * s + k) := by rw [nIa (nIm rfl (nIc 32)) (rfl : nI k = nI k)]; congr 1; omega
theorem i32n (s k : Nat) : (32 : Int32) * nI s + nI k = nI (32 * s + k) := nIa (nIm (nIc 32) rfl) rfl
theorem zC_100 {W : Nat → Int32} (h0 : CB W) {s o : Nat} (hs : s < 32) (ho : o < 34) : 0 ≤ zC W s o ∧ zC W s o ≤ 100 := by
  obtain ⟨a0, a1⟩ := h0 s hs
  have key : ∀ m, o + 1 ≤ m → m ≤ 34 → zS (zC W s) (o + 1) ≤ zS (zC W s) m := by
    intro m
    induction m with
    | zero => intro x; omega
    | succ m im =>
      intro x y
      by_cases e : o + 1 = m + 1
      · rw [e]; exact Int.le_refl _
      · have j1 := im (by omega) (by omega)
        have j2 := a0 m (by omega)
        show _ ≤ zS (zC W s) m + zC W s m
        omega
  have a2 := key 34 (by omega) (Nat.le_refl _)
  have a3 : zS (zC W s) (o + 1) = zS (zC W s) o + zC W s o := rfl
  have a4 := zS_nn (f := zC W s) o (fun i hi => a0 i (by omega))
  have a5 := a0 o ho
  omega
/-- the class's chances are the Model's -/
def ChQ (g : GS) (W : Nat → Int32) : Prop := ∀ s k, s < 32 → k < 34 → gA g 21 (34 * s + k) = W (18 + 34 * s + k)
theorem bk_ch_z {g : GS} {W : Nat → Int32} (h : ChQ g W) {s k : Nat} (hs : s < 32) (hk : k < 34) : bk_ch g 20 (nI s) (nI k) = W (18 + 34 * s + k) := by
  unfold bk_ch
  rw [i34, rAt_in (by omega) (by omega)]
  exact h s k hs hk
theorem bk_ct_z {g : GS} {W : Nat → Int32} (h : ChQ g W) {s : Nat} (hs : s < 32) : bk_ct g 20 (nI s) = zI (zS (zC W s) 34) :=
  sI_z 34 (fun k hk => by rw [bk_ch_z h hs hk]; exact (zW_I W _).symm)
def czF (f : Nat → Int) : Nat → Nat
  | 0 => 0
  | o + 1 => czF f o + (if f o ≤ 0 then 0 else 1)
theorem czF_0 {f : Nat → Int} {o : Nat} (h : f o ≤ 0) : czF f (o + 1) = czF f o := by show czF f o + _ = _; rw [if_pos h]; rfl
theorem czF_1 {f : Nat → Int} {o : Nat} (h : ¬ f o ≤ 0) : czF f (o + 1) = czF f o + 1 := by show czF f o + _ = _; rw [if_neg h]
theorem czF_mono {f : Nat → Int} {a b : Nat} (h : a ≤ b) : czF f a ≤ czF f b := by
  induction b with
  | zero => rw [show a = 0 by omega]; exact Nat.le_refl _
  | succ b ih =>
    by_cases c : a = b + 1
    · rw [c]; exact Nat.le_refl _
    · have h1 := ih (by omega)
      show _ ≤ czF f b + _
      omega
def NZ (W : Nat → Int32) : Nat → Nat
  | 0 => 0
  | s + 1 => NZ W s + czF (zC W s) 32
theorem NZ_mono {W : Nat → Int32} {a b : Nat} (h : a ≤ b) : NZ W a ≤ NZ W b := by
  induction b with
  | zero => rw [show a = 0 by omega]; exact Nat.le_refl _
  | succ b ih =>
    by_cases c : a = b + 1
    · rw [c]; exact Nat.le_refl _
    · have h1 := ih (by omega)
      show _ ≤ NZ W b + _
      omega
theorem NZ_lt {W : Nat → Int32} {s o s' o' : Nat} (h : s' < s ∧ o' < 32 ∨ s' = s ∧ o' < o) (hp : ¬ zC W s' o' ≤ 0) : NZ W s' + czF (zC W s') o' < NZ W s + czF (zC W s) o := by
  rcases h with ⟨h1, h2⟩ | ⟨rfl, h2⟩
  · have a1 : czF (zC W s') (o' + 1) ≤ czF (zC W s') 32 := czF_mono (by omega)
    rw [czF_1 hp] at a1
    have a2 : NZ W (s' + 1) ≤ NZ W s := NZ_mono (by omega)
    have a3 : NZ W (s' + 1) = NZ W s' + czF (zC W s') 32 := rfl
    omega
  · have a1 : czF (zC W s') (o' + 1) ≤ czF (zC W s') o := czF_mono (by omega)
    rw [czF_1 hp] at a1
    omega
def aWy (c : Nat) : Bool := Nat.ble 42 c && Nat.ble c 47
/-- how far the rows are told -/
def WyI (g : GS) (W : Nat → Int32) (s o : Nat) (q : GS × Int32) : Prop :=
  Fr f0 aWy g q.1 ∧ q.2 = nI (NZ W s + czF (zC W s) o) ∧
  (∀ s' o', s' < s ∧ o' < 32 ∨ s' = s ∧ o' < o → s' < 32 → ¬ zC W s' o' ≤ 0 → gA q.1 42 (NZ W s' + czF (zC W s') o') = nI o' ∧ gA q.1 43 (NZ W s' + czF (zC W s') o') = W (18 + 34 * s' + o')) ∧
  (∀ s', s' < s → gA q.1 45 s' = W (18 + 34 * s' + 32) ∧ gA q.1 46 s' = W (18 + 34 * s' + 33) ∧ gA q.1 47 s' = zI (zSt W s'))
theorem upd_here (f : Nat → Int32) (i : Nat) (v : Int32) : upd f i v i = v := if_pos rfl
theorem ChQ.fr {g g' : GS} {W : Nat → Int32} (h : ChQ g W) (hf : gA g' 21 = gA g 21) : ChQ g' W := by unfold ChQ; rw [hf]; exact h
theorem wyStep {g : GS} {W : Nat → Int32} (hc : ChQ g W) (h0 : CB W) (h144 : NZ W 32 ≤ 144) {s o : Nat} (hs : s < 32) (ho : o < 32) {q : GS × Int32} (h : WyI g W s o q) : WyI g W s (o + 1) (wrStep s o q) ∧ gA (wrStep s o q).1 44 = gA q.1 44 := by
  obtain ⟨hf, h2, h3, h4⟩ := h
  have e21 : gA q.1 21 = gA g 21 := hf.2.1 21 rfl
  have ech : bk_ch q.1 20 (nI s) (nI o) = W (18 + 34 * s + o) := bk_ch_z (hc.fr e21) hs (by omega)
  have hz : zI (zC W s o) = W (18 + 34 * s + o) := zW_I W _
  have hb := zC_100 h0 hs (show o < 34 by omega)
  unfold wrStep
  rw [ech]
  by_cases c : zC W s o ≤ 0
  · rw [if_pos (by rw [← hz]; exact (zI_le (by omega) (by omega) (by omega) (by omega)).mpr c)]
    refine ⟨⟨hf, by rw [czF_0 c]; exact h2, fun s' o' hso hs' hp => ?_, h4⟩, rfl⟩
    rcases hso with h1 | ⟨rfl, h1⟩
    · exact h3 s' o' (Or.inl h1) hs' hp
    · by_cases d : o' = o
      · subst d; exact absurd c hp
      · exact h3 s' o' (Or.inr ⟨rfl, by omega⟩) hs' hp
  · rw [if_neg (fun z => c ((zI_le (b := 0) (by omega) (by omega) (by omega) (by omega)).mp (by rw [hz]; exact z)))]
    have hlt : NZ W s + czF (zC W s) o < 144 := by
      have := NZ_lt (W := W) (s := 32) (o := 0) (s' := s) (o' := o) (Or.inl ⟨hs, ho⟩) c
      have e : czF (zC W 32) 0 = 0 := rfl
      omega
    rw [h2, rPut_in hlt (by omega), rPut_in hlt (by omega)]
    refine ⟨⟨(hf.sA rfl).sA rfl, by rw [czF_1 c, nI_s]; rfl, fun s' o' hso hs' hp => ?_, h4⟩, rfl⟩
    by_cases d : s' = s ∧ o' = o
    · obtain ⟨rfl, rfl⟩ := d
      exact ⟨upd_here _ _ _, upd_here _ _ _⟩
    · have hso' : s' < s ∧ o' < 32 ∨ s' = s ∧ o' < o := by
        rcases hso with h1 | ⟨h1, h2⟩
        · exact Or.inl h1
        · exact Or.inr ⟨h1, by omega⟩
      have hl := NZ_lt hso' hp
      have hn : ¬ NZ W s' + czF (zC W s') o' = NZ W s + czF (zC W s) o := by omega
      obtain ⟨u1, u2⟩ := h3 s' o' hso' hs' hp
      exact ⟨(upd_other hn).trans u1, (upd_other hn).trans u2⟩
theorem wyIn {g : GS} {W : Nat → Int32} (hc : ChQ g W) (h0 : CB W) (h144 : NZ W 32 ≤ 144) {s : Nat} (hs : s < 32) {q : GS × Int32} (h : WyI g W s 0 q) : ∀ n, n ≤ 32 → WyI g W s n (itN (wrStep s) n q) ∧ gA (itN (wrStep s) n q).1 44 = gA q.1 44
  | 0, _ => ⟨h, rfl⟩
  | n + 1, hn => by
    obtain ⟨i1, i2⟩ := wyIn hc h0 h144 hs h n (by omega)
    obtain ⟨j1, j2⟩ := wyStep hc h0 h144 hs (by omega) i1
    exact ⟨j1, j2.trans i2⟩
theorem wyRow {g : GS} {W : Nat → Int32} (hc : ChQ g W) (h0 : CB W) (h144 : NZ W 32 ≤ 144) {s : Nat} (hs : s < 32) {q : GS × Int32} (h : WyI g W s 0 q) (h44 : ∀ s', s' < s → gA q.1 44 s' = nI (NZ W s')) : WyI g W (s + 1) 0 (wrS s q) ∧ ∀ s', s' < s + 1 → gA (wrS s q).1 44 s' = nI (NZ W s') := by
  obtain ⟨hf, h2, h3, h4⟩ := h
  have hA : WyI g W s 0 (wrS0 s q) := ⟨hf.sA rfl, h2, h3, h4⟩
  obtain ⟨⟨kf, k2, k3, k4⟩, k5⟩ := wyIn hc h0 h144 hs hA 32 (Nat.le_refl _)
  have e44 : ∀ s', s' < s + 1 → gA (itN (wrStep s) 32 (wrS0 s q)).1 44 s' = nI (NZ W s') := by
    intro s' hs'
    rw [k5]
    show (rPut 33 (gA q.1 44) (nI s) q.2) s' = _
    rw [rPut_in (by omega) (by omega)]
    by_cases d : s' = s
    · subst d; rw [upd_here, h2]; rfl
    · rw [upd_other d]; exact h44 s' (by omega)
  show WyI g W (s + 1) 0 (wrS1 s (itN (wrStep s) 32 (wrS0 s q))) ∧ ∀ s', s' < s + 1 → gA (wrS1 s (itN (wrStep s) 32 (wrS0 s q))).1 44 s' = nI (NZ W s')
  generalize itN (wrStep s) 32 (wrS0 s q) = p at kf k2 k3 k4 e44
  have e21 : gA p.1 21 = gA g 21 := kf.2.1 21 rfl
  have c32 : bk_ch p.1 20 (nI s) 32 = W (18 + 34 * s + 32) := bk_ch_z (k := 32) (hc.fr e21) hs (by omega)
  have c33 : bk_ch (wrP1 p.1 s) 20 (nI s) 33 = W (18 + 34 * s + 33) := bk_ch_z (k := 33) (hc.fr (g' := wrP1 p.1 s) e21) hs (by omega)
  have cst : (100 : Int32) - bk_ct (wrP2 (wrP1 p.1 s) s) 20 (nI s) = zI (zSt W s) := by
    rw [bk_ct_z (hc.fr (g' := wrP2 (wrP1 p.1 s) s) e21) hs, show (100 : Int32) = zI 100 from rfl, ← zI_sub]; rfl
  refine ⟨⟨?_, ?_, ?_, ?_⟩, ?_⟩
  · exact ((kf.sA (c := 45) rfl).sA (c := 46) rfl).sA (c := 47) rfl
  · show p.2 = _
    rw [k2]; congr 1
  · intro s' o' hso hs' hp
    refine k3 s' o' ?_ hs' hp
    rcases hso with ⟨h1, h2⟩ | ⟨h1, h2⟩
    · by_cases d : s' = s
      · exact Or.inr ⟨d, h2⟩
      · exact Or.inl ⟨by omega, h2⟩
    · omega
  · intro s' hs'
    show (rPut 32 (gA p.1 45) (nI s) (bk_ch p.1 20 (nI s) 32)) s' = _ ∧ (rPut 32 (gA p.1 46) (nI s) (bk_ch (wrP1 p.1 s) 20 (nI s) 33)) s' = _ ∧ (rPut 32 (gA p.1 47) (nI s) (100 - bk_ct (wrP2 (wrP1 p.1 s) s) 20 (nI s))) s' = _
    rw [c32, c33, cst, rPut_in hs (by omega), rPut_in hs (by omega), rPut_in hs (by omega)]
    by_cases d : s' = s
    · subst d; exact ⟨upd_here _ _ _, upd_here _ _ _, upd_here _ _ _⟩
    · rw [upd_other d, upd_other d, upd_other d]; exact k4 s' (by omega)
  · intro s' hs'
    exact e44 s' hs'
/-- the rows as they are read -/
def WyP (g : GS) (W : Nat → Int32) : Prop := ∀ s, s < 32 → gA g 44 s = nI (NZ W s) ∧ gA g 44 (s + 1) = nI (NZ W (s + 1)) ∧ NZ W (s + 1) ≤ 144 ∧ (∀ o, o < 32 → ¬ zC W s o ≤ 0 → gA g 42 (NZ W s + czF (zC W s) o) = nI o ∧ gA g 43 (NZ W s + czF (zC W s) o) = W (18 + 34 * s + o)) ∧ gA g 45 s = W (18 + 34 * s + 32) ∧ gA g 46 s = W (18 + 34 * s + 33) ∧ gA g 47 s = zI (zSt W s)
theorem WyP.fr {g g' : GS} {W : Nat → Int32} (h : WyP g W) (h42 : gA g' 42 = gA g 42) (h43 : gA g' 43 = gA g 43) (h44 : gA g' 44 = gA g 44) (h45 : gA g' 45 = gA g 45) (h46 : gA g' 46 = gA g 46) (h47 : gA g' 47 = gA g 47) : WyP g' W := by
  unfold WyP; rw [h42, h43, h44, h45, h46, h47]; exact h
theorem wyAll {g : GS} {W : Nat → Int32} (hc : ChQ g W) (h0 : CB W) (h144 : NZ W 32 ≤ 144) : ∀ n, n ≤ 32 → WyI g W n 0 (itN wrS n (g, 0)) ∧ ∀ s', s' < n → gA (itN wrS n (g, 0)).1 44 s' = nI (NZ W s')
  | 0, _ => ⟨⟨Fr.rf, rfl, fun s' o' h => by omega, fun s' h => by omega⟩, fun s' h => by omega⟩
  | n + 1, hn => by
    obtain ⟨i1, i2⟩ := wyAll hc h0 h144 n (by omega)
    rw [itN_s]
    exact wyRow hc h0 h144 (by omega) i1 i2
theorem wrEnd_z {g : GS} {W : Nat → Int32} {N : Nat} (hN : N = 32) (h144 : NZ W N ≤ 144) {p : GS × Int32} (h : WyI g W N 0 p) (k5 : ∀ s', s' < N → gA p.1 44 s' = nI (NZ W s')) : WyP (wrEnd p) W ∧ Fr f0 aWy g (wrEnd p) := by
  obtain ⟨kf, k2, k3, k4⟩ := h
  have e44 : ∀ s', s' ≤ 32 → (rPut 33 (gA p.1 44) (nI 32) p.2) s' = nI (NZ W s') := by
    intro s' hs'
    rw [rPut_in (by omega) (by omega)]
    by_cases d : s' = 32
    · rw [d, upd_here, k2, hN]; exact congrArg nI (Nat.add_zero _)
    · rw [upd_other d]; exact k5 s' (by omega)
  refine ⟨fun s hs => ⟨e44 s (by omega), e44 (s + 1) (by omega), Nat.le_trans (NZ_mono (by omega)) h144, fun o ho hp => k3 s o (Or.inl ⟨by omega, ho⟩) hs hp, k4 s (by omega)⟩, kf.sA rfl⟩
theorem wrAll_e (g : GS) (n : Nat) (h : n = 32) : wrAll g = wrEnd (itN wrS n (g, 0)) := by rw [h]; rfl
theorem wrAll_z {g : GS} {W : Nat → Int32} (hc : ChQ g W) (h0 : CB W) (h144 : NZ W 32 ≤ 144) : WyP (wrAll g) W ∧ Fr f0 aWy g (wrAll g) := by
  obtain ⟨n, hn⟩ : ∃ n, n = 32 := ⟨32, rfl⟩
  obtain ⟨i1, i2⟩ := wyAll hc h0 h144 n (by omega)
  rw [wrAll_e g n hn]
  exact wrEnd_z hn (by rw [hn]; exact h144) i1 i2
/-- a second's mix, as the class reckons it -/
theorem wyN_z {g : GS} {W : Nat → Int32} (h : WyP g W) {s : Nat} (hs : s < 32) : wyN g (nI s) = czF (zC W s) 32 ∧ rAt 33 (gA g 44) (nI s) = nI (NZ W s) := by
  obtain ⟨h1, h2, h3, -⟩ := h s hs
  have e1 : NZ W (s + 1) = NZ W s + czF (zC W s) 32 := rfl
  have a1 : rAt 33 (gA g 44) (nI s) = nI (NZ W s) := by rw [rAt_in (by omega) (by omega), h1]
  have a2 : rAt 33 (gA g 44) (nI s + 1) = nI (NZ W (s + 1)) := by rw [show nI s + 1 = nI (s + 1) from nI_s s, rAt_in (by omega) (by omega), h2]
  refine ⟨?_, a1⟩
  unfold wyN
  rw [a1, a2, nI_toInt (by omega), nI_toInt (by omega)]; omega
theorem mxR_z {g : GS} {W : Nat → Int32} (h : WyP g W) (h0 : CB W) {s : Nat} (hs : s < 32) {n : Nat} {f : Nat → Int32} {base : Int32} {row : Nat → Int} (hr : ∀ o, o < 32 → rAt n f (base + nI o) = zI (row o)) : ∀ (d o : Nat) (a : Int), o + d = 32 → mxR g n f base (czF (zC W s) 32 - czF (zC W s) o) (nI (NZ W s + czF (zC W s) o)) (zI a) = zI (a + (zS (fun i => zC W s i * row i) 32 - zS (fun i => zC W s i * row i) o))
  | 0, o, a, ho => by
    have e : o = 32 := by omega
    subst e
    rw [Nat.sub_self]
    show zI a = _
    congr 1; omega
  | d + 1, o, a, ho => by
    have ih := mxR_z h h0 hs hr d (o + 1)
    obtain ⟨h1, h2, h3, h4, -⟩ := h s hs
    have e1 : NZ W (s + 1) = NZ W s + czF (zC W s) 32 := rfl
    have eS : zS (fun i => zC W s i * row i) (o + 1) = zS (fun i => zC W s i * row i) o + zC W s o * row o := rfl
    by_cases c : zC W s o ≤ 0
    · have hz : zC W s o = 0 := by have := (h0 s hs).1 o (by omega); omega
      have := ih a (by omega)
      rw [czF_0 c, eS, hz, Int.zero_mul] at this
      rw [this]; congr 1; omega
    · have hm : czF (zC W s) (o + 1) ≤ czF (zC W s) 32 := czF_mono (by omega)
      obtain ⟨u1, u2⟩ := h4 o (by omega) c
      have hk : czF (zC W s) 32 - czF (zC W s) o = (czF (zC W s) 32 - czF (zC W s) (o + 1)) + 1 := by rw [czF_1 c] at hm ⊢; omega
      rw [hk]
      show mxR g n f base (czF (zC W s) 32 - czF (zC W s) (o + 1)) (nI (NZ W s + czF (zC W s) o) + Int32.ofInt 1) (zI a + rAt 144 (gA g 43) (nI (NZ W s + czF (zC W s) o)) * rAt n f (base + rAt 144 (gA g 42) (nI (NZ W s + czF (zC W s) o)))) = _
      have hlt : NZ W s + czF (zC W s) o < 144 := by rw [czF_1 c] at hm; omega
      rw [rAt_in hlt (by omega), rAt_in hlt (by omega), u1, u2, hr o (by omega), nI_s, ← zW_I W (18 + 34 * s + o), ← zI_mul, ← zI_add]
      have := ih (a + zC W s o * row o) (by omega)
      rw [czF_1 c, eS] at this
      rw [czF_1 c]
      refine Eq.trans this ?_
      congr 1; omega
theorem mixI_z {g : GS} {W : Nat → Int32} (h : WyP g W) (h0 : CB W) {s : Nat} (hs : s < 32) {n : Nat} {f : Nat → Int32} {base : Int32} {row : Nat → Int} {a b : Int} (hr : ∀ o, o < 32 → rAt n f (base + nI o) = zI (row o)) : mixI g n f (nI s) base (zI a) (zI b) = fdI (zI (zNum W s a b row)) 100 := by
  obtain ⟨w1, w2⟩ := wyN_z h hs
  obtain ⟨-, -, -, -, h45, h46, h47⟩ := h s hs
  unfold mixI
  rw [w1, w2, rAt_in hs (by omega), rAt_in hs (by omega), rAt_in hs (by omega), h45, h46, h47, hr s hs, ← zW_I W (18 + 34 * s + 32), ← zW_I W (18 + 34 * s + 33), ← zI_mul, ← zI_mul, ← zI_mul, ← zI_add, ← zI_add]
  have := mxR_z h h0 hs hr 32 0 (zW W (18 + 34 * s + 32) * a + zW W (18 + 34 * s + 33) * b + zSt W s * row s) (by omega)
  rw [show czF (zC W s) 0 = 0 from rfl, Nat.sub_zero, Nat.add_zero] at this
  rw [this]
  congr 2
  unfold zNum
  rw [show zS (fun i => zC W s i * row i) 0 = 0 from rfl]
  show zC W s 32 * a + zC W s 33 * b + zSt W s * row s + _ = _
  omega
theorem mixI_b {g : GS} {W : Nat → Int32} (h : WyP g W) (h0 : CB W) {s : Nat} (hs : s < 32) {n : Nat} {f : Nat → Int32} {base : Int32} {row : Nat → Int} {a b lo hi : Int} (hlo : -10000000 ≤ lo) (hhi : hi ≤ 10000000) (ha : lo ≤ a ∧ a ≤ hi) (hb : lo ≤ b ∧ b ≤ hi) (hrb : ∀ o, o < 32 → lo ≤ row o ∧ row o ≤ hi) (hr : ∀ o, o < 32 → rAt n f (base + nI o) = zI (row o)) : mixI g n f (nI s) base (zI a) (zI b) = zI (zMx W s a b row) := by
  have hn := zNum_bd h0 hs ha hb hrb
  rw [mixI_z h h0 hs hr]
  exact fdI_z (by omega) (by omega)
/-! what follows by a draw -/
def zD (c : Nat → Int) (s : Nat) : Nat → Nat → Int → Nat
  | 0, _, _ => s
  | k + 1, i, l => if 0 ≤ l - c i then zD c s k (i + 1) (l - c i) else i
theorem dwF_z {W : Nat → Int32} (h0 : CB W) {s : Nat} (hs : s < 32) : ∀ (k i : Nat) (l : Int), i + k = 34 → 0 ≤ l → l ≤ 1000000 → dwF (fun q => W (18 + 34 * s + q)) s k i (zI l) = zD (zC W s) s k i l
  | 0, _, _, _, _, _ => rfl
  | k + 1, i, l, hik, h1, h2 => by
    have hc := (h0 s hs).1 i (by omega)
    have hc2 := (zC_100 h0 hs (show i < 34 by omega)).2
    unfold dwF zD
    have e : zI l - W (18 + 34 * s + i) = zI (l - zC W s i) := by rw [zI_sub]; congr 1; exact (zW_I W _).symm
    rw [e, show (0 : Int32) = zI 0 from rfl]
    by_cases c : 0 ≤ l - zC W s i
    · rw [if_pos ((zI_le (a := 0) (by omega) (by omega) (by omega) (by omega)).mpr c), if_pos c]
      exact dwF_z h0 hs k (i + 1) _ (by omega) c (by omega)
    · rw [if_neg (fun z => c ((zI_le (a := 0) (by omega) (by omega) (by omega) (by omega)).mp z)), if_neg c]
theorem drT_z {g : GS} {W : Nat → Int32} (h : WyP g W) (h0 : CB W) {s : Nat} (hs : s < 32) {dr l : Int} (h1 : 0 ≤ l) (h2 : l ≤ dr) (h3 : dr ≤ 1000000) : drT g (nI s) (zI dr) (zI (dr - l)) = nI (zD (zC W s) s 2 32 l) := by
  obtain ⟨-, -, -, -, h45, h46, -⟩ := h s hs
  have b := (h0 s hs).2
  rw [zS_34] at b
  have b0 := zS_nn (f := zC W s) 32 (fun i hi => (h0 s hs).1 i (by omega))
  have b32 := (h0 s hs).1 32 (by omega)
  have b33 := (h0 s hs).1 33 (by omega)
  unfold drT
  rw [rAt_in hs (by omega), rAt_in hs (by omega), h45, h46, ← zW_I W (18 + 34 * s + 32), ← zW_I W (18 + 34 * s + 33), ← zI_add, ← zI_add]
  show (if zI (dr - l + zC W s 32) ≤ zI dr then (if zI (dr - l + zC W s 32 + zC W s 33) ≤ zI dr then nI s else 33) else 32) = _
  unfold zD
  by_cases c : 0 ≤ l - zC W s 32
  · rw [if_pos ((zI_le (by omega) (by omega) (by omega) (by omega)).mpr (by omega)), if_pos c]
    unfold zD
    by_cases d : 0 ≤ l - zC W s 32 - zC W s 33
    · rw [if_pos ((zI_le (by omega) (by omega) (by omega) (by omega)).mpr (by omega)), if_pos d]; rfl
    · rw [if_neg (fun z => d (by have := (zI_le (by omega) (by omega) (by omega) (by omega)).mp z; omega)), if_neg d]; rfl
  · rw [if_neg (fun z => c (by have := (zI_le (by omega) (by omega) (by omega) (by omega)).mp z; omega)), if_neg c]; rfl
theorem drR_z {g : GS} {W : Nat → Int32} (h : WyP g W) (h0 : CB W) {s : Nat} (hs : s < 32) {dr : Int} (h3 : dr ≤ 1000000) : ∀ (d o : Nat) (l : Int), o + d = 32 → 0 ≤ l → l ≤ dr → drR g (nI s) (zI dr) (czF (zC W s) 32 - czF (zC W s) o) (nI (NZ W s + czF (zC W s) o)) (zI (dr - l)) = nI (zD (zC W s) s (d + 2) o l)
  | 0, o, l, ho, h1, h2 => by
    have e : o = 32 := by omega
    subst e
    rw [Nat.sub_self]
    exact drT_z h h0 hs h1 h2 h3
  | d + 1, o, l, ho, h1, h2 => by
    have ih := drR_z h h0 hs h3 d (o + 1)
    obtain ⟨i1, i2, i3, i4, -⟩ := h s hs
    have e1 : NZ W (s + 1) = NZ W s + czF (zC W s) 32 := rfl
    have eD : zD (zC W s) s (d + 1 + 2) o l = if 0 ≤ l - zC W s o then zD (zC W s) s (d + 2) (o + 1) (l - zC W s o) else o := rfl
    have hp := (h0 s hs).1 o (by omega)
    by_cases c : zC W s o ≤ 0
    · have hz : zC W s o = 0 := by omega
      have := ih l (by omega) h1 h2
      rw [czF_0 c] at this
      rw [this, eD, hz, if_pos (by omega)]; congr 2; omega
    · have hm : czF (zC W s) (o + 1) ≤ czF (zC W s) 32 := czF_mono (by omega)
      obtain ⟨u1, u2⟩ := i4 o (by omega) c
      have hk : czF (zC W s) 32 - czF (zC W s) o = (czF (zC W s) 32 - czF (zC W s) (o + 1)) + 1 := by rw [czF_1 c] at hm ⊢; omega
      have hlt : NZ W s + czF (zC W s) o < 144 := by rw [czF_1 c] at hm; omega
      have hc2 := (zC_100 h0 hs (show o < 34 by omega)).2
      rw [hk]
      show (if zI (dr - l) + rAt 144 (gA g 43) (nI (NZ W s + czF (zC W s) o)) ≤ zI dr then drR g (nI s) (zI dr) (czF (zC W s) 32 - czF (zC W s) (o + 1)) (nI (NZ W s + czF (zC W s) o) + Int32.ofInt 1) (zI (dr - l) + rAt 144 (gA g 43) (nI (NZ W s + czF (zC W s) o))) else rAt 144 (gA g 42) (nI (NZ W s + czF (zC W s) o))) = _
      rw [rAt_in hlt (by omega), rAt_in hlt (by omega), u1, u2, nI_s, ← zW_I W (18 + 34 * s + o), ← zI_add, eD, show zW W (18 + 34 * s + o) = zC W s o from rfl]
      by_cases e : 0 ≤ l - zC W s o
      · rw [if_pos ((zI_le (by omega) (by omega) (by omega) (by omega)).mpr (by omega)), if_pos e]
        have := ih (l - zC W s o) (by omega) e (by omega)
        rw [czF_1 c] at this
        rw [czF_1 c, show dr - l + zC W s o = dr - (l - zC W s o) by omega]
        exact this
      · rw [if_neg (fun z => e (by have := (zI_le (by omega) (by omega) (by omega) (by omega)).mp z; omega)), if_neg e]
theorem drawn_z {g : GS} {W : Nat → Int32} (h : WyP g W) (h0 : CB W) {s : Nat} (hs : s < 32) {dr : Int} (h1 : 0 ≤ dr) (h3 : dr ≤ 1000000) : drawnI g (nI s) (zI dr) = nI (wDw W s (zI dr)) := by
  obtain ⟨w1, w2⟩ := wyN_z h hs
  unfold drawnI wDw
  rw [w1, w2, dwF_z h0 hs 34 0 dr (by omega) h1 h3]
  have := drR_z h h0 hs h3 32 0 dr (by omega) h1 (Int.le_refl _)
  rw [show czF (zC W s) 0 = 0 from rfl, Nat.sub_zero, Nat.add_zero, show dr - dr = 0 by omega] at this
  exact this
