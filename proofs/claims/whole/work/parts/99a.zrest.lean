
/-! judges and fouls at rest -/
def zg (W : Nat → Int32) (gl : List TxL) (rl : Nat → List TxL) (k0 : Nat) (b : Int32) (k s : Nat) : Int := (rsG W gl rl (W 6) k0 (wTo W k0) b k s).toInt
theorem rsG_z {W : Nat → Int32} (hW : WB W) {gl : List TxL} {rl : Nat → List TxL} {k0 : Nat} (hk0 : k0 < mN W) (b : Int32) (k : Nat) {s : Nat} (hs : s < 32) : zg W gl rl k0 b k s = (mLT W (mGc W (W 6) gl) (mT W) s).toInt - (jw (mJP W gl rl (W 6) k0 (s / 4) (wTo W k0) (nI k) b (mG W)) 0 s).toInt ∧ -200000 ≤ zg W gl rl k0 b k s ∧ zg W gl rl k0 b k s ≤ 200000 := by
  have b1 := (mLT_zz hW (W 6) gl (mT W) s hs).2
  have b2 := jw_b (mJP_b hW hk0 (show s / 4 < 8 by omega) (hW.to hk0) hW.G gl rl (W 6) (nI k) b) 0 s hs
  have e : zg W gl rl k0 b k s = (mLT W (mGc W (W 6) gl) (mT W) s).toInt - (jw (mJP W gl rl (W 6) k0 (s / 4) (wTo W k0) (nI k) b (mG W)) 0 s).toInt := by
    unfold zg rsG
    rw [← zL_of (mLT W (mGc W (W 6) gl) (mT W) s), ← zL_of (jw (mJP W gl rl (W 6) k0 (s / 4) (wTo W k0) (nI k) b (mG W)) 0 s), ← zL_sub, zL_T (by omega) (by omega), zL_of, zL_of]
  exact ⟨e, by omega, by omega⟩
/-- the greatest of the first n + 1 -/
def zMa (f : Nat → Int) : Nat → Int
  | 0 => f 0
  | n + 1 => max (zMa f n) (f (n + 1))
def zMi (f : Nat → Nat → Int) : Nat → Nat → Int
  | 0, s => f 0 s
  | k + 1, s => min (zMi f k s) (f (k + 1) s)
theorem zMa_b {f : Nat → Int} {lo hi : Int} : ∀ n, (∀ i, i ≤ n → lo ≤ f i ∧ f i ≤ hi) → lo ≤ zMa f n ∧ zMa f n ≤ hi
  | 0, h => h 0 (Nat.le_refl _)
  | n + 1, h => by
    have a := zMa_b n (fun i hi => h i (by omega))
    have c := h (n + 1) (Nat.le_refl _)
    unfold zMa; omega
theorem zMi_b {f : Nat → Nat → Int} {lo hi : Int} {s : Nat} : ∀ n, (∀ i, i ≤ n → lo ≤ f i s ∧ f i s ≤ hi) → lo ≤ zMi f n s ∧ zMi f n s ≤ hi
  | 0, h => h 0 (Nat.le_refl _)
  | n + 1, h => by
    have a := zMi_b n (fun i hi => h i (by omega))
    have c := h (n + 1) (Nat.le_refl _)
    unfold zMi; omega
theorem mxL_T (a b : Int64) : (mxL a b).toInt = max a.toInt b.toInt := by
  unfold mxL
  by_cases c : a.toInt < b.toInt
  · rw [if_pos (cmp_lt.mpr c)]; omega
  · rw [if_neg (fun z => c (cmp_lt.mp z))]; omega
theorem mnL_T (a b : Int64) : (mnL a b).toInt = min a.toInt b.toInt := by
  unfold mnL
  by_cases c : b.toInt < a.toInt
  · rw [if_pos (cmp_gt.mpr c)]; omega
  · rw [if_neg (fun z => c (cmp_gt.mp z))]; omega
theorem rsW_z {f : Nat → Int64} : ∀ n, (rsW f (n + 1)).toInt = zMa (fun i => (f i).toInt) n
  | 0 => by
    show (mxL (-9223372036854775808) (f 0)).toInt = _
    rw [mxL_T]
    have h1 : (-9223372036854775808 : Int64).toInt = -9223372036854775808 := rfl
    have := (f 0).le_toInt
    show max _ _ = (f 0).toInt
    rw [h1]; omega
  | n + 1 => by
    show (mxL (rsW f (n + 1)) (f (n + 1))).toInt = max _ _
    rw [mxL_T, rsW_z n]
theorem rsN_z {f : Nat → Nat → Int64} : ∀ k s, (rsN f k s).toInt = zMi (fun i s => (f i s).toInt) k s
  | 0, s => rfl
  | k + 1, s => by
    show (mnL (rsN f k s) (f (k + 1) s)).toInt = min _ _
    rw [mnL_T, rsN_z k s]
/-- the first of the least; the first of the greatest -/
def zAl (S : Nat → Int) : Nat → Nat × Int
  | 0 => (0, S 0)
  | n + 1 => if S (n + 1) < (zAl S n).2 then (n + 1, S (n + 1)) else zAl S n
theorem rsS_z {f : Nat → Int64} {S : Nat → Int} {N : Nat} (hN : N ≤ 100) (hf : ∀ n, n < N → (f n).toInt = S n) : ∀ n, n < N → (rsS f (n + 1)).1 = nI (zAl S n).1 ∧ (rsS f (n + 1)).2.toInt = (zAl S n).2 ∧ (zAl S n).1 ≤ n
  | 0, h => by
    have e : rsS f 1 = (nI 0, f 0) := by
      rw [rsS.eq_2, if_pos (show (rsS f 0).1 < 0 from (by decide : (-1 : Int32) < 0))]
    rw [e]
    exact ⟨rfl, hf 0 h, Nat.le_refl _⟩
  | n + 1, h => by
    obtain ⟨i1, i2, i3⟩ := rsS_z hN hf n (by omega)
    have n0 : ¬ (rsS f (n + 1)).1 < 0 := fun z => by
      rw [i1] at z
      have := Int32.lt_iff_toInt_lt.mp z
      rw [nI_toInt (by omega), Int32.toInt_zero] at this; omega
    have e : zAl S (n + 1) = if S (n + 1) < (zAl S n).2 then (n + 1, S (n + 1)) else zAl S n := rfl
    rw [rsS.eq_2, if_neg n0, e]
    by_cases c : S (n + 1) < (zAl S n).2
    · rw [if_pos c, if_pos (cmp_lt.mpr (by rw [i2, hf _ h]; exact c))]
      exact ⟨rfl, hf _ h, Nat.le_refl _⟩
    · rw [if_neg c, if_neg (fun z => c (by have := cmp_lt.mp z; rwa [i2, hf _ h] at this))]
      exact ⟨i1, i2, by omega⟩
theorem rsH_z {f : Nat → Int64} {S : Nat → Int} {N : Nat} (hf : ∀ n, n ≤ N → (f n).toInt = S n) : ∀ n, n ≤ N → rsH f n = (zAm S n).1
  | 0, _ => rfl
  | n + 1, h => by
    have ih := rsH_z hf n (by omega)
    have l := zAm_le S n
    have e : zAm S (n + 1) = if S (n + 1) ≤ (zAm S n).2 then zAm S n else (n + 1, S (n + 1)) := rfl
    unfold rsH
    rw [ih, e]
    have c1 := hf (n + 1) h
    have c2 := hf (zAm S n).1 (by omega)
    rw [← l.2] at c2
    by_cases c : S (n + 1) ≤ (zAm S n).2
    · rw [if_pos c, if_pos (cmp_le.mpr (by rw [c1, c2]; exact c))]
    · rw [if_neg c, if_neg (fun z => c (by have := cmp_le.mp z; rwa [c1, c2] at this))]
/-! the class weighs -/
theorem mnI_z {a b : Int} (a1 : -2147483648 ≤ a) (a2 : a ≤ 2147483647) (b1 : -2147483648 ≤ b) (b2 : b ≤ 2147483647) : mnI (zI a) (zI b) = zI (min a b) := by
  unfold mnI
  by_cases c : b < a
  · rw [if_pos ((zI_lt b1 b2 a1 a2).mpr c)]; congr 1; omega
  · rw [if_neg (fun z => c ((zI_lt b1 b2 a1 a2).mp z))]; congr 1; omega
theorem mxI_z {a b : Int} (a1 : -2147483648 ≤ a) (a2 : a ≤ 2147483647) (b1 : -2147483648 ≤ b) (b2 : b ≤ 2147483647) : mxI (zI a) (zI b) = zI (max a b) := by
  unfold mxI
  by_cases c : a < b
  · rw [if_pos ((zI_lt a1 a2 b1 b2).mpr c)]; congr 1; omega
  · rw [if_neg (fun z => c ((zI_lt a1 a2 b1 b2).mp z))]; congr 1; omega
theorem BO.f6 {g g' : GS} {W : Nat → Int32} {gl : List TxL} {rl : Nat → List TxL} {m : Int32} {T G : Nat} {jd b : Int32} {q : Option CD} (h : BO g W gl rl m T G jd b q) {f : Nat → Nat → Bool} {a : Nat → Bool} (hf : Fr f a g g') (hF : ∀ k, f 40 k = false) (hA : ∀ c, c = 42 ∨ c = 43 ∨ c = 44 ∨ c = 45 ∨ c = 46 ∨ c = 47 ∨ c = 50 ∨ c = 48 ∨ c = 59 → a c = false) (hk : KF g g') : BO g' W gl rl m T G jd b q := by
  refine ⟨h.1.fr (fun c hc => hf.2.1 c (hA c (by omega))) (hf.1 40 13 (hF 13)) (fun i _ => by rw [hf.2.1 48 (hA 48 (by omega))]), h.2.1.kf hk, (hf.1 40 12 (hF 12)).trans h.2.2.1, h.2.2.2.1.fr (hf.1 40 8 (hF 8)) (hf.1 40 9 (hF 9)) (hf.1 40 10 (hF 10)) (hf.1 40 11 (hF 11)), ?_⟩
  intro s hs
  rw [hf.2.1 50 (hA 50 (by omega)), hf.2.1 59 (hA 59 (by omega))]; exact h.2.2.2.2 s hs
theorem ly_62 (g : GS) (so z card : Int32) (q : Option CD) (G : Nat) : gA (lyAll g so z card q G) 62 = gA g 62 ∧ ∀ k, gF (lyAll g so z card q G) 61 k = gF g 61 k := by
  have e : ∀ j (x : GS), gA (lyD q j x) 62 = gA x 62 ∧ ∀ k, gF (lyD q j x) 61 k = gF x 61 k := by
    intro j
    induction j with
    | zero =>
      intro x
      exact itN_inv (f := lyF q 0) (fun y => gA y 62 = gA x 62 ∧ ∀ k, gF y 61 k = gF x 61 k) (fun n y hy => ⟨((dc_fr y _ _ q).2.1 62 rfl).trans hy.1, fun k => ((dc_fr y _ _ q).1 61 k rfl).trans (hy.2 k)⟩) 32 ⟨rfl, fun _ => rfl⟩
    | succ j ih =>
      intro x
      have i := itN_inv (f := lyF q (j + 1)) (fun y => gA y 62 = gA x 62 ∧ ∀ k, gF y 61 k = gF x 61 k) (fun n y hy => ⟨((dc_fr y _ _ q).2.1 62 rfl).trans hy.1, fun k => ((dc_fr y _ _ q).1 61 k rfl).trans (hy.2 k)⟩) 32 ⟨rfl, fun _ => rfl⟩
      have u := ih (itN (lyF q (j + 1)) 32 x)
      exact ⟨u.1.trans i.1, fun k => (u.2 k).trans (i.2 k)⟩
  exact e G _
def a62 (c : Nat) : Bool := Nat.beq c 62
/-- the row of least gains: behind n states of judge k -/
def WsI (g : GS) (W : Nat → Int32) (gl : List TxL) (rl : Nat → List TxL) (k0 : Nat) (b : Int32) (k n : Nat) : Prop := (∀ s, s < n → s < 32 → gA g 62 s = zI (zMi (zg W gl rl k0 b) k s)) ∧ ∀ s, n ≤ s → s < 32 → ∀ j, k = j + 1 → gA g 62 s = zI (zMi (zg W gl rl k0 b) j s)
theorem wos_z {g : GS} {W : Nat → Int32} {gl : List TxL} {rl : Nat → List TxL} {k : Nat} {b : Int32} {q : Option CD} (h : BO g W gl rl (W 6) (mT W) (mG W) (nI k) b q) (hW : WB W) (hk9 : k < 9) {k0 : Nat} (hk0 : k0 < mN W) {fst : Int32} (hf : fst = 0 ↔ ¬ k = 0) (hI : WsI g W gl rl k0 b k 0) :
    (wosR q (mG W) (nI k0) fst g).1 = zI (zMa (zg W gl rl k0 b k) 31) ∧ BO (wosR q (mG W) (nI k0) fst g).2 W gl rl (W 6) (mT W) (mG W) (nI k) b q ∧ WsI (wosR q (mG W) (nI k0) fst g).2 W gl rl k0 b k 32 ∧ ∀ x, gF (wosR q (mG W) (nI k0) fst g).2 61 x = gF g 61 x := by
  have hgb : ∀ i s, s < 32 → -200000 ≤ zg W gl rl k0 b i s ∧ zg W gl rl k0 b i s ≤ 200000 := fun i s hs => (rsG_z hW hk0 b i hs).2
  have key : ∀ n, n ≤ 32 → BO (itN (wosS q (mG W) (nI k0) fst) n (0, g)).2 W gl rl (W 6) (mT W) (mG W) (nI k) b q ∧ (¬ n % 4 = 0 → LyS (itN (wosS q (mG W) (nI k0) fst) n (0, g)).2 (mJP W gl rl (W 6) k0 (n / 4) (wTo W k0) (nI k) b (mG W))) ∧ (∀ i, n = i + 1 → (itN (wosS q (mG W) (nI k0) fst) n (0, g)).1 = zI (zMa (zg W gl rl k0 b k) i)) ∧ WsI (itN (wosS q (mG W) (nI k0) fst) n (0, g)).2 W gl rl k0 b k n ∧ ∀ x, gF (itN (wosS q (mG W) (nI k0) fst) n (0, g)).2 61 x = gF g 61 x := by
    intro n
    induction n with
    | zero => intro _; exact ⟨h, fun x => absurd rfl x, fun i hi => by omega, hI, fun _ => rfl⟩
    | succ n ih =>
      intro hn
      obtain ⟨i1, i2, i3, i4, i5⟩ := ih (by omega)
      rw [itN_p]
      generalize itN (wosS q (mG W) (nI k0) fst) n (0, g) = p at i1 i2 i3 i4 i5
      have e4 : nI n - nI n / 4 * 4 = nI (n % 4) := nIr (by omega) (by omega) rfl (nIc 4)
      have ed : nI n / 4 = nI (n / 4) := nId (by omega) (by omega) rfl (nIc 4)
      have hG : BO (wosY q (mG W) (nI k0) n p.2) W gl rl (W 6) (mT W) (mG W) (nI k) b q ∧ LyS (wosY q (mG W) (nI k0) n p.2) (mJP W gl rl (W 6) k0 (n / 4) (wTo W k0) (nI k) b (mG W)) ∧ gA (wosY q (mG W) (nI k0) n p.2) 62 = gA p.2 62 ∧ ∀ x, gF (wosY q (mG W) (nI k0) n p.2) 61 x = gF p.2 61 x := by
        unfold wosY
        rw [e4, ed]
        by_cases c : n % 4 = 0
        · rw [if_neg (fun x => x (by rw [c]; rfl))]
          obtain ⟨j1, j2⟩ := i1.lay hW (Nat.le_refl _) hW.G hk0 (z := n / 4) (by omega) (hW.to hk0) (bk_cn_z i1.2.1 hW hk0)
          exact ⟨j1, j2, (ly_62 _ _ _ _ _ _).1, (ly_62 _ _ _ _ _ _).2⟩
        · rw [if_pos (fun x => c (by have := nI_inj (b := 0) (by omega) (by omega) x; omega))]
          exact ⟨i1, i2 c, rfl, fun _ => rfl⟩
      obtain ⟨g1, g2, g3, g4⟩ := hG
      have hb := mJP_b hW hk0 (show n / 4 < 8 by omega) (hW.to hk0) hW.G gl rl (W 6) (nI k) b
      have hgn : gnI (wosY q (mG W) (nI k0) n p.2) (nI n) = zI (zg W gl rl k0 b k n) := by
        rw [(g1.gain hW (Nat.le_refl _) hW.T hb g2 (show n < 32 by omega)).1, (rsG_z hW hk0 b k (show n < 32 by omega)).1]
      have bn := hgb k n (by omega)
      have hS : wosS q (mG W) (nI k0) fst n p = (wosB (wosY q (mG W) (nI k0) n p.2) p.1 n, wosE (wosY q (mG W) (nI k0) n p.2) fst n) := rfl
      rw [hS]
      generalize wosY q (mG W) (nI k0) n p.2 = y at g1 g2 g3 g4 hgn
      have hv : (if fst = 0 then mnI (rAt 32 (gA y 62) (nI n)) (gnI y (nI n)) else gnI y (nI n)) = zI (zMi (zg W gl rl k0 b) k n) := by
        rw [hgn, g3]
        by_cases c : k = 0
        · subst c
          rw [if_neg (fun z => (hf.mp z) rfl)]; rfl
        · obtain ⟨j, rfl⟩ : ∃ j, k = j + 1 := ⟨k - 1, by omega⟩
          have bj := zMi_b (f := zg W gl rl k0 b) (lo := -200000) (hi := 200000) (s := n) j (fun i _ => hgb i n (by omega))
          rw [if_pos (hf.mpr c), rAt_in (by omega) (by omega), i4.2 n (Nat.le_refl _) (by omega) j rfl, mnI_z (by omega) (by omega) (by omega) (by omega)]; rfl
      have hE : wosE y fst n = sA y 62 (upd (gA y 62) n (zI (zMi (zg W gl rl k0 b) k n))) := by
        unfold wosE
        rw [hv, rPut_in (by omega) (by omega)]
      rw [hE]
      refine ⟨g1.f6 (f := f0) (a := a62) (Fr.rf.sA rfl) (fun _ => rfl) (fun c hc => ?_) (Fr.rf.sA rfl), fun c => ?_, fun i hi => ?_, ⟨fun s hs hs2 => ?_, fun s hs hs2 j hj => ?_⟩, fun x => (g4 x).trans (i5 x)⟩
      · rcases hc with rfl | rfl | rfl | rfl | rfl | rfl | rfl | rfl | rfl <;> rfl
      · rw [show (n + 1) / 4 = n / 4 by omega]; exact g2
      · have en : i = n := by omega
        subst en
        show wosB y p.1 i = _
        cases i with
        | zero => rw [wosB_0 rfl, hgn]; rfl
        | succ i =>
          have bi := zMa_b (f := zg W gl rl k0 b k) (lo := -200000) (hi := 200000) i (fun x hx => hgb k x (by omega))
          rw [wosB_1 (nI_nq (b := 0) (by omega) (by omega) (by omega)), hgn, i3 i rfl, mxI_z (by omega) (by omega) (by omega) (by omega)]; rfl
      · show (upd (gA y 62) n _) s = _
        by_cases d : s = n
        · subst d; exact upd_here _ _ _
        · rw [upd_other d, g3]; exact i4.1 s (by omega) hs2
      · show (upd (gA y 62) n _) s = _
        rw [upd_other (show ¬ s = n by omega), g3]; exact i4.2 s (by omega) hs2 j hj
  obtain ⟨k1, -, k3, k4, k5⟩ := key 32 (Nat.le_refl _)
  exact ⟨k3 31 rfl, k1, k4, k5⟩
/-! judge behind judge -/
def zWo (W : Nat → Int32) (gl : List TxL) (rl : Nat → List TxL) (k0 : Nat) (b : Int32) (k : Nat) : Int := zMa (zg W gl rl k0 b k) 31
theorem zWo_b {W : Nat → Int32} (hW : WB W) {gl : List TxL} {rl : Nat → List TxL} {k0 : Nat} (hk0 : k0 < mN W) (b : Int32) (k : Nat) : -200000 ≤ zWo W gl rl k0 b k ∧ zWo W gl rl k0 b k ≤ 200000 := zMa_b 31 (fun i hi => (rsG_z hW hk0 b k (show i < 32 by omega)).2)
theorem zAl_in {S : Nat → Int} {lo hi : Int} (h : ∀ n, lo ≤ S n ∧ S n ≤ hi) : ∀ n, lo ≤ (zAl S n).2 ∧ (zAl S n).2 ≤ hi
  | 0 => h 0
  | n + 1 => by
    unfold zAl
    split
    · exact h (n + 1)
    · exact zAl_in h n
theorem zAm_in {S : Nat → Int} {lo hi : Int} {N : Nat} (h : ∀ n, n ≤ N → lo ≤ S n ∧ S n ≤ hi) : ∀ n, n ≤ N → lo ≤ (zAm S n).2 ∧ (zAm S n).2 ≤ hi := fun n hn => by
  have l := zAm_le S n
  rw [l.2]; exact h _ (by omega)
def WgI (g : GS) (W : Nat → Int32) (gl : List TxL) (rl : Nat → List TxL) (k0 : Nat) (b : Int32) (n : Nat) : Prop := OB g W gl (W 6) (mT W) (mG W) ∧ ∀ i, n = i + 1 → gF g 61 3 = nI (zAl (zWo W gl rl k0 b) i).1 ∧ gF g 61 4 = zI (zAl (zWo W gl rl k0 b) i).2 ∧ ∀ s, s < 32 → gA g 62 s = zI (zMi (zg W gl rl k0 b) i s)
theorem OB.f6 {g g' : GS} {W : Nat → Int32} {gl : List TxL} {m : Int32} {T G : Nat} (h : OB g W gl m T G) {f : Nat → Nat → Bool} {a : Nat → Bool} (hf : Fr f a g g') (hF : ∀ k, f 40 k = false) (hA : ∀ c, c = 42 ∨ c = 43 ∨ c = 44 ∨ c = 45 ∨ c = 46 ∨ c = 47 ∨ c = 50 ∨ c = 48 ∨ c = 59 → a c = false) (hk : KF g g') : OB g' W gl m T G := by
  refine ⟨h.1.fr (fun c hc => hf.2.1 c (hA c (by omega))) (hf.1 40 13 (hF 13)) (fun i _ => by rw [hf.2.1 48 (hA 48 (by omega))]), h.2.1.kf hk, (hf.1 40 12 (hF 12)).trans h.2.2.1, ?_⟩
  intro s hs
  rw [hf.2.1 50 (hA 50 (by omega)), hf.2.1 59 (hA 59 (by omega))]; exact h.2.2.2 s hs
def f61 (c _ : Nat) : Bool := Nat.beq c 61
theorem wgJ_z {W : Nat → Int32} {gl : List TxL} {rl : Nat → List TxL} {cds : Nat → CD} (hW : WB W) (hcd : ∀ r, r < mR W → RulQ (cds r) (rl r)) {k0 : Nat} (hk0 : k0 < mN W) (b : Int32) {j : Nat} (hj : j < 5 + mR W) {g : GS} (h : WgI g W gl rl k0 b j) : WgI (wgJ cds (mG W) b (nI k0) j g) W gl rl k0 b (j + 1) := by
  obtain ⟨h1, h2⟩ := h
  have hR4 := hW.2.2.2.2.2.2.2.2.2.2.2.1.1
  have hJd : JdQ (jq cds j) rl (nI j) := by
    unfold jq
    by_cases c : j < 5
    · rw [if_pos c]; exact Or.inl ⟨rfl, j, c, rfl⟩
    · rw [if_neg c]; exact Or.inr ⟨cds (j - 5), j - 5, rfl, by omega, by congr 1; omega, hcd (j - 5) (by omega)⟩
  have hs := h1.seat hJd b
  have hI : WsI (sF (sF g 40 8 (nI j)) 40 9 b) W gl rl k0 b j 0 := ⟨fun s hs => by omega, fun s _ hs2 i hi => (h2 i hi).2.2 s hs2⟩
  have hfs : (if ¬ nI j = 0 then (0 : Int32) else 1) = 0 ↔ ¬ j = 0 := by
    by_cases c : j = 0
    · subst c
      rw [if_neg (fun z => z rfl)]
      exact ⟨fun z => absurd z (by decide), fun z => absurd rfl z⟩
    · rw [if_pos (show ¬ nI j = 0 from nI_nq (b := 0) (by omega) (by omega) c)]
      exact ⟨fun _ => c, fun _ => rfl⟩
  obtain ⟨r1, r2, r3, r4⟩ := wos_z hs hW (by omega) hk0 hfs hI
  have hw : wgS cds (mG W) b (nI k0) j g = ((wosR (jq cds j) (mG W) (nI k0) (if ¬ nI j = 0 then 0 else 1) (sF (sF g 40 8 (nI j)) 40 9 b)).2, (wosR (jq cds j) (mG W) (nI k0) (if ¬ nI j = 0 then 0 else 1) (sF (sF g 40 8 (nI j)) 40 9 b)).1) := rfl
  have ez : zMa (zg W gl rl k0 b j) 31 = zWo W gl rl k0 b j := rfl
  rw [r1, ez] at hw
  have r2' := r2.ob
  have r4' : ∀ x, gF (wosR (jq cds j) (mG W) (nI k0) (if ¬ nI j = 0 then 0 else 1) (sF (sF g 40 8 (nI j)) 40 9 b)).2 61 x = gF g 61 x := fun x => (r4 x).trans rfl
  have r3' := r3
  clear r1 r2 r3 r4
  generalize (wosR (jq cds j) (mG W) (nI k0) (if ¬ nI j = 0 then 0 else 1) (sF (sF g 40 8 (nI j)) 40 9 b)).2 = y at r2' r3' r4' hw
  have bj := zWo_b hW (gl := gl) (rl := rl) hk0 b j
  have hO : ∀ v w, OB (sF (sF y 61 4 v) 61 3 w) W gl (W 6) (mT W) (mG W) := fun v w => r2'.f6 (f := f61) (a := aNo) ((Fr.rf.sF (c := 61) (k := 4) rfl).sF (c := 61) (k := 3) rfl) (fun _ => rfl) (fun _ _ => rfl) ((Fr.rf.sF rfl).sF rfl)
  cases j with
  | zero =>
    rw [wgJ_e hw (Or.inl rfl) rfl]
    refine ⟨hO _ _, fun i hi => ?_⟩
    have ei : i = 0 := by omega
    subst ei
    exact ⟨rfl, rfl, fun s hs => r3'.1 s hs hs⟩
  | succ j =>
    obtain ⟨u1, u2, u3⟩ := h2 j rfl
    have bl := zAl_in (S := zWo W gl rl k0 b) (fun n => zWo_b hW hk0 b n) j
    have n0 : ¬ nI (j + 1) = 0 := nI_nq (b := 0) (by omega) (by omega) (by omega)
    have e : zAl (zWo W gl rl k0 b) (j + 1) = if zWo W gl rl k0 b (j + 1) < (zAl (zWo W gl rl k0 b) j).2 then (j + 1, zWo W gl rl k0 b (j + 1)) else zAl (zWo W gl rl k0 b) j := rfl
    by_cases c : zWo W gl rl k0 b (j + 1) < (zAl (zWo W gl rl k0 b) j).2
    · rw [wgJ_e hw (Or.inr ⟨n0, by rw [r4', u2]; intro z; have := (zI_le (by omega) (by omega) (by omega) (by omega)).mp z; omega⟩) rfl]
      rw [if_pos c] at e
      refine ⟨hO _ _, fun i hi => ?_⟩
      have ei : i = j + 1 := by omega
      subst ei
      rw [e]
      exact ⟨rfl, rfl, fun s hs => r3'.1 s hs hs⟩
    · rw [wgJ_k hw n0 (by rw [r4', u2]; exact (zI_le (by omega) (by omega) (by omega) (by omega)).mpr (by omega))]
      rw [if_neg c] at e
      refine ⟨r2', fun i hi => ?_⟩
      have ei : i = j + 1 := by omega
      subst ei
      rw [e]
      exact ⟨(r4' 3).trans u1, (r4' 4).trans u2, fun s hs => r3'.1 s hs hs⟩
theorem wgJs_z {W : Nat → Int32} {gl : List TxL} {rl : Nat → List TxL} {cds : Nat → CD} (hW : WB W) (hcd : ∀ r, r < mR W → RulQ (cds r) (rl r)) {k0 : Nat} (hk0 : k0 < mN W) (b : Int32) {g : GS} (h : OB g W gl (W 6) (mT W) (mG W)) : ∀ n, n ≤ 5 + mR W → WgI (itN (wgJ cds (mG W) b (nI k0)) n g) W gl rl k0 b n
  | 0, _ => ⟨h, fun i hi => by omega⟩
  | n + 1, hn => by
    rw [itN_p]
    exact wgJ_z hW hcd hk0 b (by omega) (wgJs_z hW hcd hk0 b h n (by omega))
/-- shrewd -/
def WhI (g : GS) (W : Nat → Int32) (gl : List TxL) (rl : Nat → List TxL) (k0 : Nat) (b : Int32) (K n : Nat) : Prop := WgI g W gl rl k0 b (K + 1) ∧ ∀ i, n = i + 1 → gF g 61 5 = nI (zAm (fun s => zMi (zg W gl rl k0 b) K s) i).1 ∧ gF g 61 6 = zI (zAm (fun s => zMi (zg W gl rl k0 b) K s) i).2
theorem WgI.wgb {g : GS} {W : Nat → Int32} {gl : List TxL} {rl : Nat → List TxL} {k0 : Nat} {b : Int32} {n : Nat} (h : WgI g W gl rl k0 b n) (s : Nat) : WgI (wgb g s) W gl rl k0 b n :=
  ⟨h.1.f6 (f := f61) (a := aNo) ((Fr.rf.sF (c := 61) (k := 6) rfl).sF (c := 61) (k := 5) rfl) (fun _ => rfl) (fun _ _ => rfl) ((Fr.rf.sF rfl).sF rfl), h.2⟩
theorem wgB_z {W : Nat → Int32} {gl : List TxL} {rl : Nat → List TxL} (hW : WB W) {k0 : Nat} (hk0 : k0 < mN W) (b : Int32) {K : Nat} {g : GS} (h : WgI g W gl rl k0 b (K + 1)) : ∀ n, n ≤ 32 → WhI (itN wgB n g) W gl rl k0 b K n
  | 0, _ => ⟨h, fun i hi => by omega⟩
  | n + 1, hn => by
    obtain ⟨i1, i2⟩ := wgB_z hW hk0 b h n (by omega)
    rw [itN_p]
    generalize itN wgB n g = y at i1 i2
    have hb : ∀ s, s ≤ 31 → -200000 ≤ zMi (zg W gl rl k0 b) K s ∧ zMi (zg W gl rl k0 b) K s ≤ 200000 := fun s hs => zMi_b K (fun i _ => (rsG_z hW hk0 b i (show s < 32 by omega)).2)
    have e62 : rAt 32 (gA y 62) (nI n) = zI (zMi (zg W gl rl k0 b) K n) := by rw [rAt_in (by omega) (by omega)]; exact (i1.2 K rfl).2.2 n (by omega)
    have bn := hb n (by omega)
    cases n with
    | zero =>
      rw [wgB_e (Or.inl rfl) rfl]
      refine ⟨i1.wgb 0, fun i hi => ?_⟩
      have ei : i = 0 := by omega
      subst ei
      exact ⟨rfl, e62⟩
    | succ n =>
      obtain ⟨u1, u2⟩ := i2 n rfl
      have bm := zAm_in (S := fun s => zMi (zg W gl rl k0 b) K s) (N := 31) hb n (by omega)
      have n0 : ¬ nI (n + 1) = 0 := nI_nq (b := 0) (by omega) (by omega) (by omega)
      have e : zAm (fun s => zMi (zg W gl rl k0 b) K s) (n + 1) = if zMi (zg W gl rl k0 b) K (n + 1) ≤ (zAm (fun s => zMi (zg W gl rl k0 b) K s) n).2 then zAm (fun s => zMi (zg W gl rl k0 b) K s) n else (n + 1, zMi (zg W gl rl k0 b) K (n + 1)) := rfl
      by_cases c : zMi (zg W gl rl k0 b) K (n + 1) ≤ (zAm (fun s => zMi (zg W gl rl k0 b) K s) n).2
      · rw [wgB_k n0 (by rw [e62, u2]; exact (zI_le (by omega) (by omega) (by omega) (by omega)).mpr c)]
        rw [if_pos c] at e
        refine ⟨i1, fun i hi => ?_⟩
        have ei : i = n + 1 := by omega
        subst ei
        rw [e]; exact ⟨u1, u2⟩
      · rw [wgB_e (Or.inr ⟨n0, by rw [e62, u2]; intro z; exact c ((zI_le (by omega) (by omega) (by omega) (by omega)).mp z)⟩) rfl]
        rw [if_neg c] at e
        refine ⟨i1.wgb (n + 1), fun i hi => ?_⟩
        have ei : i = n + 1 := by omega
        subst ei
        rw [e]; exact ⟨rfl, e62⟩
theorem v_rest {g : GS} {W : Nat → Int32} {gl : List TxL} {rl : Nat → List TxL} {q : Option CD} (h : CQ g W gl q) {cds : Nat → CD} (hcd : ∀ r, r < mR W → RulQ (cds r) (rl r)) {k0 : Nat} (hk0 : k0 < mN W) (b what : Int32) :
    reV (reG g b (nI k0) q (mT W) (mG W) (mR W) cds) what = rsV what (rsS (fun n => rsW ((rsG W gl rl (W 6) k0 (wTo W k0) b) n) 32) (5 + mR W)) (rsH (rsN (rsG W gl rl (W 6) k0 (wTo W k0) b) (4 + mR W)) 31) (rsN (rsG W gl rl (W 6) k0 (wTo W k0) b) (4 + mR W) (rsH (rsN (rsG W gl rl (W 6) k0 (wTo W k0) b) (4 + mR W)) 31)) ∧ Z0 (reG g b (nI k0) q (mT W) (mG W) (mR W) cds) := by
  have hW := h.2.1
  have hR4 := hW.2.2.2.2.2.2.2.2.2.2.2.1.1
  have hO : OB (opAll g (gF g 20 14) (mT W) q) W gl (W 6) (mT W) (mG W) := by rw [h.e14]; exact h.ob h.m6 hW.T
  have w1 := wgJs_z hW hcd hk0 b hO (4 + mR W + 1) (by omega)
  obtain ⟨w2, w3⟩ := wgB_z hW hk0 b w1 32 (Nat.le_refl _)
  have eG : reG g b (nI k0) q (mT W) (mG W) (mR W) cds = itN wgB 32 (itN (wgJ cds (mG W) b (nI k0)) (4 + mR W + 1) (opAll g (gF g 20 14) (mT W) q)) := by
    unfold reG wgAll
    rw [show 5 + mR W = 4 + mR W + 1 by omega]
  rw [eG, show 5 + mR W = 4 + mR W + 1 by omega]
  generalize itN wgB 32 (itN (wgJ cds (mG W) b (nI k0)) (4 + mR W + 1) (opAll g (gF g 20 14) (mT W) q)) = y at w2 w3
  refine ⟨?_, w2.1.2.2.2⟩
  obtain ⟨v1, v2, -⟩ := w2.2 (4 + mR W) rfl
  obtain ⟨v3, v4⟩ := w3 31 rfl
  have hb : ∀ s, s ≤ 31 → -200000 ≤ zMi (zg W gl rl k0 b) (4 + mR W) s ∧ zMi (zg W gl rl k0 b) (4 + mR W) s ≤ 200000 := fun s hs => zMi_b _ (fun i _ => (rsG_z hW hk0 b i (show s < 32 by omega)).2)
  obtain ⟨s1, s2, s3⟩ := rsS_z (f := fun n => rsW ((rsG W gl rl (W 6) k0 (wTo W k0) b) n) 32) (S := zWo W gl rl k0 b) (N := 9) (by omega) (fun n _ => rsW_z 31) (4 + mR W) (by omega)
  have hH := rsH_z (f := rsN (rsG W gl rl (W 6) k0 (wTo W k0) b) (4 + mR W)) (S := fun s => zMi (zg W gl rl k0 b) (4 + mR W) s) (N := 31) (fun n _ => rsN_z _ _) 31 (Nat.le_refl _)
  have bl := zAl_in (S := zWo W gl rl k0 b) (fun n => zWo_b hW hk0 b n) (4 + mR W)
  have bm := zAm_in (S := fun s => zMi (zg W gl rl k0 b) (4 + mR W) s) (N := 31) hb 31 (Nat.le_refl _)
  have lm := zAm_le (fun s => zMi (zg W gl rl k0 b) (4 + mR W) s) 31
  have eN : (rsN (rsG W gl rl (W 6) k0 (wTo W k0) b) (4 + mR W) (zAm (fun s => zMi (zg W gl rl k0 b) (4 + mR W) s) 31).1).toInt = (zAm (fun s => zMi (zg W gl rl k0 b) (4 + mR W) s) 31).2 := by rw [rsN_z, lm.2]; rfl
  rw [hH]
  generalize rsN (rsG W gl rl (W 6) k0 (wTo W k0) b) (4 + mR W) (zAm (fun s => zMi (zg W gl rl k0 b) (4 + mR W) s) 31).1 = v at eN
  generalize rsS (fun n => rsW ((rsG W gl rl (W 6) k0 (wTo W k0) b) n) 32) (4 + mR W + 1) = pp at s1 s2
  unfold reV rsV
  rw [v1, v2, v3, v4]
  by_cases c0 : what = 0
  · rw [if_pos c0, if_neg (fun z => z c0), s1]
  · rw [if_neg c0, if_pos c0]
    by_cases c1 : what = 1
    · rw [if_pos c1, if_neg (fun z => z c1), zI_64 (by omega) (by omega), ← s2, zL_of]
    · rw [if_neg c1, if_pos c1]
      by_cases c2 : what = 2
      · rw [if_pos c2, if_neg (fun z => z c2)]
      · rw [if_neg c2, if_pos c2]
        by_cases c3 : what = 3
        · rw [if_pos c3, if_neg (fun z => z c3), zI_64 (by omega) (by omega), ← eN, zL_of]
        · rw [if_neg c3, if_pos c3]
          by_cases c4 : (zAl (zWo W gl rl k0 b) (4 + mR W)).2 = (zAm (fun s => zMi (zg W gl rl k0 b) (4 + mR W) s) 31).2
          · rw [if_neg (fun z => z ((zI_eq (by omega) (by omega) (by omega) (by omega)).mpr c4)), if_neg (fun z => z (cmp_eq.mpr (by rw [s2, eN]; exact c4)))]
          · rw [if_pos (fun z => c4 ((zI_eq (by omega) (by omega) (by omega) (by omega)).mp z)), if_pos (fun z => c4 (by have := cmp_eq.mp z; rwa [s2, eN] at this))]
