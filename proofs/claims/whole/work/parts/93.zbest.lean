
/-! best bars, plain judges -/
def OB (g : GS) (W : Nat → Int32) (gl : List TxL) (m : Int32) (T G : Nat) : Prop := OpS g W (mGc W m gl) m T ∧ BkQ g W ∧ gF g 40 12 = nI G ∧ Z0 g
theorem BO.ob {g : GS} {W : Nat → Int32} {gl : List TxL} {rl : Nat → List TxL} {m : Int32} {T G : Nat} {jd b : Int32} {q : Option CD} (h : BO g W gl rl m T G jd b q) : OB g W gl m T G := ⟨h.1, h.2.1, h.2.2.1, h.2.2.2.2⟩
theorem OB.seat {g : GS} {W : Nat → Int32} {gl : List TxL} {rl : Nat → List TxL} {m : Int32} {T G : Nat} {jd : Int32} {q : Option CD} (h : OB g W gl m T G) (hj : JdQ q rl jd) (b : Int32) : BO (sF (sF g 40 8 jd) 40 9 b) W gl rl m T G jd b q :=
  ⟨(h.1.sf (k := 8) (by omega) jd).sf (k := 9) (by omega) b, (h.2.1.s40 8 jd).s40 9 b, h.2.2.1, SeQ.of hj, h.2.2.2⟩
theorem OB.plain {g : GS} {W : Nat → Int32} {gl : List TxL} {m : Int32} {T G : Nat} (h : OB g W gl m T G) (rl : Nat → List TxL) {z f : Nat} (hz : z ≤ 8) (hf : f ≤ 4) (b : Int32) : BO (sF (sF (sF g 40 8 (-1)) 40 10 (nI z)) 40 11 (nI f)) W gl rl m T G (nI (100 + 10 * z + f)) b none :=
  ⟨((h.1.sf (k := 8) (by omega) _).sf (k := 10) (by omega) _).sf (k := 11) (by omega) _, ((h.2.1.s40 8 _).s40 10 _).s40 11 _, h.2.2.1, Or.inr (Or.inl ⟨rfl, z, f, hz, hf, rfl, rfl, rfl, rfl⟩), h.2.2.2⟩
theorem CQ.ob {g : GS} {W : Nat → Int32} {gl : List TxL} {q : Option CD} (h : CQ g W gl q) {m : Int32} (hm : 0 ≤ m.toInt ∧ m.toInt ≤ 90) {T : Nat} (hT : T ≤ 60) : OB (opAll g m T q) W gl m T (mG W) := opB h hm hT
/-- the first of the greatest -/
def zAm (S : Nat → Int) : Nat → Nat × Int
  | 0 => (0, S 0)
  | n + 1 => if S (n + 1) ≤ (zAm S n).2 then zAm S n else (n + 1, S (n + 1))
theorem zAm_le (S : Nat → Int) : ∀ n, (zAm S n).1 ≤ n ∧ (zAm S n).2 = S (zAm S n).1
  | 0 => ⟨Nat.le_refl _, rfl⟩
  | n + 1 => by
    obtain ⟨h1, h2⟩ := zAm_le S n
    unfold zAm
    split
    · exact ⟨by omega, h2⟩
    · exact ⟨Nat.le_refl _, rfl⟩
theorem brS_z {f : Nat → Int64} {S : Nat → Int} {C : Int} {N : Nat} (hf : ∀ n, n ≤ N → f n = zL (C - S n)) (hC : -10000000 ≤ C ∧ C ≤ 10000000) (hS : ∀ n, n ≤ N → -10000000 ≤ S n ∧ S n ≤ 10000000) : ∀ n, n ≤ N → brS f n = ((zAm S n).1, zL (C - (zAm S n).2))
  | 0, h => by unfold brS zAm; rw [hf 0 h]
  | n + 1, h => by
    have ih := brS_z hf hC hS n (by omega)
    have b1 := hS (n + 1) h
    have b2 := hS (zAm S n).1 (by have := (zAm_le S n).1; omega)
    rw [← (zAm_le S n).2] at b2
    unfold brS zAm
    rw [ih, hf (n + 1) h]
    show (if 0 ≤ lg_cmp (zL (C - S (n + 1))) (zL (C - (zAm S n).2)) then (zAm S n).1 else n + 1, mnL (zL (C - (zAm S n).2)) (zL (C - S (n + 1)))) = _
    unfold mnL
    by_cases c : S (n + 1) ≤ (zAm S n).2
    · rw [if_pos c, if_pos (cmp_ge.mpr (by rw [zL_T (by omega) (by omega), zL_T (by omega) (by omega)]; omega)), if_neg (fun z => by have := cmp_gt.mp z; rw [zL_T (by omega) (by omega), zL_T (by omega) (by omega)] at this; omega)]
    · rw [if_neg c, if_neg (fun z => by have := cmp_ge.mp z; rw [zL_T (by omega) (by omega), zL_T (by omega) (by omega)] at this; omega), if_pos (cmp_gt.mpr (by rw [zL_T (by omega) (by omega), zL_T (by omega) (by omega)]; omega))]
def zT (P : JP) : Int := zS (fun s => (jw P 0 s).toInt) 32
theorem wt_T {g : GS} {P : JP} (h : LyS g P) (hb : ZB P) : wtI g 0 32 = zI (zT P) ∧ -400000 ≤ zT P ∧ zT P ≤ 3000000 := by
  have w := wt_z h hb (f := 0) (n := 32) (by omega)
  have e : zS (fun i => (jw P 0 (0 + i)).toInt) 32 = zT P := zS_congr 32 (fun i _ => by rw [Nat.zero_add])
  rw [e] at w
  exact ⟨w.1, w.2.2⟩
theorem zT_b {P : JP} (hb : ZB P) : -400000 ≤ zT P ∧ zT P ≤ 3000000 := by
  have u := zS_bd (f := fun i => (jw P 0 i).toInt) (c := 80000) 32 (fun i hi => (jw_b hb 0 i (by omega)).2)
  have l := zS_bd (f := fun i => 0 - (jw P 0 i).toInt) (c := 9999) 32 (fun i hi => by have := (jw_b hb 0 i (by omega)).1; omega)
  have l2 := zS_sub (f := fun _ => 0) (h := fun i => (jw P 0 i).toInt) 32
  have z0 : ∀ m, zS (fun _ => 0) m = 0 := fun m => by
    induction m with
    | zero => rfl
    | succ m ih => unfold zS; rw [ih]; rfl
  rw [z0] at l2
  rw [l2] at l
  unfold zT; omega
theorem wLs_T {P3 P : JP} (h3 : ZB P3) (h : ZB P) : wLs P3 P (-1) = zL (zT P3 - zT P) := wLs_z h3 h
def bP (W : Nat → Int32) (gl : List TxL) (rl : Nat → List TxL) (k z : Nat) (b : Nat) : JP := mJP W gl rl (W 6) k z (wTo W k) 2 (nI b) (mG W)
theorem baT_z {g : GS} {W : Nat → Int32} {gl : List TxL} {rl : Nat → List TxL} {T : Nat} (h : OB g W gl (W 6) T (mG W)) (hW : WB W) (hT : mT W ≤ T) {k z : Nat} (hk : k < mN W) (hz : z < 8) (b : Nat) : OB (baT (nI k) (nI z) (mG W) b g) W gl (W 6) T (mG W) ∧ LyS (baT (nI k) (nI z) (mG W) b g) (bP W gl rl k z b) := by
  have hs := h.seat (rl := rl) JdQ_2 (nI b)
  obtain ⟨h1, h2⟩ := hs.lay hW hT hW.G hk hz (hW.to hk) (bk_cn_z hs.2.1 hW hk)
  exact ⟨h1.ob, h2⟩
theorem baR_z {W : Nat → Int32} {gl : List TxL} {rl : Nat → List TxL} (hW : WB W) {T : Nat} (hT : mT W ≤ T) {k z : Nat} (hk : k < mN W) (hz : z < 8) : ∀ (d n : Nat) {g : GS}, n + d = 31 → OB g W gl (W 6) T (mG W) → (baR (nI k) (nI z) (mG W) d (n + 1) (nI (zAm (fun b => zT (bP W gl rl k z b)) n).1) (zI (zAm (fun b => zT (bP W gl rl k z b)) n).2) g).1 = nI (zAm (fun b => zT (bP W gl rl k z b)) 31).1
  | 0, n, g, hn, h => by rw [show n = 31 by omega]; rfl
  | d + 1, n, g, hn, h => by
    have hb : ∀ b, ZB (bP W gl rl k z b) := fun b => mJP_b hW hk hz (hW.to hk) hW.G gl rl (W 6) 2 (nI b)
    obtain ⟨h1, h2⟩ := baT_z (rl := rl) h hW hT hk hz (n + 1)
    have ih := baR_z (rl := rl) hW hT hk hz d (n + 1) (by omega) h1
    have w := (wt_T h2 (hb (n + 1))).1
    have b1 := zT_b (hb (n + 1))
    have l := zAm_le (fun b => zT (bP W gl rl k z b)) n
    have b2 : -400000 ≤ (zAm (fun b => zT (bP W gl rl k z b)) n).2 ∧ (zAm (fun b => zT (bP W gl rl k z b)) n).2 ≤ 3000000 := by rw [l.2]; exact zT_b (hb _)
    have e : zAm (fun b => zT (bP W gl rl k z b)) (n + 1) = if zT (bP W gl rl k z (n + 1)) ≤ (zAm (fun b => zT (bP W gl rl k z b)) n).2 then zAm (fun b => zT (bP W gl rl k z b)) n else (n + 1, zT (bP W gl rl k z (n + 1))) := rfl
    unfold baR
    rw [if_neg (nI_neg1 (by omega)), w]
    by_cases c : zT (bP W gl rl k z (n + 1)) ≤ (zAm (fun b => zT (bP W gl rl k z b)) n).2
    · rw [if_pos c] at e
      rw [if_pos ((zI_le (by omega) (by omega) (by omega) (by omega)).mpr c), ← ih, e]
    · rw [if_neg c] at e
      rw [if_neg (fun x => c ((zI_le (by omega) (by omega) (by omega) (by omega)).mp x)), ← ih, e]
theorem v_bar {g : GS} {W : Nat → Int32} {gl : List TxL} {q : Option CD} (h : CQ g W gl q) (rl : Nat → List TxL) {k z : Nat} (hk : k < mN W) (hz : z < 8) :
    (baA g (nI k) (nI z) q (mT W) (mG W)).1 = nI (brS (fun b => wLs (mJP W gl rl (W 6) k z (wTo W k) 3 0 (mG W)) (mJP W gl rl (W 6) k z (wTo W k) 2 (nI b) (mG W)) (-1)) 31).1 := by
  have hW := h.2.1
  have hb : ∀ b, ZB (bP W gl rl k z b) := fun b => mJP_b hW hk hz (hW.to hk) hW.G gl rl (W 6) 2 (nI b)
  have hb3 := mJP_b hW hk hz (hW.to hk) hW.G gl rl (W 6) 3 0
  have e := brS_z (f := fun b => wLs (mJP W gl rl (W 6) k z (wTo W k) 3 0 (mG W)) (mJP W gl rl (W 6) k z (wTo W k) 2 (nI b) (mG W)) (-1)) (S := fun b => zT (bP W gl rl k z b)) (C := zT (mJP W gl rl (W 6) k z (wTo W k) 3 0 (mG W))) (N := 31) (fun n _ => wLs_T hb3 (hb n)) (by have := zT_b hb3; omega) (fun n _ => by have := zT_b (hb n); omega) 31 (Nat.le_refl _)
  rw [e]
  obtain ⟨h1, h2⟩ := baT_z (rl := rl) (h.ob h.m6 hW.T) hW (Nat.le_refl _) hk hz 0
  have r := baR_z (rl := rl) hW (Nat.le_refl _) hk hz 31 0 (by omega) h1
  unfold baA
  rw [h.e14]
  have w := (wt_T h2 (hb 0)).1
  have u : baR (nI k) (nI z) (mG W) 32 0 (-1) 0 (opAll g (W 6) (mT W) q) = baR (nI k) (nI z) (mG W) 31 1 (nI 0) (wtI (baT (nI k) (nI z) (mG W) 0 (opAll g (W 6) (mT W) q)) 0 32) (baT (nI k) (nI z) (mG W) 0 (opAll g (W 6) (mT W) q)) := by
    rw [baR.eq_2, if_pos rfl]
  rw [u, w]
  have z1 : (zAm (fun b => zT (bP W gl rl k z b)) 0).1 = 0 := rfl
  have z2 : (zAm (fun b => zT (bP W gl rl k z b)) 0).2 = zT (bP W gl rl k z 0) := rfl
  rw [z1, z2, Nat.zero_add] at r
  rw [r]
/-! plain judges -/
theorem pnS_z {f : Nat → Int64} {S : Nat → Int} {C : Int} {N : Nat} (hN : N ≤ 100) (hf : ∀ n, n < N → f n = zL (C - S n)) (hC : -10000000 ≤ C ∧ C ≤ 10000000) (hS : ∀ n, n < N → -10000000 ≤ S n ∧ S n ≤ 10000000) : ∀ n, n < N → pnS f (n + 1) = (nI (10 * ((zAm S n).1 / 5) + (zAm S n).1 % 5), zL (C - (zAm S n).2))
  | 0, h => by
    unfold pnS
    rw [if_pos (show (pnS f 0).1 < 0 from (by decide : (-1 : Int32) < 0)), hf 0 h]; rfl
  | n + 1, h => by
    have ih := pnS_z hN hf hC hS n (by omega)
    have l := zAm_le S n
    have b1 := hS (n + 1) h
    have b2 := hS (zAm S n).1 (by omega)
    rw [← l.2] at b2
    rw [pnS.eq_2, ih, hf (n + 1) h]
    have n0 : ¬ nI (10 * ((zAm S n).1 / 5) + (zAm S n).1 % 5) < 0 := fun z => by
      have := Int32.lt_iff_toInt_lt.mp z
      rw [nI_toInt (by omega), Int32.toInt_zero] at this; omega
    have e : zAm S (n + 1) = if S (n + 1) ≤ (zAm S n).2 then zAm S n else (n + 1, S (n + 1)) := rfl
    dsimp only
    rw [if_neg n0, e]
    by_cases c : S (n + 1) ≤ (zAm S n).2
    · rw [if_pos c, if_neg (fun z => by have := cmp_lt.mp z; rw [zL_T (by omega) (by omega), zL_T (by omega) (by omega)] at this; omega)]
    · rw [if_neg c, if_pos (cmp_lt.mpr (by rw [zL_T (by omega) (by omega), zL_T (by omega) (by omega)]; omega))]
def pnP (W : Nat → Int32) (gl : List TxL) (rl : Nat → List TxL) (k z : Nat) (n : Nat) : JP := mJP W gl rl (W 6) k z (wTo W k) (nI (100 + 10 * (n / 5) + n % 5)) 0 (mG W)
theorem plT_z {g : GS} {W : Nat → Int32} {gl : List TxL} {T : Nat} (h : OB g W gl (W 6) T (mG W)) (rl : Nat → List TxL) (hW : WB W) (hT : mT W ≤ T) {k z : Nat} (hk : k < mN W) (hz : z < 8) {n : Nat} (hn : n < 45) : OB (plT (nI k) (nI z) (mG W) (n / 5) (n % 5) g) W gl (W 6) T (mG W) ∧ LyS (plT (nI k) (nI z) (mG W) (n / 5) (n % 5) g) (pnP W gl rl k z n) := by
  have hs := h.plain rl (z := n / 5) (f := n % 5) (by omega) (by omega) 0
  obtain ⟨h1, h2⟩ := hs.lay hW hT hW.G hk hz (hW.to hk) (bk_cn_z hs.2.1 hW hk)
  exact ⟨h1.ob, h2⟩
/-- how far plain judges are held against each other -/
def PnI (W : Nat → Int32) (gl : List TxL) (rl : Nat → List TxL) (k z T : Nat) (n : Nat) (p : P3) : Prop := OB p.2.2 W gl (W 6) T (mG W) ∧ (n = 0 → p.1 = -1) ∧ ∀ i, n = i + 1 → p.1 = nI (10 * ((zAm (fun b => zT (pnP W gl rl k z b)) i).1 / 5) + (zAm (fun b => zT (pnP W gl rl k z b)) i).1 % 5) ∧ p.2.1 = zI (zAm (fun b => zT (pnP W gl rl k z b)) i).2
theorem plS_z {W : Nat → Int32} {gl : List TxL} {rl : Nat → List TxL} (hW : WB W) {T : Nat} (hT : mT W ≤ T) {k z : Nat} (hk : k < mN W) (hz : z < 8) {n : Nat} (hn : n < 45) {p : P3} (h : PnI W gl rl k z T n p) : PnI W gl rl k z T (n + 1) (plS (nI k) (nI z) (mG W) (n / 5) (n % 5) p) := by
  obtain ⟨h0, h1, h2⟩ := h
  have hb : ∀ b, ZB (pnP W gl rl k z b) := fun b => mJP_b hW hk hz (hW.to hk) hW.G gl rl (W 6) _ 0
  obtain ⟨t1, t2⟩ := plT_z h0 rl hW hT hk hz hn
  have w := (wt_T t2 (hb n)).1
  have b1 := zT_b (hb n)
  have ec : (10 : Int32) * nI (n / 5) + nI (n % 5) = nI (10 * (n / 5) + n % 5) := nIa (nIm (nIc 10) rfl) rfl
  refine ⟨by rw [plS_g]; exact t1, fun x => by omega, fun i hi => ?_⟩
  have ei : i = n := by omega
  subst ei
  unfold plS
  rw [w, ec]
  cases i with
  | zero => rw [if_pos (h1 rfl)]; exact ⟨rfl, rfl⟩
  | succ i =>
    obtain ⟨u1, u2⟩ := h2 i rfl
    have l := zAm_le (fun b => zT (pnP W gl rl k z b)) i
    have b2 : -400000 ≤ (zAm (fun b => zT (pnP W gl rl k z b)) i).2 ∧ (zAm (fun b => zT (pnP W gl rl k z b)) i).2 ≤ 3000000 := by rw [l.2]; exact zT_b (hb _)
    have e : zAm (fun b => zT (pnP W gl rl k z b)) (i + 1) = if zT (pnP W gl rl k z (i + 1)) ≤ (zAm (fun b => zT (pnP W gl rl k z b)) i).2 then zAm (fun b => zT (pnP W gl rl k z b)) i else (i + 1, zT (pnP W gl rl k z (i + 1))) := rfl
    rw [if_neg (by rw [u1]; exact nI_neg1 (by omega)), u2, e]
    by_cases c : zT (pnP W gl rl k z (i + 1)) ≤ (zAm (fun b => zT (pnP W gl rl k z b)) i).2
    · rw [if_pos c, if_pos ((zI_le (by omega) (by omega) (by omega) (by omega)).mpr c)]; exact ⟨u1, rfl⟩
    · rw [if_neg c, if_neg (fun x => c ((zI_le (by omega) (by omega) (by omega) (by omega)).mp x))]; exact ⟨rfl, rfl⟩
theorem plF_z {W : Nat → Int32} {gl : List TxL} {rl : Nat → List TxL} (hW : WB W) {T : Nat} (hT : mT W ≤ T) {k z : Nat} (hk : k < mN W) (hz : z < 8) {y : Nat} (hy : y < 9) : ∀ (d f : Nat) {p : P3}, f + d = 5 → PnI W gl rl k z T (5 * y + f) p → PnI W gl rl k z T (5 * (y + 1)) (plF (nI k) (nI z) (mG W) y d f p)
  | 0, f, p, hf, h => by rw [show 5 * (y + 1) = 5 * y + f by omega]; exact h
  | d + 1, f, p, hf, h => by
    have := plS_z hW hT hk hz (by omega) h
    rw [show (5 * y + f) / 5 = y by omega, show (5 * y + f) % 5 = f by omega] at this
    exact plF_z hW hT hk hz hy d (f + 1) (by omega) this
theorem plZ_z {W : Nat → Int32} {gl : List TxL} {rl : Nat → List TxL} (hW : WB W) {T : Nat} (hT : mT W ≤ T) {k z : Nat} (hk : k < mN W) (hz : z < 8) : ∀ (d y : Nat) {p : P3}, y + d = 9 → PnI W gl rl k z T (5 * y) p → PnI W gl rl k z T 45 (plZ (nI k) (nI z) (mG W) d y p)
  | 0, y, p, hy, h => by rw [show 45 = 5 * y by omega]; exact h
  | d + 1, y, p, hy, h => plZ_z hW hT hk hz d (y + 1) (by omega) (plF_z hW hT hk hz (by omega) 5 0 (by omega) h)
theorem v_plain {g : GS} {W : Nat → Int32} {gl : List TxL} {q : Option CD} (h : CQ g W gl q) (rl : Nat → List TxL) {k z : Nat} (hk : k < mN W) (hz : z < 8) :
    (pnA g (nI k) (nI z) q (mT W) (mG W)).1 = (pnS (fun n => wLs (mJP W gl rl (W 6) k z (wTo W k) 3 0 (mG W)) (mJP W gl rl (W 6) k z (wTo W k) (nI (100 + 10 * (n / 5) + n % 5)) 0 (mG W)) (-1)) 45).1 := by
  have hW := h.2.1
  have hb : ∀ b, ZB (pnP W gl rl k z b) := fun b => mJP_b hW hk hz (hW.to hk) hW.G gl rl (W 6) _ 0
  have hb3 := mJP_b hW hk hz (hW.to hk) hW.G gl rl (W 6) 3 0
  have e := pnS_z (f := fun n => wLs (mJP W gl rl (W 6) k z (wTo W k) 3 0 (mG W)) (mJP W gl rl (W 6) k z (wTo W k) (nI (100 + 10 * (n / 5) + n % 5)) 0 (mG W)) (-1)) (S := fun b => zT (pnP W gl rl k z b)) (C := zT (mJP W gl rl (W 6) k z (wTo W k) 3 0 (mG W))) (N := 45) (by omega) (fun n _ => wLs_T hb3 (hb n)) (by have := zT_b hb3; omega) (fun n _ => by have := zT_b (hb n); omega) 44 (by omega)
  have h0 : PnI W gl rl k z (mT W) (5 * 0) ((-1, 0, opAll g (W 6) (mT W) q) : P3) := ⟨h.ob h.m6 hW.T, fun _ => rfl, fun i hi => by omega⟩
  obtain ⟨-, -, r⟩ := plZ_z hW (Nat.le_refl _) hk hz 9 0 (by omega) h0
  rw [show (45 : Nat) = 44 + 1 from rfl, e]
  unfold pnA
  rw [h.e14]
  exact (r 44 rfl).1
