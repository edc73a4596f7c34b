/-! the class's cursor stands at a thing -/
def Ent (o : Ob) (g : GS) (q p : Nat) : Prop := gA g 3 q = nI p ∧ gA g 4 q = oNum o p ∧ gA g 5 q = oSgn o p ∧ gP g 6 q = some (CST + oWrd o p)
def CurF (o : Ob) (g : GS) (b : Nat) : Prop := gF g 1 8 = nI b ∧ gF g 1 9 = oNum o b ∧ gF g 1 10 = oSgn o b ∧ gV g 1 11 = .ref (CST + oWrd o b)
def CurP (o : Ob) (g : GS) (b : Nat) (pos : Nat → Nat) (m i : Nat) : Prop :=
  m ≤ 400 ∧ i ≤ m ∧ gF g 1 6 = nI (m + 1) ∧ pos m = oN o ∧ (∀ q, q < m → pos q < oN o ∧ pos (q + 1) = oNxt o (pos q)) ∧ (∀ q, q ≤ m → Ent o g q (pos q)) ∧ pos i = b ∧ gF g 1 7 = nI i
def Cur (o : Ob) (g : GS) (b : Nat) : Prop := gF g 1 1 = nI (oN o) ∧ (∃ (pos : Nat → Nat) (m i : Nat), CurP o g b pos m i) ∧ CurF o g b
/-- what the cursor writes -/
def fN (c k : Nat) : Bool := Nat.beq c 1 && Nat.ble 7 k
def aN (_ : Nat) : Bool := false
theorem nx_fr (g : GS) : Fr fN aN g (nxG g) := by
  have h : Fr fN aN g (nxA g) := by
    unfold nxA
    split
    · exact Fr.rf
    · exact Fr.rf.sF rfl
  exact (((h.sF rfl).sF rfl).sF rfl).sV rfl
theorem va_rf_some (a : Nat) : va_rf (some a) = .ref a := rfl
theorem nxB_cur {o : Ob} {g : GS} {q p : Nat} (h : Ent o g q p) : CurF o (nxB g q) p :=
  ⟨h.1, h.2.1, h.2.2.1, by show va_rf (gP g 6 q) = _; rw [h.2.2.2]; rfl⟩
theorem Cur.nxA {o : Ob} {g : GS} {b : Nat} {pos : Nat → Nat} {m i : Nat} (hP : CurP o g b pos m i) (hb : b < oN o) : nxA g = sF g 1 7 (nI (i + 1)) ∧ i < m := by
  obtain ⟨h1, h2, h3, h4, h5, h6, h7, h8⟩ := hP
  have hi : i < m := by
    rcases Nat.lt_or_ge i m with h | h
    · exact h
    · have : i = m := by omega
      subst this
      omega
  refine ⟨?_, hi⟩
  show (if gF g 1 6 ≤ gF g 1 7 + 1 then g else sF g 1 7 (gF g 1 7 + 1)) = _
  rw [h3, h8, nI_1, if_neg (nI_ge (by omega) (by omega))]
theorem Cur.next {o : Ob} {g : GS} {b : Nat} (ho : ObOK o) (h : Cur o g b) (hb : b < oN o) : NXOK g ∧ Cur o (nxG g) (oNxt o b) := by
  obtain ⟨h0, ⟨pos, m, i, hP⟩, hF⟩ := h
  obtain ⟨e, hi⟩ := Cur.nxA hP hb
  obtain ⟨h1, h2, h3, h4, h5, h6, h7, h8⟩ := hP
  have hE := h6 (i + 1) hi
  have e2 : nxG g = nxB (sF g 1 7 (nI (i + 1))) (i + 1) := by
    unfold nxG
    rw [e]
    show nxB _ (nI (i + 1)).toNatClampNeg = _
    rw [nI_clamp (by omega)]
  have hp : pos (i + 1) = oNxt o b := by rw [(h5 i hi).2, h7]
  refine ⟨⟨i + 1, oWrd o (pos (i + 1)), by rw [e]; rfl, by omega, ho.2.2.2.1 _, hE.2.2.2⟩, ?_⟩
  rw [e2, ← hp]
  exact ⟨h0, ⟨pos, m, i + 1, h1, hi, h3, h4, h5, h6, rfl, rfl⟩, nxB_cur (g := sF g 1 7 (nI (i + 1))) hE⟩
theorem Cur.le {o : Ob} {g : GS} {b : Nat} (h : Cur o g b) : b ≤ oN o := by
  obtain ⟨-, ⟨pos, m, i, h1, h2, h3, h4, h5, h6, h7, h8⟩, -⟩ := h
  rcases Nat.lt_or_ge i m with h | h
  · have := (h5 i h).1; omega
  · have : i = m := by omega
    subst this
    omega
/-- a cursor is told by the tape's cells alone -/
theorem Cur.fr {o : Ob} {g g' : GS} {b : Nat} {f : Nat → Nat → Bool} {a : Nat → Bool} (h : Cur o g b) (hf : Fr f a g g') (h1 : ∀ k, f 1 k = false) (h3 : a 3 = false) (h4 : a 4 = false) (h5 : a 5 = false) (h6 : a 6 = false) : Cur o g' b := by
  obtain ⟨h0, ⟨pos, m, i, q1, q2, q3, q4, q5, q6, q7, q8⟩, c1, c2, c3, c4⟩ := h
  refine ⟨(hf.1 1 1 (h1 _)).trans h0, ⟨pos, m, i, q1, q2, (hf.1 1 6 (h1 _)).trans q3, q4, q5, fun q hq => ?_, q7, (hf.1 1 7 (h1 _)).trans q8⟩, (hf.1 1 8 (h1 _)).trans c1, (hf.1 1 9 (h1 _)).trans c2, (hf.1 1 10 (h1 _)).trans c3, (hf.2.2.2.1 1 11 (h1 _)).trans c4⟩
  have := q6 q hq
  unfold Ent
  rw [hf.2.1 3 h3, hf.2.1 4 h4, hf.2.1 5 h5, hf.2.2.2.2.1 6 h6]
  exact this
/-! findThings -/
theorem rPut_eq {n t q : Nat} {f : Nat → Int32} {x : Int32} (h : t < n) (hn : n < 2 ^ 31) : rPut n f (nI t) x q = if q = t then x else f q := by
  rw [rPut_in h hn]; rfl
theorem at_old {o : Ob} {g : GS} {t q p a b : Nat} (hT : gF g 1 6 = nI t) (ht : t ≤ 400) (hq : ¬ q = t) (h : Ent o g q p) : Ent o (atG g a b) q p := by
  refine ⟨?_, ?_, ?_, ?_⟩
  · show rPut 401 (gA g 3) (gF g 1 6) (nI a) q = _
    rw [hT, rPut_eq (by omega) (by decide), if_neg hq]; exact h.1
  · show rPut 401 (gA g 4) (gF g 1 6) _ q = _
    rw [hT, rPut_eq (by omega) (by decide), if_neg hq]; exact h.2.1
  · show rPut 401 (gA g 5) (gF g 1 6) _ q = _
    rw [hT, rPut_eq (by omega) (by decide), if_neg hq]; exact h.2.2.1
  · rw [at_P, hT, nI_clamp (by omega)]
    unfold va_up
    rw [if_neg hq]; exact h.2.2.2
theorem at_new {o : Ob} {g : GS} {t p a b : Nat} (hT : gF g 1 6 = nI t) (ht : t ≤ 400) (h1 : nI a = nI p) (h2 : atV (at1 g a) (atF g a b) a b = oNum o p) (h3 : atS (atF g a b) = oSgn o p) (h4 : atW (at3 (at2 (at1 g a) (atV (at1 g a) (atF g a b) a b)) (atS (atF g a b))) (atF g a b) a b = oWrd o p) : Ent o (atG g a b) t p := by
  refine ⟨?_, ?_, ?_, ?_⟩
  · show rPut 401 (gA g 3) (gF g 1 6) (nI a) t = _
    rw [hT, rPut_eq (by omega) (by decide), if_pos rfl]; exact h1
  · show rPut 401 (gA g 4) (gF g 1 6) (atV (at1 g a) (atF g a b) a b) t = _
    rw [hT, rPut_eq (by omega) (by decide), if_pos rfl]; exact h2
  · show rPut 401 (gA g 5) (gF g 1 6) (atS (atF g a b)) t = _
    rw [hT, rPut_eq (by omega) (by decide), if_pos rfl]; exact h3
  · rw [at_P, hT, nI_clamp (by omega)]
    unfold va_up
    rw [if_pos rfl, h4]
theorem at_thing {g : GS} {n t a : Nat} (hn : gF g 1 1 = nI n) (hn4 : n ≤ 400) (hT : gF g 1 6 = nI t) (ht : t ≤ 400) (ha : a < n) : Ent (obT n (gA g 2)) (atG g a (eot g a)) t a := by
  have he := teN_le n (gA g 2) a ha
  rw [eot_teN hn hn4 ha]
  have hf : atF g a (teN n (gA g 2) a) = gA g 2 a := by
    unfold atF
    rw [if_neg (nI_ge he.1 (by omega)), bt_in (by omega)]
  refine at_new hT ht rfl ?_ ?_ ?_
  · rw [hf]
    show atV (at1 g a) (gA g 2 a) a _ = obNum n (gA g 2) a
    unfold atV obNum
    cases hd : isD (gA g 2 a) with
    | false => rw [if_pos (by rfl), if_neg (fun z => by cases z.2.1)]
    | true =>
      rw [if_neg (by decide), nI_sub (by omega)]
      by_cases h4 : teN n (gA g 2) a - a ≤ 4
      · rw [if_neg (show ¬ (4 : Int32) < nI (teN n (gA g 2) a - a) from nI_nlt (a := 4) h4 (by decide)), if_pos ⟨ha, rfl, h4⟩, noR_nuN _ _ _ _ (by omega)]
        rfl
      · rw [if_pos (show (4 : Int32) < nI (teN n (gA g 2) a - a) from nI_lt (a := 4) (by omega) (by omega)), if_neg (fun z => h4 z.2.2)]
  · rw [hf]
    show atS _ = obSgn n (gA g 2) a
    unfold atS obSgn
    cases hd : isD (gA g 2 a) with
    | true => rw [if_pos (by decide), if_neg (fun z => by cases z.2.1)]
    | false =>
      rw [if_neg (by decide)]
      cases hl : isL (gA g 2 a) with
      | true => rw [if_neg (by decide), if_neg (fun z => by cases z.2.2)]
      | false => rw [if_pos (by rfl), if_pos ⟨ha, rfl, rfl⟩]
  · rw [hf]
    show atW _ _ a _ = obWrd n (gA g 2) a
    unfold atW obWrd
    cases hl : isL (gA g 2 a) with
    | false => rw [if_pos (by rfl), if_neg (fun z => by cases z.2)]
    | true =>
      rw [if_neg (by decide), if_pos ⟨ha, rfl⟩]
      exact ofR_fwN (g := at3 (at2 (at1 g a) (atV (at1 g a) (gA g 2 a) a (teN n (gA g 2) a))) (atS (gA g 2 a))) hn4 (by omega) he.2 rfl 23 0
theorem at_last {g : GS} {n t : Nat} (hT : gF g 1 6 = nI t) (ht : t ≤ 400) : Ent (obT n (gA g 2)) (atG g n n) t n := by
  have hf : atF g n n = 0 := if_pos le_self_nI
  have e1 : obNum n (gA g 2) n = -1 := if_neg (fun z => absurd z.1 (Nat.lt_irrefl _))
  have e2 : obSgn n (gA g 2) n = 0 := if_neg (fun z => absurd z.1 (Nat.lt_irrefl _))
  have e3 : obWrd n (gA g 2) n = 0 := if_neg (fun z => absurd z.1 (Nat.lt_irrefl _))
  refine at_new hT ht rfl ?_ ?_ ?_
  · rw [hf]; exact e1.symm
  · rw [hf]; exact e2.symm
  · rw [hf]; exact e3.symm
def fT (c k : Nat) : Bool := Nat.beq c 1 && Nat.ble 6 k
def aT (c : Nat) : Bool := Nat.ble 3 c && Nat.ble c 6
theorem at_fr (g : GS) (a b : Nat) : Fr fT aT g (atG g a b) := by
  refine Fr.sF ?_ rfl
  refine Fr.sP ?_ rfl
  refine Fr.sA ?_ rfl
  refine Fr.sA ?_ rfl
  exact Fr.rf.sA rfl
def tkP (n : Nat) (B : Nat → Int32) : Nat → Nat
  | 0 => sk n B 0
  | k + 1 => obNxt n B (tkP n B k)
def FI (n : Nat) (B : Nat → Int32) (g : GS) (t : Nat) : Prop := gF g 1 1 = nI n ∧ gA g 2 = B ∧ gF g 1 6 = nI t ∧ ∀ q, q < t → tkP n B q < n ∧ Ent (obT n B) g q (tkP n B q)
theorem ftR_ok {n : Nat} {B : Nat → Int32} (hn4 : n ≤ 400) : ∀ (k i t : Nat) (g : GS), i ≤ n → n ≤ i + k → t + (n - i) ≤ 400 → FI n B g t → sk n B i = tkP n B t → ∃ t', t' ≤ 400 ∧ FI n B (ftR k i g) t' ∧ tkP n B t' = n ∧ Fr fT aT g (ftR k i g)
  | 0, i, t, g, hi, hk, ht, hF, hs => by
    have : i = n := by omega
    subst this
    exact ⟨t, by omega, hF, by rw [← hs]; exact sk_end, Fr.rf⟩
  | k + 1, i, t, g, hi, hk, ht, hF, hs => by
    unfold ftR
    have hF' := hF
    obtain ⟨h1, h2, h3, h4⟩ := hF'
    by_cases hin : i < n
    · rw [if_neg (by rw [h1]; exact nI_ge hin (by omega)), bt_in (by omega), h2]
      by_cases hb : B i = 32
      · rw [if_neg (fun z => z hb)]
        exact ftR_ok hn4 k (i + 1) t g (by omega) (by omega) (by omega) hF (by rw [← sk_blank hn4 hin hb]; exact hs)
      · rw [if_pos hb]
        have e := sk_thing hin hb
        have he := eot_teN h1 hn4 hin
        rw [h2] at he
        have hte := teN_le n B i hin
        have hN : FI n B (atG g i (eot g i)) (t + 1) := by
          refine ⟨h1, h2, by rw [at_F6, h3, nI_1], fun q hq => ?_⟩
          by_cases hqt : q = t
          · subst hqt
            rw [← hs, e]
            refine ⟨hin, ?_⟩
            have := at_thing h1 hn4 h3 (by omega) hin
            rw [h2] at this
            exact this
          · exact ⟨(h4 q (by omega)).1, at_old h3 (by omega) hqt (h4 q (by omega)).2⟩
        obtain ⟨t', q1, q2, q3, q4⟩ := ftR_ok hn4 k (eot g i) (t + 1) (atG g i (eot g i)) (by omega) (by omega) (by omega) hN (by
          show _ = obNxt n B (tkP n B t)
          rw [← hs, e, he]; rfl)
        exact ⟨t', q1, q2, q3, (at_fr g i (eot g i)).tr q4⟩
    · rw [if_pos (by rw [h1]; exact nI_le (by omega) (by omega))]
      have : i = n := by omega
      subst this
      exact ⟨t, by omega, hF, by rw [← hs]; exact sk_end, Fr.rf⟩
theorem ftG_ok {g : GS} {n : Nat} (hn : gF g 1 1 = nI n) (hn4 : n ≤ 400) : Cur (obT n (gA g 2)) (ftG n g) (sk n (gA g 2) 0) ∧ Fr fT aT g (ftG n g) := by
  obtain ⟨t, h1, h2, h3, h4⟩ := ftR_ok (n := n) (B := gA g 2) hn4 400 0 0 (sF g 1 6 0) (by omega) (by omega) (by omega) ⟨hn, rfl, rfl, fun q hq => absurd hq (by omega)⟩ rfl
  have h5 : Fr fT aT g (ftR 400 0 (sF g 1 6 0)) := (Fr.rf.sF rfl).tr h4
  generalize hG : ftR 400 0 (sF g 1 6 0) = G at *
  obtain ⟨k1, k2, k3, k4⟩ := h2
  have h6 : Fr fT aT g (sF (atG G n n) 1 7 (-1)) := (h5.tr (at_fr G n n)).sF rfl
  have hE : ∀ q, q ≤ t → Ent (obT n (gA g 2)) (atG G n n) q (tkP n (gA g 2) q) := by
    intro q hq
    by_cases hqt : q = t
    · subst hqt
      have := at_last (n := n) k3 h1
      rw [k2] at this
      rw [h3]; exact this
    · exact at_old k3 h1 hqt (k4 q (by omega)).2
  have e : ftG n g = nxB (sF (sF (atG G n n) 1 7 (-1)) 1 7 0) 0 := by
    show ftE n (ftR 400 0 (sF g 1 6 0)) = _
    rw [hG]
    have eA : nxA (sF (atG G n n) 1 7 (-1)) = sF (sF (atG G n n) 1 7 (-1)) 1 7 0 := by
      show (if gF (atG G n n) 1 6 ≤ (-1 : Int32) + 1 then _ else _) = _
      rw [at_F6, k3, nI_1, if_neg]
      · show sF _ 1 7 (gF (sF (atG G n n) 1 7 (-1)) 1 7 + 1) = _
        rw [show gF (sF (atG G n n) 1 7 (-1)) 1 7 + 1 = 0 from (by decide : (-1 : Int32) + 1 = 0)]
      · show ¬ nI (t + 1) ≤ nI 0
        exact nI_ge (by omega) (by omega)
    show nxG (sF (atG G n n) 1 7 (-1)) = _
    unfold nxG
    rw [eA]
    rfl
  constructor
  · rw [e]
    refine ⟨k1, ⟨tkP n (gA g 2), t, 0, h1, Nat.zero_le _, by show gF (atG G n n) 1 6 = _; rw [at_F6, k3, nI_1], h3, fun q hq => ⟨(k4 q hq).1, rfl⟩, fun q hq => hE q hq, rfl, rfl⟩, ?_⟩
    exact nxB_cur (g := sF (sF (atG G n n) 1 7 (-1)) 1 7 0) (hE 0 (Nat.zero_le _))
  · have h7 : Fr fN aN (sF (atG G n n) 1 7 (-1)) (ftG n g) := by
      rw [← hG]
      exact nx_fr (sF (atG (ftR 400 0 (sF g 1 6 0)) n n) 1 7 (-1))
    exact h6.tr (Fr.mono (f' := fT) (a' := aT) h7 (fun c k h => by
      unfold fT at h
      unfold fN
      cases hb : Nat.beq c 1 with
      | false => rfl
      | true =>
        rw [hb] at h
        cases hk : Nat.ble 7 k with
        | false => rfl
        | true =>
          have : 7 ≤ k := Nat.le_of_ble_eq_true hk
          rw [show Nat.ble 6 k = true from Nat.ble_eq_true_of_le (by omega)] at h
          cases h) (fun _ _ => rfl))
