/-! a call, answered alike: what is asked for -/
theorem r54 (n : Nat) : nI (5 + n) - 1 = nI (4 + n) := (nIs (a := 5 + n) (b := 1) (by omega) rfl (nIc 1)).trans (by rw [show 5 + n - 1 = 4 + n by omega])
theorem le_lt1 {n : Nat} (hn : n + 1 < 2 ^ 31) (s : Int32) : nI (n + 1) ≤ s ↔ nI n < s := by
  rw [Int32.le_iff_toInt_le, Int32.lt_iff_toInt_lt, nI_toInt (by omega), nI_toInt (by omega)]; omega
theorem if3 {p q p' q' : Prop} [Decidable p] [Decidable q] [Decidable p'] [Decidable q'] (h1 : p ↔ p') (h2 : q ↔ q') : (if p then false else if q then false else true) = (if p' then false else if q' then false else true) := by
  by_cases a : p
  · rw [if_pos a, if_pos (h1.mp a)]
  · rw [if_neg a, if_neg (fun z => a (h1.mpr z))]
    by_cases b : q
    · rw [if_pos b, if_pos (h2.mp b)]
    · rw [if_neg b, if_neg (fun z => b (h2.mpr z))]
theorem c_st (s : Int32) : fSt s = fIn s 0 31 := if3 Iff.rfl (le_lt1 (n := 31) (by omega) s)
theorem c_zo (s : Int32) : fZo s = fIn s 0 7 := if3 Iff.rfl (le_lt1 (n := 7) (by omega) s)
theorem c_ba (j b : Int32) : fBa j b = fMb j b := by unfold fBa fMb; rw [c_st]
theorem c_wi (n l : Int32) : fWi n l = fIn n 0 l := rfl
theorem c_so {g : GS} {W : Nat → Int32} {gl : List TxL} {rl : Nat → List TxL} (hb : BkQ g W) (h : WR W gl rl) (s : Int32) : fSo g s = wMs W s := by
  obtain ⟨h1, h2⟩ := h.1.2.2.2.2.2.1
  unfold fSo wMs fIn
  rw [hb.2.2.2.2.2.2.1, h2]
  by_cases z : mN W = 0
  · rw [z]
    by_cases c : s < 0
    · rw [if_pos c, if_pos c]
    · rw [if_neg c, if_neg c, if_pos (show nI 0 ≤ s from by
        have := Int32.le_iff_toInt_le.mp (nlt_le c)
        exact Int32.le_iff_toInt_le.mpr this), if_pos (show nI 0 - 1 < s from by
        have := Int32.le_iff_toInt_le.mp (nlt_le c)
        rw [show (0 : Int32).toInt = 0 from rfl] at this
        apply Int32.lt_iff_toInt_lt.mpr
        rw [show (nI 0 - 1).toInt = -1 from rfl]; omega)]
  · refine if3 Iff.rfl ?_
    rw [show nI (mN W) - 1 = nI (mN W - 1) from nIs (by omega) rfl (nIc 1), ← le_lt1 (n := mN W - 1) (by omega) s, show mN W - 1 + 1 = mN W by omega]
theorem c_ju {g : GS} {W : Nat → Int32} {gl : List TxL} {rl : Nat → List TxL} (hb : BkQ g W) (h : WR W gl rl) (j : Int32) : fJu g j = wMj W j := by
  obtain ⟨h1, h2⟩ := h.1.2.2.2.2.2.2.2.2.2.2.2.1
  unfold fJu wMj fIn
  rw [hb.2.2.2.2.2.1, h2]
  refine if3 Iff.rfl ?_
  rw [show (5 : Int32) + nI (mR W) = nI (5 + mR W) from nIa (nIc 5) rfl, r54, ← le_lt1 (n := 4 + mR W) (by omega) j, show 4 + mR W + 1 = 5 + mR W by omega]
theorem c_fo {g : GS} {W : Nat → Int32} {gl : List TxL} {rl : Nat → List TxL} (hb : BkQ g W) (h : WR W gl rl) (s z : Int32) : fFo g s z = (wMs W s && fIn z 0 7) := by unfold fFo; rw [c_so hb h, c_zo]
/-- the judge that is named -/
theorem Rel.jd {g : GS} {gl : List TxL} {rl : Nat → List TxL} (h : WR (gA g 64) gl rl) (hb : BkR g (gA g 64) gl rl) (j : Int32) : ∃ q2, fJu g j = true → JAt g j q2 ∧ JdQ q2 rl j ∧ jdOK (gA g 64) j := by
  by_cases c : fJu g j = true
  · have c' : wMj (gA g 64) j = true := by rw [← c_ju hb.1 h]; exact c
    have hok := wMj_ok h.2.2.1 c'
    obtain ⟨r1, r2⟩ := h.1.2.2.2.2.2.2.2.2.2.2.2.1
    unfold wMj at c'
    rw [r2, show (5 : Int32) + nI (mR (gA g 64)) = nI (5 + mR (gA g 64)) from nIa (nIc 5) rfl, r54] at c'
    obtain ⟨q, q1, q2⟩ := fIn_nat (by omega) c'
    subst q2
    rcases Nat.lt_or_ge q 5 with x | x
    · exact ⟨none, fun _ => ⟨(show nI q < nI 5 from nI_lt x (by omega)), Or.inl ⟨rfl, q, x, rfl⟩, hok⟩⟩
    · obtain ⟨c1, cd, p1, p2, p3⟩ := hb.2.2.1 (q - 5) (by omega)
      refine ⟨some cd, fun _ => ⟨⟨fun z => ?_, q - 5, c1, by omega, nIs x rfl (nIc 5), p1, p2⟩, Or.inr ⟨cd, q - 5, rfl, by omega, by rw [show 5 + (q - 5) = q by omega], p3⟩, hok⟩⟩
      have := Int32.lt_iff_toInt_lt.mp z
      rw [nI_toInt (by omega), show (5 : Int32).toInt = 5 from rfl] at this; omega
  · exact ⟨none, fun z => absurd z c⟩
/-! what is thrown -/
def fxS (E : List String) (l : List (Bool × Nat)) : List (Bool × String) := l.map (fun p => (p.1, E.getD p.2 ""))
def fxN : List (Bool × Nat) → Option Nat
  | [] => none
  | (b, i) :: t => bif b then fxN t else some i
theorem FX_N {E : List String} {P : Res → List ME → Prop} {g : GS} : ∀ (l : List (Bool × Nat)) {r : Res} {es : List ME}, FX (fxS E l) P g r es → (fxN l = none ∧ P r es) ∨ ∃ i, fxN l = some i ∧ (∃ p, p ∈ l ∧ p.2 = i) ∧ r = .inr (E.getD i "") ∧ es = Wd g
  | [], r, es, h => Or.inl ⟨rfl, h⟩
  | (b, i) :: t, r, es, h => by
    rcases h with ⟨h1, h2, h3⟩ | ⟨h1, h2⟩
    · exact Or.inr ⟨i, by show (bif b then fxN t else some i) = some i; rw [show b = false from h1]; rfl, ⟨(b, i), List.mem_cons_self, rfl⟩, h2, h3⟩
    · have e : fxN ((b, i) :: t) = fxN t := by show (bif b then fxN t else some i) = fxN t; rw [show b = true from h1]; rfl
      rw [e]
      rcases FX_N t h2 with x | ⟨j, x1, ⟨p, x2, x3⟩, x4⟩
      · exact Or.inl x
      · exact Or.inr ⟨j, x1, ⟨p, List.mem_cons_of_mem _ x2, x3⟩, x4⟩
/-- what a call came to: it returned (0), or threw what stands at a place of E -/
def PLl (E : List String) (C : Int32 → Int64 → GS → Prop) : Res → List ME → Prop := fun r es => ∃ k v g1, es = Wd g1 ∧ C k v g1 ∧ ((k = 0 ∧ r = .inl (some (.long v))) ∨ ∃ i, i < E.length ∧ k = nI (i + 1) ∧ r = .inr (E.getD i ""))
def PLi (E : List String) (C : Int32 → Int32 → GS → Prop) : Res → List ME → Prop := fun r es => ∃ k v g1, es = Wd g1 ∧ C k v g1 ∧ ((k = 0 ∧ r = .inl (some (.int v))) ∨ ∃ i, i < E.length ∧ k = nI (i + 1) ∧ r = .inr (E.getD i ""))
def PLv (E : List String) (C : Int32 → GS → Prop) : Res → List ME → Prop := fun r es => ∃ k g1, es = Wd g1 ∧ C k g1 ∧ ((k = 0 ∧ r = .inl none) ∨ ∃ i, i < E.length ∧ k = nI (i + 1) ∧ r = .inr (E.getD i ""))
def AlL (K : Nat) (k : Int32) (v : Int64) (w : Nat → Int64) : Int64 → GS → Prop := fun x g2 => gF g2 63 0 = k ∧ (k = 0 → v = x) ∧ Rel K g2 ∧ gB g2 82 = w
def AlI (K : Nat) (k : Int32) (v : Int32) (w : Nat → Int64) : Int32 → GS → Prop := fun x g2 => gF g2 63 0 = k ∧ (k = 0 → v = x) ∧ Rel K g2 ∧ gB g2 82 = w
def AlV (K : Nat) (k : Int32) : GS → Prop := fun g2 => gF g2 63 0 = k ∧ Rel K g2
theorem ne_i {i : Nat} (h : i < 100) : ¬ nI (i + 1) = 0 := fun z => by
  have := congrArg Int32.toInt z
  rw [nI_toInt (by omega), Int32.toInt_zero] at this; omega
theorem al_code {ms : List (Bool × Int32)} {l : List (Bool × Nat)} (h : mxC ms = (fxN l).map (fun i => nI (i + 1))) {i : Nat} (hi : fxN l = some i) : mxC ms = some (nI (i + 1)) := by rw [h, hi]; rfl
theorem al_none {ms : List (Bool × Int32)} {l : List (Bool × Nat)} (h : mxC ms = (fxN l).map (fun i => nI (i + 1))) (hi : fxN l = none) : mxC ms = none := by rw [h, hi]; rfl
theorem al_thr {K : Nat} {g g2 : GS} {w : Nat → Int64} (h : Rel K g) {c : Int32} (e : g2 = sF (sF (sB g 82 w) 63 0 0) 63 0 c) : gF g2 63 0 = c ∧ Rel K g2 ∧ gB g2 82 = w := by
  subst e
  exact ⟨rfl, h.fr (((sb_rl Fr.rf w).sF rfl).sF rfl) h.2.1, rfl⟩
theorem al_l {K : Nat} {g g1 : GS} {M M' : MI} {R R' : Room} {args args' : List Value} {E : List String} {l : List (Bool × Nat)} {v xv : Int64} {ms : List (Bool × Int32)} (h : Rel K g) (hc : Ct M R args (Wd g) (FX (fxS E l) (RR (.inl (some (.long v))) g1) g)) (hlen : ∀ p, p ∈ l → p.2 < E.length) (hE : E.length < 100) (hm : ∀ g', gA g' 64 = gA g 64 → Ct M' R' args' (Wd g') (PQl g' ms (fun x g2 => x = xv ∧ QF g' g2))) (hcode : mxC ms = (fxN l).map (fun i => nI (i + 1))) (hv : fxN l = none → v = xv ∧ Z0 g1) (hk : KF g g1) :
    Ct M R args (Wd g) (PLl E (fun k v g1 => ∀ w, Ct M' R' args' (Wd (sB g1 82 w)) (RXl (AlL K k v w)))) := by
  refine hc.imp (fun r es hq => ?_)
  rcases FX_N l hq with ⟨e, hr, hes⟩ | ⟨i, e, ⟨p, p1, p2⟩, hr, hes⟩
  · refine ⟨0, v, g1, hes, fun w => (hm (sB g1 82 w) (hk.2.1 64 rfl)).imp (fun r' es' hq' => ?_), Or.inl ⟨rfl, hr⟩⟩
    obtain ⟨x, g2, y1, y2, y3⟩ := hq'
    refine ⟨x, g2, y1, y2, ?_⟩
    rcases y3 with ⟨c, z1, -⟩ | ⟨-, z1, z2⟩
    · rw [al_none hcode e] at z1; cases z1
    · obtain ⟨u1, u2⟩ := hv e
      exact ⟨z2.2, fun _ => u1.trans z1.symm, h.fr ((sb_rl (kf_rl hk) w).tr (qf_rl z2.1)) ((u2.sB 82 w).fq z2.1), z2.1.2.2.1 82 rfl⟩
  · refine ⟨nI (i + 1), v, g, hes, fun w => (hm (sB g 82 w) rfl).imp (fun r' es' hq' => ?_), Or.inr ⟨i, by rw [← p2]; exact hlen p p1, rfl, hr⟩⟩
    obtain ⟨x, g2, y1, y2, y3⟩ := hq'
    refine ⟨x, g2, y1, y2, ?_⟩
    have hi : i < E.length := by rw [← p2]; exact hlen p p1
    rcases y3 with ⟨c, z1, z2, z3⟩ | ⟨z1, -⟩
    · rw [al_code hcode e] at z1
      cases z1
      obtain ⟨u1, u2, u3⟩ := al_thr h z3
      exact ⟨u1, fun z => absurd z (ne_i (by omega)), u2, u3⟩
    · rw [al_code hcode e] at z1; cases z1
theorem al_i {K : Nat} {g g1 : GS} {M M' : MI} {R R' : Room} {args args' : List Value} {E : List String} {l : List (Bool × Nat)} {v xv : Int32} {ms : List (Bool × Int32)} (h : Rel K g) (hc : Ct M R args (Wd g) (FX (fxS E l) (RR (.inl (some (.int v))) g1) g)) (hlen : ∀ p, p ∈ l → p.2 < E.length) (hE : E.length < 100) (hm : ∀ g', gA g' 64 = gA g 64 → Ct M' R' args' (Wd g') (PQi g' ms (fun x g2 => x = xv ∧ QF g' g2))) (hcode : mxC ms = (fxN l).map (fun i => nI (i + 1))) (hv : fxN l = none → v = xv ∧ Z0 g1) (hk : KF g g1) :
    Ct M R args (Wd g) (PLi E (fun k v g1 => ∀ w, Ct M' R' args' (Wd (sB g1 82 w)) (RXi (AlI K k v w)))) := by
  refine hc.imp (fun r es hq => ?_)
  rcases FX_N l hq with ⟨e, hr, hes⟩ | ⟨i, e, ⟨p, p1, p2⟩, hr, hes⟩
  · refine ⟨0, v, g1, hes, fun w => (hm (sB g1 82 w) (hk.2.1 64 rfl)).imp (fun r' es' hq' => ?_), Or.inl ⟨rfl, hr⟩⟩
    obtain ⟨x, g2, y1, y2, y3⟩ := hq'
    refine ⟨x, g2, y1, y2, ?_⟩
    rcases y3 with ⟨c, z1, -⟩ | ⟨-, z1, z2⟩
    · rw [al_none hcode e] at z1; cases z1
    · obtain ⟨u1, u2⟩ := hv e
      exact ⟨z2.2, fun _ => u1.trans z1.symm, h.fr ((sb_rl (kf_rl hk) w).tr (qf_rl z2.1)) ((u2.sB 82 w).fq z2.1), z2.1.2.2.1 82 rfl⟩
  · refine ⟨nI (i + 1), v, g, hes, fun w => (hm (sB g 82 w) rfl).imp (fun r' es' hq' => ?_), Or.inr ⟨i, by rw [← p2]; exact hlen p p1, rfl, hr⟩⟩
    obtain ⟨x, g2, y1, y2, y3⟩ := hq'
    refine ⟨x, g2, y1, y2, ?_⟩
    have hi : i < E.length := by rw [← p2]; exact hlen p p1
    rcases y3 with ⟨c, z1, z2, z3⟩ | ⟨z1, -⟩
    · rw [al_code hcode e] at z1
      cases z1
      obtain ⟨u1, u2, u3⟩ := al_thr h z3
      exact ⟨u1, fun z => absurd z (ne_i (by omega)), u2, u3⟩
    · rw [al_code hcode e] at z1; cases z1
