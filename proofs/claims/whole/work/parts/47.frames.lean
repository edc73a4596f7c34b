/-! what reckoning leaves as it was: all but cells 40 to 62 -/
def fK (c _ : Nat) : Bool := Nat.ble 40 c && Nat.ble c 62
def aK (c : Nat) : Bool := Nat.ble 40 c && Nat.ble c 62
abbrev KF (g g' : GS) : Prop := Fr fK aK g g'
theorem fr_itP {α : Type} {f : Nat → Nat → Bool} {a : Nat → Bool} {g : GS} {S : Nat → GS × α → GS × α} {q : GS × α} (h : Fr f a g q.1) (hs : ∀ i q, Fr f a g q.1 → Fr f a g (S i q).1) : ∀ n, Fr f a g (itN S n q).1
  | 0 => h
  | n + 1 => hs n _ (fr_itP h hs n)
theorem fr_itQ {α : Type} {f : Nat → Nat → Bool} {a : Nat → Bool} {g : GS} {S : Nat → α × GS → α × GS} {q : α × GS} (h : Fr f a g q.2) (hs : ∀ i q, Fr f a g q.2 → Fr f a g (S i q).2) : ∀ n, Fr f a g (itN S n q).2
  | 0 => h
  | n + 1 => hs n _ (fr_itQ h hs n)
theorem Fr.ite {f : Nat → Nat → Bool} {a : Nat → Bool} {g x y : GS} {c : Prop} [Decidable c] (hx : Fr f a g x) (hy : Fr f a g y) : Fr f a g (if c then x else y) := by
  by_cases h : c
  · rw [if_pos h]; exact hx
  · rw [if_neg h]; exact hy
theorem kf_fput {g0 g : GS} (h : KF g0 g) (i x : Int32) : KF g0 (fput g i x) := h.sA rfl
theorem kf_gw {g0 g : GS} (h : KF g0 g) (m : Int32) (q : Option CD) : KF g0 (gwG g m q) := by
  have h1 : KF g0 (gwG0 g m) := kf_fput (kf_fput (kf_fput h _ _) _ _) _ _
  cases q with
  | none => exact h1
  | some cd => exact h1.sA rfl
theorem kf_wr {g0 g : GS} (h : KF g0 g) : KF g0 (wrAll g) := by
  have h1 : KF g0 (itN wrS 32 (g, (0 : Int32))).1 := fr_itP (q := (g, 0)) h (fun s q hq => by
    have h2 : KF g0 (wrS0 s q).1 := hq.sA rfl
    have h3 : KF g0 (itN (wrStep s) 32 (wrS0 s q)).1 := fr_itP h2 (fun o q hq => by
      unfold wrStep
      split
      · exact hq
      · exact (hq.sA rfl).sA rfl) 32
    exact ((h3.sA rfl).sA rfl).sA rfl) 32
  exact h1.sA rfl
theorem kf_op1 {g0 g : GS} (h : KF g0 g) (m : Int32) (q : Option CD) : KF g0 (op1 g m q) := (kf_gw h m q).sF rfl
theorem kf_open {g0 g : GS} (h : KF g0 g) (m : Int32) (T : Nat) (q : Option CD) : KF g0 (opAll g m T q) :=
  Fr.itN (kf_wr ((kf_op1 h m q).sF rfl)) (fun _ _ hG => Fr.itN hG (fun _ _ hG => hG.sA rfl) 32) T
theorem kf_dc {g0 g : GS} (h : KF g0 g) (j s : Int32) (q : Option CD) : KF g0 (dcAll g j s q) := by
  have h1 : KF g0 (dcG g j s q) := by
    cases q with
    | none => exact h
    | some cd => exact (kf_fput (kf_fput (kf_fput h _ _) _ _) _ _).sA rfl
  exact (h1.sA rfl).sA rfl
theorem kf_lyD {g0 : GS} (q : Option CD) : ∀ (G : Nat) {g : GS}, KF g0 g → KF g0 (lyD q G g)
  | 0, g, h => Fr.itN h (fun _ _ hG => kf_dc hG _ _ _) 32
  | j + 1, g, h => kf_lyD q j (Fr.itN h (fun _ _ hG => kf_dc hG _ _ _) 32)
theorem kf_ly {g0 g : GS} (h : KF g0 g) (so z card : Int32) (q : Option CD) (G : Nat) : KF g0 (lyAll g so z card q G) :=
  kf_lyD q G (kf_fput (kf_fput ((h.sF rfl).sF rfl) _ _) _ _)
theorem kf_pyG {g0 g : GS} (h : KF g0 g) (q : Option CD) (G : Nat) (so card sts : Int32) (s : Nat) : KF g0 (pyG q G so card sts s g) := by
  unfold pyG
  exact Fr.ite h (Fr.ite h (kf_ly h _ _ _ _ _))
theorem kf_py {g0 g : GS} (h : KF g0 g) (q : Option CD) (G : Nat) (so card sts : Int32) : KF g0 (pyAll q G so card sts g).2 :=
  fr_itQ (q := ((0 : Int32), g)) h (fun s p hp => kf_pyG hp q G so card sts s) 32
theorem kf_lb {g0 g : GS} (h : KF g0 g) : KF g0 (lbAll g) := Fr.itN (h.sA rfl) (fun _ _ hG => (hG.sA rfl).sA rfl) 192
theorem kf_lw {g0 g : GS} (h : KF g0 g) (so st : Int32) (q : Option CD) (G : Nat) : KF g0 (lwG g so st q G) := by
  have h1 : KF g0 (lwY g so st q G) := kf_ly h _ _ _ _ _
  unfold lwG
  exact Fr.ite (Fr.ite (Fr.ite (h1.sA rfl) (h1.sA rfl)) h) h
theorem kf_ak {g0 g : GS} (h : KF g0 g) (w : Int32) (T : Nat) : KF g0 (akAll g w T) := by
  have h1 : KF g0 (ak3 (ak2 (ak1 g w) w) w) := ((h.sF rfl).sF rfl).sF rfl
  exact Fr.itN h1 (fun _ _ hG => Fr.itN hG (fun _ _ hG => hG.sA rfl) 32) T
theorem kf_sh {g0 : GS} : ∀ (G : Nat) {g : GS}, KF g0 g → KF g0 (shD G g)
  | 0, g, h => Fr.itN h (fun _ _ hG => hG.sA rfl) 32
  | j + 1, g, h => kf_sh j (Fr.itN h (fun _ _ hG => hG.sA rfl) 32)
theorem kf_pl {g0 : GS} : ∀ (k n : Nat) (st wt : Int32) {g : GS}, KF g0 g → KF g0 (plR k n st wt g)
  | 0, _, _, _, g, h => h
  | k + 1, n, st, wt, g, h => by
    have h1 : KF g0 (sF g 58 9 (nI n)) := h.sF rfl
    have h2 : KF g0 (cdrG (sF g 58 9 (nI n))) := h1.sF rfl
    unfold plR
    exact Fr.ite (Fr.ite (Fr.ite (kf_pl k _ _ _ h2) ((h2.sF rfl).sF rfl)) h1) (h1.sF rfl)
theorem kf_wos {g0 g : GS} (h : KF g0 g) (q : Option CD) (G : Nat) (so fst : Int32) : KF g0 (wosR q G so fst g).2 :=
  fr_itQ (q := ((0 : Int32), g)) h (fun s p hp => by
    have h1 : KF g0 (wosY q G so s p.2) := by
      unfold wosY
      exact Fr.ite hp (kf_ly hp _ _ _ _ _)
    exact h1.sA rfl) 32
theorem kf_wgJ {g0 g : GS} (h : KF g0 g) (cds : Nat → CD) (G : Nat) (bar so : Int32) (j : Nat) : KF g0 (wgJ cds G bar so j g) := by
  have h1 : KF g0 (wgS cds G bar so j g).1 := kf_wos ((h.sF rfl).sF rfl) _ _ _ _
  unfold wgJ
  exact Fr.ite ((h1.sF rfl).sF rfl) (Fr.ite h1 ((h1.sF rfl).sF rfl))
theorem kf_wg {g0 g : GS} (h : KF g0 g) (cds : Nat → CD) (G n : Nat) (bar so : Int32) : KF g0 (wgAll cds G n bar so g) :=
  Fr.itN (Fr.itN h (fun _ _ hG => kf_wgJ hG _ _ _ _ _) (5 + n)) (fun s G hG => by
    have h1 : KF g0 (wgb G s) := (hG.sF rfl).sF rfl
    unfold wgB
    exact Fr.ite h1 (Fr.ite hG h1)) 32
/-! the class's state, as the face finds it: goals, rules, judges -/
def JAt (g : GS) (j : Int32) : Option CD → Prop
  | none => j < 5
  | some cd => ¬ j < 5 ∧ ∃ (i c : Nat), i < 4 ∧ j - 5 = nI i ∧ gP g 29 i = some c ∧ CodeT (gT g) c cd
theorem KF.book {g g' : GS} (h : KF g g') {c : Nat} (k : Nat) (hc : c < 40) : gF g' c k = gF g c k := h.1 c k (by
  show (Nat.ble 40 c && _) = false
  rw [show Nat.ble 40 c = false from by cases hb : Nat.ble 40 c; rfl; exact absurd (Nat.le_of_ble_eq_true hb) (by omega)]
  rfl)
theorem KF.bookA {g g' : GS} (h : KF g g') {c : Nat} (hc : c < 40) : gA g' c = gA g c := h.2.1 c (by
  show (Nat.ble 40 c && _) = false
  rw [show Nat.ble 40 c = false from by cases hb : Nat.ble 40 c; rfl; exact absurd (Nat.le_of_ble_eq_true hb) (by omega)]
  rfl)
theorem KF.bookP {g g' : GS} (h : KF g g') {c : Nat} (hc : c < 40) : gP g' c = gP g c := h.2.2.2.2.1 c (by
  show (Nat.ble 40 c && _) = false
  rw [show Nat.ble 40 c = false from by cases hb : Nat.ble 40 c; rfl; exact absurd (Nat.le_of_ble_eq_true hb) (by omega)]
  rfl)
theorem KF.bookV {g g' : GS} (h : KF g g') {c : Nat} (k : Nat) (hc : c < 40) : gV g' c k = gV g c k := h.2.2.2.1 c k (by
  show (Nat.ble 40 c && _) = false
  rw [show Nat.ble 40 c = false from by cases hb : Nat.ble 40 c; rfl; exact absurd (Nat.le_of_ble_eq_true hb) (by omega)]
  rfl)
theorem KF.tail {g g' : GS} (h : KF g g') : gT g' = gT g := h.2.2.2.2.2
theorem bk_cn_KF {g g' : GS} (h : KF g g') (so : Int32) : bk_cn g' 20 so = bk_cn g 20 so := by
  unfold bk_cn bk_rs bk_rt
  rw [h.book 17 (by decide), h.bookA (c := 20 + 3) (by decide), h.bookA (c := 20 + 5) (by decide)]
theorem GoalsAt.kf {g g' : GS} {q : Option CD} (h : GoalsAt g q) (hk : KF g g') : GoalsAt g' q := by
  cases q with
  | none => exact (hk.book 8 (by decide)).trans h
  | some cd =>
    obtain ⟨h1, c, h2, h3⟩ := h
    exact ⟨by rw [hk.book 8 (by decide)]; exact h1, c, (hk.bookV 7 (by decide)).trans h2, by rw [hk.tail]; exact h3⟩
theorem JAt.kf {g g' : GS} {j : Int32} {q : Option CD} (h : JAt g j q) (hk : KF g g') : JAt g' j q := by
  cases q with
  | none => exact h
  | some cd =>
    obtain ⟨h1, i, c, h2, h3, h4, h5⟩ := h
    exact ⟨h1, i, c, h2, h3, by rw [hk.bookP (by decide)]; exact h4, by rw [hk.tail]; exact h5⟩
/-- seated, it is the judge of the bench -/
theorem JAt.seat {g : GS} {j : Int32} {q : Option CD} (h : JAt g j q) (b : Int32) : JudgeAt (sF (sF g 40 8 j) 40 9 b) q := by
  cases q with
  | none => exact h
  | some cd => exact h
theorem JAt.plain {g : GS} (a b : Int32) : JudgeAt (sF (sF (sF g 40 8 (-1)) 40 10 a) 40 11 b) none := (show (-1 : Int32) < 5 by decide)
theorem itN_F {S : Nat → GS → GS} {c k : Nat} (hs : ∀ i g, gF (S i g) c k = gF g c k) : ∀ n g, gF (itN S n g) c k = gF g c k
  | 0, g => rfl
  | n + 1, g => (hs n _).trans (itN_F hs n g)
theorem wr_F (g : GS) (c k : Nat) : gF (wrAll g) c k = gF g c k := by
  have h1 : ∀ (n : Nat) (q : GS × Int32), gF (itN wrS n q).1 c k = gF q.1 c k := by
    intro n q
    induction n with
    | zero => rfl
    | succ n ih =>
      have h3 : ∀ (m s : Nat) (q : GS × Int32), gF (itN (wrStep s) m q).1 c k = gF q.1 c k := by
        intro m s q
        induction m with
        | zero => rfl
        | succ m ih2 =>
          refine Eq.trans ?_ ih2
          show gF (wrStep s m (itN (wrStep s) m q)).1 c k = gF (itN (wrStep s) m q).1 c k
          generalize itN (wrStep s) m q = q1
          unfold wrStep
          split
          · rfl
          · rfl
      have e1 : ∀ X : GS × Int32, gF (wrS1 n X).1 c k = gF X.1 c k := fun _ => rfl
      have e2 : ∀ X : GS × Int32, gF (wrS0 n X).1 c k = gF X.1 c k := fun _ => rfl
      show gF (wrS n (itN wrS n q)).1 c k = _
      unfold wrS
      rw [e1, h3, e2]
      exact ih
  have e3 : ∀ X : GS × Int32, gF (wrEnd X) c k = gF X.1 c k := fun _ => rfl
  unfold wrAll
  rw [e3, h1]
/-- an opened bench keeps its grace from the Book -/
theorem op_grace (g : GS) (m : Int32) (T : Nat) (q : Option CD) : gF (opAll g m T q) 40 12 = gF g 20 12 := by
  have h1 : gF (opAll g m T q) 40 12 = gF (wrAll (op2 (op1 g m q))) 40 12 := itN_F (S := opT) (c := 40) (k := 12) (fun i g => itN_F (S := opS (i + 1)) (c := 40) (k := 12) (fun _ _ => rfl) 32 g) T (wrAll (op2 (op1 g m q)))
  rw [h1, wr_F]
  show gF (op1 g m q) 20 12 = _
  cases q <;> rfl
def stG (g : GS) (j b so z : Int32) (q q2 : Option CD) (T G : Nat) : GS :=
  lyAll (sF (sF (opAll g (gF g 20 14) T q) 40 8 j) 40 9 b) so z (bk_cn (sF (sF (opAll g (gF g 20 14) T q) 40 8 j) 40 9 b) 20 so) q2 G
theorem kf_st {g0 g : GS} (h : KF g0 g) (j b so z : Int32) (q q2 : Option CD) (T G : Nat) : KF g0 (stG g j b so z q q2 T G) :=
  kf_ly (((kf_open h _ _ _).sF rfl).sF rfl) _ _ _ _ _
/-- the class as the face finds it -/
def Cl (g : GS) (q : Option CD) (T G : Nat) : Prop := GoalsAt g q ∧ gF g 20 13 = nI T ∧ T ≤ 60 ∧ gF g 20 12 = nI G ∧ G ≤ 10
theorem Cl.kf {g g' : GS} {q : Option CD} {T G : Nat} (h : Cl g q T G) (hk : KF g g') : Cl g' q T G := ⟨h.1.kf hk, (hk.book 13 (by decide)).trans h.2.1, h.2.2.1, (hk.book 12 (by decide)).trans h.2.2.2.1, h.2.2.2.2⟩
theorem LayOK.st {g : GS} {j b : Int32} {q2 : Option CD} {G : Nat} (hg : gF g 40 12 = nI G) (hG : G ≤ 10) (h : JAt g j q2) : LayOK (sF (sF g 40 8 j) 40 9 b) q2 G := ⟨h.seat b, hg, hG⟩
theorem Cl.opened {g : GS} {q : Option CD} {T G : Nat} (h : Cl g q T G) (m : Int32) (T' : Nat) : gF (opAll g m T' q) 40 12 = nI G := by rw [op_grace]; exact h.2.2.2.1
