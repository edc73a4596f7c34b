
/-! the bench opened: letting on -/
def a50 (c : Nat) : Bool := Nat.beq c 50
def ORw (g : GS) (W : Nat → Int32) (gw : Int) (n : Nat) : Prop := ∀ t s, s < 32 → 32 * t + s < n → gA g 50 (32 * t + s) = zI (zLT W gw t s)
theorem ORw.put {g : GS} {W : Nat → Int32} {gw : Int} {t s : Nat} (h : ORw g W gw (32 * t + s)) (hs : s < 32) {v : Int32} (hv : v = zI (zLT W gw t s)) : ORw (sA g 50 (upd (gA g 50) (32 * t + s) v)) W gw (32 * t + (s + 1)) := by
  intro t' s' hs' hn
  show (upd (gA g 50) (32 * t + s) v) (32 * t' + s') = _
  by_cases c : 32 * t' + s' = 32 * t + s
  · rw [c, upd_here, hv]
    have e1 : t' = t := by omega
    have e2 : s' = s := by omega
    rw [e1, e2]
  · rw [upd_other c]; exact h t' s' hs' (by omega)
theorem opS_z {g : GS} {W : Nat → Int32} (hw : WyP g W) (h0 : CB W) (hl : LB W) {gw : Int} (hg : 0 ≤ gw ∧ gw ≤ 30000) (h13 : gF g 40 13 = zI gw) (h16 : gF g 20 16 = W 8) {t s : Nat} (ht : t < 60) (hs : s < 32) (h : ORw g W gw (32 * (t + 1) + s)) : ORw (opS (t + 1) s g) W gw (32 * (t + 1) + (s + 1)) := by
  have hm : mixI g 1952 (gA g 50) (nI s) ((nI (t + 1) - 1) * 32) (gF g 40 13) (-(gF g 20 16)) = zI (zLT W gw (t + 1) s) := by
    rw [h13, h16, ← zW_I W 8, ← zI_neg]
    refine mixI_b hw h0 hs (lo := -9999) (hi := 30000) (by omega) (by omega) (by omega) (by unfold LB at hl; omega) (fun o ho => zLT_bd h0 hl hg t o ho) (fun o ho => ?_)
    have e : (nI (t + 1) - 1) * 32 + nI o = nI (32 * t + o) := by
      rw [nIs (a := t + 1) (b := 1) (by omega) rfl (nIc 1), Nat.add_sub_cancel, i32m]
    rw [e, rAt_in (by omega) (by omega)]
    exact h t o ho (by omega)
  unfold opS
  rw [hm, i32m, rPut_in (by omega) (by omega)]
  exact h.put hs rfl
theorem opS_fr (t s : Nat) {g0 g : GS} (h : Fr f0 a50 g0 g) : Fr f0 a50 g0 (opS t s g) := h.sA rfl
theorem WyP.f50 {g g' : GS} {W : Nat → Int32} (h : WyP g W) (hf : Fr f0 a50 g g') : WyP g' W := h.fr (hf.2.1 42 rfl) (hf.2.1 43 rfl) (hf.2.1 44 rfl) (hf.2.1 45 rfl) (hf.2.1 46 rfl) (hf.2.1 47 rfl)
theorem opT_z {g0 : GS} {W : Nat → Int32} (hw : WyP g0 W) (h0 : CB W) (hl : LB W) {gw : Int} (hg : 0 ≤ gw ∧ gw ≤ 30000) (h13 : gF g0 40 13 = zI gw) (h16 : gF g0 20 16 = W 8) {t : Nat} (ht : t < 60) {g : GS} (hf : Fr f0 a50 g0 g) (h : ORw g W gw (32 * (t + 1))) : ∀ n, n ≤ 32 → Fr f0 a50 g0 (itN (opS (t + 1)) n g) ∧ ORw (itN (opS (t + 1)) n g) W gw (32 * (t + 1) + n)
  | 0, _ => ⟨hf, h⟩
  | n + 1, hn => by
    obtain ⟨i1, i2⟩ := opT_z hw h0 hl hg h13 h16 ht hf h n (by omega)
    refine ⟨opS_fr (t + 1) n i1, ?_⟩
    exact opS_z (hw.f50 i1) h0 hl hg ((i1.1 40 13 rfl).trans h13) ((i1.1 20 16 rfl).trans h16) ht (by omega) i2
theorem opR_z {g : GS} {W : Nat → Int32} (hw : WyP g W) (h0 : CB W) (hl : LB W) {gw : Int} (hg : 0 ≤ gw ∧ gw ≤ 30000) (h13 : gF g 40 13 = zI gw) (h16 : gF g 20 16 = W 8) (hz : ∀ s, s < 32 → gA g 50 s = 0) : ∀ T, T ≤ 60 → Fr f0 a50 g (itN opT T g) ∧ ORw (itN opT T g) W gw (32 * (T + 1))
  | 0, _ => ⟨Fr.rf, fun t s hs hn => by
      have e : t = 0 := by omega
      subst e
      rw [show 32 * 0 + s = s by omega, show itN opT 0 g = g from rfl, hz s hs]; rfl⟩
  | T + 1, hT => by
    obtain ⟨i1, i2⟩ := opR_z hw h0 hl hg h13 h16 hz T (by omega)
    rw [itN_s, opT_e]
    exact opT_z hw h0 hl hg h13 h16 (by omega) i1 i2 32 (Nat.le_refl _)
/-! judges: bounds -/
def ZB (P : JP) : Prop := CB (jW P) ∧ (0 ≤ (jgw P).toInt ∧ (jgw P).toInt ≤ 30000) ∧ (0 ≤ (jaf P).toInt ∧ (jaf P).toInt ≤ 50000) ∧ (0 ≤ (jsw P).toInt ∧ (jsw P).toInt ≤ 60000) ∧ (∀ t s, t ≤ 60 → s < 32 → -9999 ≤ (jon P t s).toInt ∧ (jon P t s).toInt ≤ 30000) ∧ jT P ≤ 60 ∧ jG P ≤ 10
theorem jO1_b {P : JP} (h : ZB P) {j s : Nat} (hs : s < 32) : (jO1 P j s).toInt = (jon P (jT P - j) s).toInt + (jaf P).toInt ∧ -9999 ≤ (jO1 P j s).toInt ∧ (jO1 P j s).toInt ≤ 80000 := by
  obtain ⟨-, -, h2, -, h4, h5, -⟩ := h
  have b := h4 (jT P - j) s (by omega) hs
  have e : (jO1 P j s).toInt = (jon P (jT P - j) s).toInt + (jaf P).toInt := by
    unfold jO1
    rw [← zL_of (jon P (jT P - j) s), zL_64, ← zL_add, zL_T (by omega) (by omega), zL_of]
  exact ⟨e, by omega, by omega⟩
theorem mWt_z {W : Nat → Int32} (hc : CB W) {s : Nat} (hs : s < 32) {gw af sw : Int32} (hg : 0 ≤ gw.toInt ∧ gw.toInt ≤ 30000) (ha : 0 ≤ af.toInt ∧ af.toInt ≤ 50000) (hw : 0 ≤ sw.toInt ∧ sw.toInt ≤ 60000) {R : Nat → Int64} (hr : ∀ o, o < 32 → -9999 ≤ (R o).toInt ∧ (R o).toInt ≤ 80000) : mWt W gw af sw s R = zL (zMx W s (gw.toInt + af.toInt) sw.toInt (fun o => (R o).toInt)) := by
  unfold mWt
  refine mMx_z hc hs (lo := -9999) (hi := 80000) (by omega) (by omega) (by omega) (by omega) hr (fun o _ => (zL_of _).symm) ?_
  have h1 : (W (18 + 34 * s + 32)).toInt64 = zL (zC W s 32) := zW_L _ _
  have h2 : (W (18 + 34 * s + 33)).toInt64 = zL (zC W s 33) := zW_L _ _
  have hst : -2147483648 ≤ zSt W s ∧ zSt W s ≤ 2147483647 := by
    have := hc s hs
    have h3 := zS_nn 34 (fun i hi => this.1 i hi)
    unfold zSt; omega
  have hga : (gw + af).toInt64 = zL (gw.toInt + af.toInt) := by
    have e : gw + af = zI (gw.toInt + af.toInt) := by rw [zI_add, zI_of, zI_of]
    rw [e, zI_64 (by omega) (by omega)]
  rw [h1, h2, hga, zL_64 sw, wSt_z, zI_64 hst.1 hst.2, ← zL_mul, ← zL_mul, ← zL_add, ← zL_of (R s), ← zL_mul, ← zL_add, zL_of]
theorem jV_b {sw : Int32} {on wt : Int64} {a : Int32} (h1 : 0 ≤ sw.toInt ∧ sw.toInt ≤ 60000) (h2 : -9999 ≤ on.toInt ∧ on.toInt ≤ 80000) (h3 : -9999 ≤ wt.toInt ∧ wt.toInt ≤ 80000) : -9999 ≤ (jV sw on wt a).toInt ∧ (jV sw on wt a).toInt ≤ 80000 := by
  unfold jV
  by_cases c : ¬ a = 0
  · rw [if_pos c]
    by_cases d : ¬ a = 1
    · rw [if_pos d]; exact h3
    · rw [if_neg d]; exact h2
  · rw [if_neg c, Int32.toInt_toInt64]; omega
theorem jWo_b {P : JP} (h : ZB P) : ∀ k s, s < 32 → (-9999 ≤ (jWo P k s).toInt ∧ (jWo P k s).toInt ≤ 80000)
  | 0, s, hs => by
    have o := (jO1_b h (j := jG P) hs).2
    exact jV_b h.2.2.2.1 o o
  | k + 1, s, hs => by
    have o := (jO1_b h (j := jG P - (k + 1)) hs).2
    have ih := fun o ho => jWo_b h k o ho
    have hw : -9999 ≤ (mWt (jW P) (jgw P) (jaf P) (jsw P) s (jWo P k)).toInt ∧ (mWt (jW P) (jgw P) (jaf P) (jsw P) s (jWo P k)).toInt ≤ 80000 := by
      rw [mWt_z h.1 hs h.2.1 h.2.2.1 h.2.2.2.1 ih]
      have b := zMx_bd h.1 hs (lo := -9999) (hi := 80000) (a := (jgw P).toInt + (jaf P).toInt) (b := (jsw P).toInt) (row := fun o => (jWo P k o).toInt) (by have := h.2.1; have := h.2.2.1; omega) (by have := h.2.2.2.1; omega) (fun o ho => ih o ho)
      rw [zL_T (by omega) (by omega)]; exact b
    exact jV_b h.2.2.2.1 o hw
theorem jWt_b {P : JP} (h : ZB P) (k s : Nat) (hs : s < 32) : -9999 ≤ (jWt P k s).toInt ∧ (jWt P k s).toInt ≤ 80000 := by
  cases k with
  | zero => exact (jO1_b h (j := jG P) hs).2
  | succ k =>
    have ih := fun o ho => jWo_b h k o ho
    show -9999 ≤ (mWt (jW P) (jgw P) (jaf P) (jsw P) s (jWo P k)).toInt ∧ (mWt (jW P) (jgw P) (jaf P) (jsw P) s (jWo P k)).toInt ≤ 80000
    rw [mWt_z h.1 hs h.2.1 h.2.2.1 h.2.2.2.1 ih]
    have b := zMx_bd h.1 hs (lo := -9999) (hi := 80000) (a := (jgw P).toInt + (jaf P).toInt) (b := (jsw P).toInt) (row := fun o => (jWo P k o).toInt) (by have := h.2.1; have := h.2.2.1; omega) (by have := h.2.2.2.1; omega) (fun o ho => ih o ho)
    rw [zL_T (by omega) (by omega)]; exact b
/-! the class's bench as the Model's judge asks for it -/
def RulQ (cd : CD) (ls : List TxL) : Prop := ∀ (Fc Fm S : Nat → Int32), (∀ f, f < 8 → Fc f = Fm (cvF f)) → Fm 7 = 0 ∨ Fm 7 = 1 → (cdD cd Fc cd.1 0 S).1 = txDo Fm ls
def BnS (g : GS) (P : JP) : Prop := WyP g (jW P) ∧ (∀ t s, t ≤ jT P → s < 32 → gA g 50 (32 * t + s) = zI (jon P t s).toInt) ∧ gF g 40 13 = jgw P ∧ gF g 20 13 = nI (jT P) ∧ gF g 40 12 = nI (jG P)
def FlS (g : GS) (P : JP) : Prop := gF g 40 14 = jsw P ∧ gF g 40 15 = jaf P
def FcQ (g : GS) (m sc kw late : Int32) : Prop := gA g 48 3 = kw ∧ gA g 48 4 = m ∧ gA g 48 5 = mxI 0 sc ∧ gA g 48 6 = mxI 0 (-sc) ∧ gA g 48 7 = (if late = 0 then 0 else 1)
def StQ (g : GS) (q : Option CD) (P : JP) : Prop :=
  (q = none ∧ ∃ d, d < 5 ∧ jjd P = nI d ∧ gF g 40 8 = nI d ∧ gF g 40 9 = jb P) ∨
  (q = none ∧ ∃ z f, z ≤ 8 ∧ f ≤ 4 ∧ jjd P = nI (100 + 10 * z + f) ∧ gF g 40 8 = -1 ∧ gF g 40 10 = nI z ∧ gF g 40 11 = nI f) ∨
  (∃ cd ls r m sc kw late, q = some cd ∧ r < 4 ∧ jjd P = nI (5 + r) ∧ RulQ cd ls ∧ FcQ g m sc kw late ∧ ∀ j s, jsy P j s = txDo (mFc m sc s j kw late) ls)
def aDc (c : Nat) : Bool := Nat.beq c 48 || (Nat.beq c 49 || (Nat.beq c 51 || Nat.beq c 52))
theorem BnS.fr {g g' : GS} {P : JP} (h : BnS g P) (hf : Fr f0 aDc g g') : BnS g' P := by
  obtain ⟨h1, h2, h3, h4, h5⟩ := h
  refine ⟨h1.fr (hf.2.1 42 rfl) (hf.2.1 43 rfl) (hf.2.1 44 rfl) (hf.2.1 45 rfl) (hf.2.1 46 rfl) (hf.2.1 47 rfl), ?_, (hf.1 40 13 rfl).trans h3, (hf.1 20 13 rfl).trans h4, (hf.1 40 12 rfl).trans h5⟩
  rw [hf.2.1 50 rfl]; exact h2
theorem FlS.fr {g g' : GS} {P : JP} (h : FlS g P) (hf : Fr f0 aDc g g') : FlS g' P := ⟨(hf.1 40 14 rfl).trans h.1, (hf.1 40 15 rfl).trans h.2⟩
theorem dcF_48 (g : GS) (j s : Int32) : gA (dcF g j s) 48 = upd (upd (upd (gA g 48) 0 (s / 4)) 1 (s - s / 4 * 4)) 2 j := by
  show rPut 8 (rPut 8 (rPut 8 (gA g 48) (nI 0) (s / 4)) (nI 1) (s - s / 4 * 4)) (nI 2) j = _
  rw [rPut_in (by omega) (by omega), rPut_in (by omega) (by omega), rPut_in (by omega) (by omega)]
theorem dc_fr (g : GS) (j s : Int32) (q : Option CD) : Fr f0 aDc g (dcAll g j s q) := by
  cases q with
  | none => exact (Fr.rf.sA (c := 52) rfl).sA (c := 51) rfl
  | some cd => exact (((((Fr.rf.sA (c := 48) rfl).sA (c := 48) rfl).sA (c := 48) rfl).sA (c := 49) rfl).sA (c := 52) rfl).sA (c := 51) rfl
theorem FcQ.dc {g : GS} {m sc kw late : Int32} (h : FcQ g m sc kw late) (j s : Int32) (q : Option CD) : FcQ (dcAll g j s q) m sc kw late := by
  cases q with
  | none => exact h
  | some cd =>
    have e : gA (dcAll g j s (some cd)) 48 = upd (upd (upd (gA g 48) 0 (s / 4)) 1 (s - s / 4 * 4)) 2 j := dcF_48 g j s
    unfold FcQ
    rw [e]
    exact h
theorem StQ.dc {g : GS} {q : Option CD} {P : JP} (h : StQ g q P) (j s : Int32) (q' : Option CD) : StQ (dcAll g j s q') q P := by
  have hf := dc_fr g j s q'
  rcases h with ⟨h1, d, h2, h3, h4, h5⟩ | ⟨h1, z, f, h2, h3, h4, h5, h6, h7⟩ | ⟨cd, ls, r, m, sc, kw, late, h1, h2, h3, h4, h5, h6⟩
  · exact Or.inl ⟨h1, d, h2, h3, (hf.1 40 8 rfl).trans h4, (hf.1 40 9 rfl).trans h5⟩
  · exact Or.inr (Or.inl ⟨h1, z, f, h2, h3, h4, (hf.1 40 8 rfl).trans h5, (hf.1 40 10 rfl).trans h6, (hf.1 40 11 rfl).trans h7⟩)
  · exact Or.inr (Or.inr ⟨cd, ls, r, m, sc, kw, late, h1, h2, h3, h4, h5.dc j s q', h6⟩)
theorem fc_48 {g : GS} {m sc kw late : Int32} (h : FcQ g m sc kw late) (j : Nat) {s : Nat} (hs : s < 32) : ∀ f, f < 8 → gA (dcF g (nI j) (nI s)) 48 f = mFc m sc s j kw late (cvF f) := by
  intro f hf
  rw [dcF_48]
  obtain ⟨h3, h4, h5, h6, h7⟩ := h
  have e1 : nI s / 4 = nI (s / 4) := nId (by omega) (by omega) rfl (nIc 4)
  have e2 : nI s - nI s / 4 * 4 = nI (s % 4) := nIr (by omega) (by omega) rfl (nIc 4)
  match f, hf with
  | 0, _ => exact e1
  | 1, _ => exact e2
  | 2, _ => rfl
  | 3, _ => exact h3
  | 4, _ => exact h4
  | 5, _ => exact h5
  | 6, _ => exact h6
  | 7, _ => exact h7
theorem mA1_n {jd sw a : Int32} {o w : Int64} (h : ¬ jd = 3) : mA1 jd sw o w a = a := if_pos h
theorem mA2_n {jd sw a : Int32} {e : Bool} {o : Int64} (h : ¬ jd = 4) : mA2 jd sw e o a = a := if_pos h
theorem nI_nq {a b : Nat} (ha : a < 2 ^ 31) (hb : b < 2 ^ 31) (h : ¬ a = b) : ¬ nI a = nI b := fun z => h (nI_inj ha hb z)
theorem nI_neg1 {a : Nat} (ha : a < 2 ^ 31) : ¬ nI a = -1 := fun z => by
  have h := congrArg Int32.toInt z
  rw [nI_toInt ha, show (-1 : Int32).toInt = -1 from rfl] at h; omega
theorem cmp32 {sw : Int32} {on : Int64} {o : Int} (ho : on.toInt = o) (h1 : -100000 ≤ o) (h2 : o ≤ 100000) : (lg_cmp sw.toInt64 on < 0) ↔ (sw < zI o) := by
  rw [cmp_lt, ho, Int32.toInt_toInt64, Int32.lt_iff_toInt_lt, zI_T (by omega) (by omega)]
theorem ite_cg {α : Type} {p q : Prop} [Decidable p] [Decidable q] {a b a' b' : α} (h : p ↔ q) (h1 : a = a') (h2 : b = b') : (if p then a else b) = (if q then a' else b') := by rw [h1, h2]; exact ite_iff h a' b'
theorem wsI_0 {g : GS} {j s on wt : Int32} (h : gF g 40 8 = nI 0) : wsI g j s on wt = 0 := by
  unfold wsI; rw [h, if_neg (by decide), if_pos (by decide)]
theorem wsI_1 {g : GS} {j s on wt : Int32} (h : gF g 40 8 = nI 1) : wsI g j s on wt = 1 := by
  unfold wsI; rw [h, if_neg (by decide), if_neg (by decide), if_pos (by decide)]
theorem wsI_2 {g : GS} {j s on wt : Int32} (h : gF g 40 8 = nI 2) : wsI g j s on wt = if s < gF g 40 9 then 0 else 2 := by
  unfold wsI; rw [h, if_neg (by decide), if_neg (by decide), if_neg (by decide), if_pos (by decide)]
theorem wsI_3 {g : GS} {j s on wt : Int32} (h : gF g 40 8 = nI 3) : wsI g j s on wt = if gF g 40 14 < on then (if on < wt then 2 else 1) else if gF g 40 14 < wt then (if on < wt then 2 else 1) else 0 := by
  unfold wsI; rw [h, if_neg (by decide), if_neg (by decide), if_neg (by decide), if_neg (by decide), if_pos (by decide)]
theorem wsI_4 {g : GS} {j s on wt : Int32} (h : gF g 40 8 = nI 4) : wsI g j s on wt = if gF g 40 12 ≤ j then (if gF g 40 14 < on then 1 else 0) else 2 := by
  unfold wsI; rw [h, if_neg (by decide), if_neg (by decide), if_neg (by decide), if_neg (by decide), if_neg (by decide), if_pos (by decide)]
theorem mA0_0 {b sy : Int32} {s : Nat} : mA0 (nI 0) b s sy = 0 := by unfold mA0; rw [if_neg (by decide)]
theorem mA0_1 {b sy : Int32} {s : Nat} : mA0 (nI 1) b s sy = 1 := by unfold mA0; rw [if_pos (by decide), if_neg (by decide)]
theorem mA0_2 {b sy : Int32} {s : Nat} : mA0 (nI 2) b s sy = if nI s < b then 0 else 2 := by unfold mA0; rw [if_pos (by decide), if_pos (by decide), if_neg (by decide)]
theorem mA0_4 {b sy : Int32} {s : Nat} : mA0 (nI 4) b s sy = 2 := by unfold mA0; rw [if_pos (by decide), if_pos (by decide), if_pos (by decide), if_pos (by decide), if_pos (by decide)]
theorem mA1_3 {sw a : Int32} {o w : Int64} : mA1 (nI 3) sw o w a = if lg_cmp sw.toInt64 o < 0 then (if lg_cmp o w < 0 then 2 else 1) else if lg_cmp sw.toInt64 w < 0 then (if lg_cmp o w < 0 then 2 else 1) else 0 := by unfold mA1; rw [if_neg (by decide)]
theorem mA2_4 {sw a : Int32} {e : Bool} {o : Int64} : mA2 (nI 4) sw e o a = if bI e = 0 then a else if lg_cmp sw.toInt64 o < 0 then 1 else 0 := by unfold mA2; rw [if_neg (by decide)]
theorem deed_z {g : GS} {q : Option CD} {P : JP} (hS : StQ g q P) (hF : FlS g P) (h12 : gF g 40 12 = nI (jG P)) (hG : jG P ≤ 10) {J s : Nat} (hJ : J ≤ jG P) (hs : s < 32) {o w : Int} {wt : Int64} (ho : (jO1 P J s).toInt = o) (hw : wt.toInt = w) (o1 : -100000 ≤ o) (o2 : o ≤ 100000) (w1 : -100000 ≤ w) (w2 : w ≤ 100000) :
    dcD g (nI J) (nI s) (zI o) (zI w) q = mA2 (jjd P) (jsw P) (decide (J = jG P)) (jO1 P J s) (mA1 (jjd P) (jsw P) (jO1 P J s) wt (mA0 (jjd P) (jb P) s (jsy P J s))) := by
  have how : lg_cmp (jO1 P J s) wt < 0 ↔ zI o < zI w := by
    rw [cmp_lt, ho, hw, zI_lt (by omega) (by omega) (by omega) (by omega)]
  have hGe : (nI (jG P) ≤ nI J) ↔ J = jG P := by
    rw [Int32.le_iff_toInt_le, nI_toInt (by omega), nI_toInt (by omega)]; omega
  rcases hS with ⟨rfl, d, h2, h3, h4, h5⟩ | ⟨rfl, z, f, h2, h3, h4, h5, h6, h7⟩ | ⟨cd, ls, r, m, sc, kw, late, rfl, h2, h3, h4, h5, h6⟩
  · show wsI g (nI J) (nI s) (zI o) (zI w) = _
    match d, h2 with
    | 0, _ => rw [wsI_0 h4, h3, mA2_n (by decide), mA1_n (by decide), mA0_0]
    | 1, _ => rw [wsI_1 h4, h3, mA2_n (by decide), mA1_n (by decide), mA0_1]
    | 2, _ => rw [wsI_2 h4, h3, mA2_n (by decide), mA1_n (by decide), mA0_2, h5]
    | 3, _ =>
      rw [wsI_3 h4, h3, mA2_n (by decide), mA1_3, hF.1]
      exact ite_cg (cmp32 ho o1 o2).symm (ite_cg how.symm rfl rfl) (ite_cg (cmp32 hw w1 w2).symm (ite_cg how.symm rfl rfl) rfl)
    | 4, _ =>
      rw [wsI_4 h4, h3, mA2_4, mA1_n (by decide), mA0_4, hF.1, h12]
      by_cases c : J = jG P
      · rw [if_pos (hGe.mpr c), if_neg (show ¬ bI (decide (J = jG P)) = 0 by rw [decide_eq_true c]; decide)]
        exact ite_cg (cmp32 ho o1 o2).symm rfl rfl
      · rw [if_neg (fun z => c (hGe.mp z)), if_pos (show bI (decide (J = jG P)) = 0 by rw [decide_eq_false c]; rfl)]
  · show wsI g (nI J) (nI s) (zI o) (zI w) = _
    have n3 : ¬ jjd P = 3 := by rw [h4]; exact nI_nq (b := 3) (by omega) (by omega) (by omega)
    have n4 : ¬ jjd P = 4 := by rw [h4]; exact nI_nq (b := 4) (by omega) (by omega) (by omega)
    have n0 : ¬ jjd P = 0 := by rw [h4]; exact nI_nq (b := 0) (by omega) (by omega) (by omega)
    have n1 : ¬ jjd P = 1 := by rw [h4]; exact nI_nq (b := 1) (by omega) (by omega) (by omega)
    have n2 : ¬ jjd P = 2 := by rw [h4]; exact nI_nq (b := 2) (by omega) (by omega) (by omega)
    have n100 : ¬ jjd P < 100 := by rw [h4]; intro z; have := nI_ltd (b := 100) (by omega) (by omega) z; omega
    rw [mA2_n n4, mA1_n n3]
    unfold wsI mA0
    rw [if_pos h5, h6, h7, if_pos n0, if_pos n1, if_pos n2, if_neg n100]
    have e1 : (jjd P - 100) / 10 = nI z := by
      rw [nId (a := 10 * z + f) (b := 10) (by omega) (by omega) (by rw [h4, nIs (a := 100 + 10 * z + f) (b := 100) (by omega) rfl (nIc 100)]; congr 1; omega) (nIc 10)]; congr 1; omega
    have e2 : jjd P - jjd P / 10 * 10 = nI f := by
      rw [nIr (a := 100 + 10 * z + f) (b := 10) (by omega) (by omega) h4 (nIc 10)]; congr 1; omega
    rw [e1, e2]
  · show (cdD cd (gA (dcF g (nI J) (nI s)) 48) cd.1 0 (gA (dcF g (nI J) (nI s)) 49)).1 = _
    have n3 : ¬ jjd P = 3 := by rw [h3]; exact nI_nq (b := 3) (by omega) (by omega) (by omega)
    have n4 : ¬ jjd P = 4 := by rw [h3]; exact nI_nq (b := 4) (by omega) (by omega) (by omega)
    have n0 : ¬ jjd P = 0 := by rw [h3]; exact nI_nq (b := 0) (by omega) (by omega) (by omega)
    have n1 : ¬ jjd P = 1 := by rw [h3]; exact nI_nq (b := 1) (by omega) (by omega) (by omega)
    have n2 : ¬ jjd P = 2 := by rw [h3]; exact nI_nq (b := 2) (by omega) (by omega) (by omega)
    have n100 : jjd P < 100 := by rw [h3]; exact nI_ltn (b := 100) (by omega) (by omega)
    have n5 : ¬ jjd P < 5 := by rw [h3]; intro z; have := nI_ltd (b := 5) (by omega) (by omega) z; omega
    rw [mA2_n n4, mA1_n n3]
    unfold mA0
    rw [if_pos n0, if_pos n1, if_pos n2, if_pos n100, if_neg n5, h6 J s]
    refine h4 _ _ _ (fun f hf => fc_48 h5 J hs f hf) ?_
    show (if late = 0 then (0 : Int32) else 1) = 0 ∨ (if late = 0 then (0 : Int32) else 1) = 1
    by_cases cl : late = 0
    · rw [if_pos cl]; exact Or.inl rfl
    · rw [if_neg cl]; exact Or.inr rfl
theorem dA3 {g : GS} {P : JP} (h12 : gF g 40 12 = nI (jG P)) (hG : jG P ≤ 10) {J : Nat} (hJ : J ≤ jG P) (a : Int32) : (if a = 2 then (if nI J < gF g 40 12 then a else 1) else a) = mA3 (decide (J = jG P)) a := by
  rw [h12]
  unfold mA3
  by_cases c : J = jG P
  · rw [if_neg (show ¬ bI (decide (J = jG P)) = 0 by rw [decide_eq_true c]; decide)]
    by_cases d : a = 2
    · rw [if_pos d, if_neg (by rw [c]; intro z; have := Int32.lt_iff_toInt_lt.mp z; omega), if_neg (fun z => z d)]
    · rw [if_neg d, if_pos d]
  · rw [if_pos (show bI (decide (J = jG P)) = 0 by rw [decide_eq_false c]; rfl)]
    by_cases d : a = 2
    · rw [if_pos d, if_pos (nI_ltn (by omega) (by omega))]
    · rw [if_neg d]
theorem dcAll_r (g : GS) (j s : Int32) (q : Option CD) {on wt d : Int32} (h1 : dcOn g j s = on) (h2 : dcWt g j s = wt) (h3 : (if dcD g j s on wt q = 2 then (if j < gF g 40 12 then dcD g j s on wt q else 1) else dcD g j s on wt q) = d) :
    gA (dcAll g j s q) 51 = rPut 352 (gA g 51) (j * 32 + s) (if d = 0 then gF g 40 14 else if d = 1 then on else wt) ∧ gA (dcAll g j s q) 52 = rPut 352 (gA g 52) (j * 32 + s) d := by
  subst h3; subst h1; subst h2
  cases q <;> exact ⟨rfl, rfl⟩
/-- how far a FOUL is laid -/
def LyI (g : GS) (P : JP) (k s : Nat) : Prop := ∀ k' s', k' ≤ jG P → s' < 32 → (k' < k ∨ k' = k ∧ s' < s) → gA g 51 (32 * (jG P - k') + s') = zI (jWo P k' s').toInt ∧ gA g 52 (32 * (jG P - k') + s') = jAc P k' s'
theorem dcOn_z {g : GS} {P : JP} (hb : ZB P) (hB : BnS g P) (hF : FlS g P) {J s : Nat} (hJ : J ≤ 10) (hs : s < 32) : dcOn g (nI J) (nI s) = zI (jO1 P J s).toInt := by
  unfold dcOn ltI
  obtain ⟨h1, h2, h3, h4, h5⟩ := hB
  have hT := hb.2.2.2.2.2.1
  rw [h4, mxI_sub (by omega) (by omega), i32m, rAt_in (by omega) (by omega), h2 _ _ (by omega) hs, hF.2, (jO1_b hb hs).1, zI_add, zI_of (jaf P)]
theorem dcWt_z {g : GS} {P : JP} (hb : ZB P) (hB : BnS g P) (hF : FlS g P) {k s : Nat} (hk : k ≤ jG P) (hs : s < 32) (h : LyI g P k s) : dcWt g (nI (jG P - k)) (nI s) = zI (jWt P k s).toInt := by
  have hG := hb.2.2.2.2.2.2
  unfold dcWt
  obtain ⟨h1, h2, h3, h4, h5⟩ := hB
  rw [h5]
  cases k with
  | zero =>
    rw [if_pos (by rw [Nat.sub_zero]; exact Int32.le_iff_toInt_le.mpr (Int.le_refl _)), dcOn_z hb ⟨h1, h2, h3, h4, h5⟩ hF (by omega) hs]; rfl
  | succ k =>
    rw [if_neg (fun z => by have := nI_led (by omega) (by omega) z; omega), h3, hF.1, hF.2]
    show _ = zI (mWt (jW P) (jgw P) (jaf P) (jsw P) s (jWo P k)).toInt
    have ih := fun o ho => jWo_b hb k o ho
    have b := zMx_bd hb.1 hs (lo := -9999) (hi := 80000) (a := (jgw P).toInt + (jaf P).toInt) (b := (jsw P).toInt) (row := fun o => (jWo P k o).toInt) (by have := hb.2.1; have := hb.2.2.1; omega) (by have := hb.2.2.2.1; omega) (fun o ho => ih o ho)
    rw [mWt_z hb.1 hs hb.2.1 hb.2.2.1 hb.2.2.2.1 ih, zL_T (by omega) (by omega), ← zI_of (jgw P), ← zI_of (jaf P), ← zI_add, ← zI_of (jsw P)]
    rw [mixI_b h1 hb.1 hs (lo := -9999) (hi := 80000) (row := fun o => (jWo P k o).toInt) (by omega) (by omega) (by have := hb.2.1; have := hb.2.2.1; omega) (by have := hb.2.2.2.1; omega) ih ?_]
    · rw [zI_of, zI_of, zI_of]
    · intro o ho
      have e : (nI (jG P - (k + 1)) + 1) * 32 + nI o = nI (32 * (jG P - k) + o) := by
        rw [show nI (jG P - (k + 1)) + 1 = nI (jG P - (k + 1) + 1) from nI_s _, i32m]; congr 2; omega
      rw [e, rAt_in (by omega) (by omega)]
      exact (h k o (by omega) ho (Or.inl (by omega))).1
theorem jV_z {sw : Int32} {on wt : Int64} {a : Int32} : (if a = 0 then sw else if a = 1 then zI on.toInt else zI wt.toInt) = zI (jV sw on wt a).toInt := by
  unfold jV
  by_cases c : a = 0
  · rw [if_pos c, if_neg (fun z => z c), Int32.toInt_toInt64, zI_of]
  · rw [if_neg c, if_pos c]
    by_cases d : a = 1
    · rw [if_pos d, if_neg (fun z => z d)]
    · rw [if_neg d, if_pos d]
theorem dc_z {g : GS} {q : Option CD} {P : JP} (hb : ZB P) (hB : BnS g P) (hF : FlS g P) (hS : StQ g q P) {k s : Nat} (hk : k ≤ jG P) (hs : s < 32) (h : LyI g P k s) : LyI (dcAll g (nI (jG P - k)) (nI s) q) P k (s + 1) := by
  have hG := hb.2.2.2.2.2.2
  have ob := jO1_b hb (j := jG P - k) hs
  have wb := jWt_b hb k s hs
  have h12 := hB.2.2.2.2
  have hd := deed_z hS hF h12 hG (J := jG P - k) (s := s) (o := (jO1 P (jG P - k) s).toInt) (w := (jWt P k s).toInt) (wt := jWt P k s) (by omega) hs rfl rfl (by omega) (by omega) (by omega) (by omega)
  have hA : mA3 (decide (jG P - k = jG P)) (dcD g (nI (jG P - k)) (nI s) (zI (jO1 P (jG P - k) s).toInt) (zI (jWt P k s).toInt) q) = jAc P k s := by
    rw [hd, jAc_eq]
    unfold jA
    have e : decide (jG P - k = jG P) = decide (k = 0) := decide_eq_decide.mpr (by omega)
    rw [e]
  obtain ⟨r1, r2⟩ := dcAll_r g (nI (jG P - k)) (nI s) q (dcOn_z hb hB hF (by omega) hs) (dcWt_z hb hB hF hk hs h) ((dA3 h12 hG (J := jG P - k) (by omega) _).trans hA)
  have hidx : 32 * (jG P - k) + s < 352 := by omega
  have e32 : nI (jG P - k) * 32 + nI s = nI (32 * (jG P - k) + s) := i32m _ _
  rw [e32, rPut_in hidx (by omega), hF.1, jV_z, ← jWo_eq] at r1
  rw [e32, rPut_in hidx (by omega)] at r2
  intro k' s' hk' hs' hc
  rw [r1, r2]
  by_cases c : 32 * (jG P - k') + s' = 32 * (jG P - k) + s
  · have e1 : k' = k := by omega
    have e2 : s' = s := by omega
    subst e1; subst e2
    exact ⟨upd_here _ _ _, upd_here _ _ _⟩
  · rw [upd_other c, upd_other c]
    exact h k' s' hk' hs' (by omega)
theorem lyRow_z {q : Option CD} {P : JP} (hb : ZB P) {j k : Nat} (hjk : j + k = jG P) {g : GS} (hB : BnS g P) (hF : FlS g P) (hS : StQ g q P) (h : LyI g P k 0) : ∀ n, n ≤ 32 → Fr f0 aDc g (itN (lyF q j) n g) ∧ StQ (itN (lyF q j) n g) q P ∧ LyI (itN (lyF q j) n g) P k n
  | 0, _ => ⟨Fr.rf, hS, h⟩
  | n + 1, hn => by
    obtain ⟨i1, i2, i3⟩ := lyRow_z hb hjk hB hF hS h n (by omega)
    have ej : j = jG P - k := by omega
    have := dc_z hb (hB.fr i1) (hF.fr i1) i2 (by omega) (by omega) i3
    rw [← ej] at this
    exact ⟨i1.tr (dc_fr _ _ _ _), i2.dc _ _ _, this⟩
theorem lyD_z {q : Option CD} {P : JP} (hb : ZB P) : ∀ (j : Nat) {g : GS}, j ≤ jG P → BnS g P → FlS g P → StQ g q P → LyI g P (jG P - j) 0 → Fr f0 aDc g (lyD q j g) ∧ StQ (lyD q j g) q P ∧ LyI (lyD q j g) P (jG P) 32
  | 0, g, hj, hB, hF, hS, h => by
    have := lyRow_z hb (j := 0) (k := jG P) (by omega) hB hF hS h 32 (Nat.le_refl _)
    exact this
  | j + 1, g, hj, hB, hF, hS, h => by
    obtain ⟨i1, i2, i3⟩ := lyRow_z hb (j := j + 1) (k := jG P - (j + 1)) (by omega) hB hF hS h 32 (Nat.le_refl _)
    obtain ⟨j1, j2, j3⟩ := lyD_z hb j (by omega) (hB.fr i1) (hF.fr i1) i2 (fun k' s' a b c => i3 k' s' a b (by omega))
    exact ⟨i1.tr j1, j2, j3⟩
/-- what a laid FOUL tells -/
def LyS (g : GS) (P : JP) : Prop := ∀ j s, j ≤ jG P → s < 32 → gA g 51 (32 * j + s) = zI (jw P j s).toInt ∧ gA g 52 (32 * j + s) = ja P j s
theorem LyI.done {g : GS} {P : JP} (h : LyI g P (jG P) 32) : LyS g P := fun j s hj hs => by
  have := h (jG P - j) s (by omega) hs (by omega)
  rw [show jG P - (jG P - j) = j by omega] at this
  exact this
theorem lay_z {g : GS} {so z card : Int32} {q : Option CD} {P : JP} (hb : ZB P) (hB : BnS (ly0 g so z card) P) (hF : FlS (ly0 g so z card) P) (hS : StQ (ly0 g so z card) q P) : Fr f0 aDc (ly0 g so z card) (lyAll g so z card q (jG P)) ∧ LyS (lyAll g so z card q (jG P)) P := by
  obtain ⟨i1, i2, i3⟩ := lyD_z hb (jG P) (Nat.le_refl _) hB hF hS (fun k' s' a b c => by omega)
  exact ⟨i1, i3.done⟩
theorem LyS.wo {g : GS} {P : JP} (h : LyS g P) (hG : jG P ≤ 10) {j s : Nat} (hj : j ≤ jG P) (hs : s < 32) : woI g (nI j) (nI s) = zI (jw P j s).toInt := by
  unfold woI; rw [i32m, rAt_in (by omega) (by omega)]; exact (h j s hj hs).1
theorem LyS.de {g : GS} {P : JP} (h : LyS g P) (hG : jG P ≤ 10) {j s : Nat} (hj : j ≤ jG P) (hs : s < 32) : deI g (nI j) (nI s) = ja P j s := by
  unfold deI; rw [i32m, rAt_in (by omega) (by omega)]; exact (h j s hj hs).2
theorem LyS.wo64 {g : GS} {P : JP} (hb : ZB P) (h : LyS g P) {j s : Nat} (hj : j ≤ jG P) (hs : s < 32) : (woI g (nI j) (nI s)).toInt64 = jw P j s := by
  have b := jWo_b hb (jG P - j) s hs
  rw [h.wo hb.2.2.2.2.2.2 hj hs, zI_64 (by unfold jw; omega) (by unfold jw; omega), zL_of]
theorem jw_b {P : JP} (h : ZB P) (j s : Nat) (hs : s < 32) : -9999 ≤ (jw P j s).toInt ∧ (jw P j s).toInt ≤ 80000 := jWo_b h _ s hs
