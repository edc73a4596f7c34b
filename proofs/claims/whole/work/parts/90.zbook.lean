
/-! the class's Book and the Model's row -/
theorem sIc {f h : Nat → Int32} : ∀ n, (∀ i, i < n → f i = h i) → sI f n = sI h n
  | 0, _ => rfl
  | n + 1, hi => by
    show sI f n + f n = sI h n + h n
    rw [sIc n (fun i h => hi i (by omega)), hi n (by omega)]
def BkQ (g : GS) (W : Nat → Int32) : Prop := ChQ g W ∧ (∀ z, z < 8 → gA g 22 z = W (10 + z)) ∧ (∀ k, k < mN W → gA g 23 k = W (1106 + 34 * k + 0) ∧ gA g 24 k = W (1106 + 34 * k + 1) ∧ ∀ s, s < 32 → gA g 25 (32 * k + s) = W (1106 + 34 * k + (2 + s))) ∧ (∀ p, 32 * mN W ≤ p → p < 192 → gA g 25 p = 0) ∧ gF g 20 9 = W 0 ∧ gF g 20 10 = W 1 ∧ gF g 20 11 = W 2 ∧ gF g 20 12 = W 4 ∧ gF g 20 13 = W 5 ∧ gF g 20 14 = W 6 ∧ gF g 20 15 = W 7 ∧ gF g 20 16 = W 8 ∧ gF g 20 17 = W 9
def WB (W : Nat → Int32) : Prop := CB W ∧ LB W ∧ (∀ z, z < 8 → 0 ≤ zW W (10 + z) ∧ zW W (10 + z) ≤ 9999) ∧ (0 ≤ zW W 9 ∧ zW W 9 ≤ 99) ∧ NZ W 32 ≤ 144 ∧ (mN W ≤ 6 ∧ W 2 = nI (mN W)) ∧ (∀ k, k < mN W → (0 ≤ zW W (1106 + 34 * k + 0) ∧ zW W (1106 + 34 * k + 0) ≤ 9999) ∧ (0 ≤ zW W (1106 + 34 * k + 1) ∧ zW W (1106 + 34 * k + 1) ≤ 100) ∧ ∀ s, s < 32 → 0 ≤ zW W (1106 + 34 * k + (2 + s)) ∧ zW W (1106 + 34 * k + (2 + s)) ≤ 999) ∧ (0 ≤ zW W 6 ∧ zW W 6 ≤ 90) ∧ (-9 ≤ zW W 7 ∧ zW W 7 ≤ 9) ∧ (mG W ≤ 10 ∧ W 4 = nI (mG W)) ∧ (1 ≤ mT W ∧ mT W ≤ 60 ∧ W 5 = nI (mT W)) ∧ (mR W ≤ 4 ∧ W 1 = nI (mR W)) ∧ (0 ≤ zW W 0 ∧ zW W 0 ≤ 12)
theorem BkQ.kf {g g' : GS} {W : Nat → Int32} (h : BkQ g W) (hk : KF g g') : BkQ g' W := by
  obtain ⟨h1, h2, h3, h4, h5, h6, h7, h8, h9, h10, h11, h12, h13⟩ := h
  have e21 := hk.bookA (c := 21) (by omega)
  have e22 := hk.bookA (c := 22) (by omega)
  have e23 := hk.bookA (c := 23) (by omega)
  have e24 := hk.bookA (c := 24) (by omega)
  have e25 := hk.bookA (c := 25) (by omega)
  refine ⟨h1.fr e21, ?_, ?_, ?_, ?_, ?_, ?_, ?_, ?_, ?_, ?_, ?_, ?_⟩
  · rw [e22]; exact h2
  · rw [e23, e24, e25]; exact h3
  · rw [e25]; exact h4
  all_goals (rw [hk.book (c := 20) _ (by omega)]; assumption)
theorem bk_rt_z {g : GS} {W : Nat → Int32} (h : BkQ g W) (hW : WB W) {k s : Nat} (hk : k < mN W) (hs : s < 32) : bk_rt g 20 (nI k) (nI s) = W (1106 + 34 * k + (2 + s)) := by
  have := hW.2.2.2.2.2.1.1
  unfold bk_rt
  rw [i32n, rAt_in (by omega) (by omega)]
  exact (h.2.2.1 k hk).2.2 s hs
theorem bk_rs_z {g : GS} {W : Nat → Int32} (h : BkQ g W) (hW : WB W) {k : Nat} (hk : k < mN W) : bk_rs g 20 (nI k) = wRs W k :=
  sIc 32 (fun s hs => bk_rt_z h hW hk hs)
theorem bk_cn_z {g : GS} {W : Nat → Int32} (h : BkQ g W) (hW : WB W) {k : Nat} (hk : k < mN W) : bk_cn g 20 (nI k) = wCd W k (wTo W k) := by
  have := hW.2.2.2.2.2.1.1
  unfold bk_cn wCd wTo
  rw [bk_rs_z h hW hk, h.2.2.2.2.2.2.2.2.2.2.2.2, rAt_in (by omega) (by omega), (h.2.2.1 k hk).1]
  by_cases c : W 9 ≤ 0
  · rw [if_pos c, if_pos c, Int32.add_zero]
  · rw [if_neg c, if_neg c]
theorem bk_sw_z {g : GS} {W : Nat → Int32} (h : BkQ g W) {z : Nat} (hz : z < 8) (c : Int32) : bk_sw g 20 (nI z) c = W (10 + z) + c := by
  unfold bk_sw; rw [rAt_in hz (by omega), h.2.1 z hz]
theorem bk_aw_z {g : GS} {W : Nat → Int32} (h : BkQ g W) (hW : WB W) {k : Nat} (hk : k < mN W) (c : Int32) : bk_aw g 20 (nI k) c = c * (100 - W (1106 + 34 * k + 1)) / 100 := by
  have := hW.2.2.2.2.2.1.1
  unfold bk_aw; rw [rAt_in (by omega) (by omega), (h.2.2.1 k hk).2.1]
/-! bounds -/
theorem wRs_b {W : Nat → Int32} (hW : WB W) {k : Nat} (hk : k < mN W) : wRs W k = zI (zS (fun s => zW W (1106 + 34 * k + (2 + s))) 32) ∧ 0 ≤ zS (fun s => zW W (1106 + 34 * k + (2 + s))) 32 ∧ zS (fun s => zW W (1106 + 34 * k + (2 + s))) 32 ≤ 31968 := by
  have h := (hW.2.2.2.2.2.2.1 k hk).2.2
  refine ⟨sI_z 32 (fun s hs => (zW_I W _).symm), zS_nn 32 (fun s hs => (h s hs).1), ?_⟩
  have := zS_bd (f := fun s => zW W (1106 + 34 * k + (2 + s))) (c := 999) 32 (fun s hs => (h s hs).2)
  omega
theorem div_b {a b : Int32} {x : Int} (ha : a = zI x) (h1 : 0 ≤ x) (h2 : x ≤ 1000000) (hb : ¬ b ≤ 0) : 0 ≤ (a / b).toInt ∧ (a / b).toInt ≤ x := by
  have hb' : 0 < b.toInt := by
    have : ¬ b.toInt ≤ 0 := fun z => hb (Int32.le_iff_toInt_le.mpr z)
    omega
  rw [lg_idiv_nonneg (by rw [ha, zI_T (by omega) (by omega)]; exact h1) hb', ha, zI_T (by omega) (by omega)]
  exact ⟨Int.ediv_nonneg h1 (by omega), Int.ediv_le_self _ h1⟩
theorem wCd_b {W : Nat → Int32} (hW : WB W) {k : Nat} (hk : k < mN W) {told : Int32} (ht : 0 ≤ told.toInt ∧ told.toInt ≤ 9999) : 0 ≤ (wCd W k told).toInt ∧ (wCd W k told).toInt ≤ 41967 := by
  obtain ⟨r1, r2, r3⟩ := wRs_b hW hk
  unfold wCd
  by_cases c : W 9 ≤ 0
  · rw [if_pos c, Int32.add_zero]; omega
  · rw [if_neg c]
    have d := div_b r1 r2 (by omega) c
    rw [← zI_of told, ← zI_of (wRs W k / W 9), ← zI_add, zI_T (by omega) (by omega)]
    omega
theorem wSw_b {W : Nat → Int32} (hW : WB W) {k z : Nat} (hk : k < mN W) (hz : z < 8) {told : Int32} (ht : 0 ≤ told.toInt ∧ told.toInt ≤ 9999) : 0 ≤ (wSw W k z told).toInt ∧ (wSw W k z told).toInt ≤ 60000 := by
  have c := wCd_b hW hk ht
  have d := hW.2.2.1 z hz
  unfold wSw
  rw [← zW_I W (10 + z), ← zI_of (wCd W k told), ← zI_add, zI_T (by omega) (by omega)]
  omega
theorem wAf_z {W : Nat → Int32} (hW : WB W) {k : Nat} (hk : k < mN W) {told : Int32} (ht : 0 ≤ told.toInt ∧ told.toInt ≤ 9999) : (wAf W k told).toInt = (wCd W k told).toInt * (100 - zW W (1106 + 34 * k + 1)) / 100 ∧ 0 ≤ (wAf W k told).toInt ∧ (wAf W k told).toInt ≤ 50000 := by
  have c := wCd_b hW hk ht
  have f := (hW.2.2.2.2.2.2.1 k hk).2.1
  have p1 : 0 ≤ (wCd W k told).toInt * (100 - zW W (1106 + 34 * k + 1)) := Int.mul_nonneg c.1 (by omega)
  have p2 : (wCd W k told).toInt * (100 - zW W (1106 + 34 * k + 1)) ≤ (wCd W k told).toInt * 100 := Int.mul_le_mul_of_nonneg_left (by omega) c.1
  have e : wCd W k told * (100 - W (1106 + 34 * k + 1)) = zI ((wCd W k told).toInt * (100 - zW W (1106 + 34 * k + 1))) := by
    rw [zI_mul, zI_sub, zW_I, zI_of]; rfl
  have e2 : (wAf W k told).toInt = (wCd W k told).toInt * (100 - zW W (1106 + 34 * k + 1)) / 100 := by
    unfold wAf
    rw [e, lg_idiv_nonneg (by rw [zI_T (by omega) (by omega)]; exact p1) (by decide), zI_T (by omega) (by omega)]; rfl
  exact ⟨e2, by omega, by omega⟩
theorem mxI32_b (a : Int64) : 0 ≤ (mxI32 a).toInt ∧ (mxI32 a).toInt ≤ 30000 := by
  have h0 : (0 : Int64).toInt = 0 := rfl
  have h3 : (30000 : Int64).toInt = 30000 := rfl
  have hm : (mxL 0 (mnL 30000 a)).toInt = (if 0 < (if a.toInt < 30000 then a.toInt else 30000) then (if a.toInt < 30000 then a.toInt else 30000) else 0) := by
    have e : (mnL 30000 a).toInt = if a.toInt < 30000 then a.toInt else 30000 := by
      unfold mnL
      by_cases c : a.toInt < 30000
      · rw [if_pos (cmp_gt.mpr (by rw [h3]; exact c)), if_pos c]
      · rw [if_neg (fun z => c (by have := cmp_gt.mp z; rw [h3] at this; exact this)), if_neg c, h3]
    unfold mxL
    by_cases c : 0 < (if a.toInt < 30000 then a.toInt else 30000)
    · rw [if_pos (cmp_lt.mpr (by rw [e, h0]; exact c)), if_pos c, e]
    · rw [if_neg (fun z => c (by have := cmp_lt.mp z; rw [e, h0] at this; exact this)), if_neg c, h0]
  have b : 0 ≤ (mxL 0 (mnL 30000 a)).toInt ∧ (mxL 0 (mnL 30000 a)).toInt ≤ 30000 := by
    rw [hm]
    split
    · split <;> omega
    · omega
  unfold mxI32
  rw [← zL_of (mxL 0 (mnL 30000 a)), zL_32 (by omega) (by omega), zI_T (by omega) (by omega)]
  exact b
theorem mGc_b (W : Nat → Int32) (m : Int32) (gl : List TxL) : 0 ≤ (mGc W m gl).toInt ∧ (mGc W m gl).toInt ≤ 30000 := by
  unfold mGc
  by_cases c : W 3 = 0
  · rw [if_pos c]; exact ⟨by decide, by decide⟩
  · rw [if_neg c]; exact mxI32_b _
theorem mLT_zz {W : Nat → Int32} (hW : WB W) (m : Int32) (gl : List TxL) (t s : Nat) (hs : s < 32) : (mLT W (mGc W m gl) t s).toInt = zLT W (mGc W m gl).toInt t s ∧ -9999 ≤ (mLT W (mGc W m gl) t s).toInt ∧ (mLT W (mGc W m gl) t s).toInt ≤ 30000 := by
  have hg := mGc_b W m gl
  have b := zLT_bd hW.1 hW.2.1 hg t s hs
  have e : mLT W (mGc W m gl) t s = zL (zLT W (mGc W m gl).toInt t s) := by
    have := mLT_z hW.1 hW.2.1 hg t s hs
    rwa [zI_of] at this
  rw [e, zL_T (by omega) (by omega)]
  exact ⟨rfl, b⟩
theorem mJP_b {W : Nat → Int32} (hW : WB W) {k z : Nat} (hk : k < mN W) (hz : z < 8) {told : Int32} (ht : 0 ≤ told.toInt ∧ told.toInt ≤ 9999) {G : Nat} (hG : G ≤ 10) (gl : List TxL) (rl : Nat → List TxL) (m jd b : Int32) : ZB (mJP W gl rl m k z told jd b G) :=
  ⟨hW.1, mGc_b W m gl, (wAf_z hW hk ht).2, wSw_b hW hk hz ht, fun t s _ hs => (mLT_zz hW m gl t s hs).2, hW.2.2.2.2.2.2.2.2.2.2.1.2.1, hG⟩
/-! the bench opened -/
def OpS (g : GS) (W : Nat → Int32) (gw m : Int32) (T : Nat) : Prop := WyP g W ∧ (∀ t s, t ≤ T → s < 32 → gA g 50 (32 * t + s) = zI (zLT W gw.toInt t s)) ∧ gF g 40 13 = gw ∧ gA g 48 4 = m ∧ gA g 48 5 = mxI 0 (W 7) ∧ gA g 48 6 = mxI 0 (-(W 7))
def GolC (cd : CD) (gl : List TxL) : Prop := ∀ (Fc Fm S : Nat → Int32), Fc 4 = Fm 0 → Fc 5 = Fm 1 → Fc 6 = Fm 2 → (∀ i, i < 3 → 0 ≤ (Fm i).toInt ∧ (Fm i).toInt ≤ 90) → mxI 0 (mnI 30000 (cdT cd Fc cd.1 0 0 S).1) = mxI32 (mGS Fm gl 0)
def GolQ (W : Nat → Int32) (gl : List TxL) : Option CD → Prop
  | none => W 3 = 0
  | some cd => ¬ W 3 = 0 ∧ GolC cd gl
theorem mxI_T (a b : Int32) : (mxI a b).toInt = if a.toInt < b.toInt then b.toInt else a.toInt := by
  unfold mxI
  by_cases c : a.toInt < b.toInt
  · rw [if_pos (Int32.lt_iff_toInt_lt.mpr c), if_pos c]
  · rw [if_neg (fun z => c (Int32.lt_iff_toInt_lt.mp z)), if_neg c]
theorem gw_48 (g : GS) (m : Int32) : gA (gwG0 g m) 48 = upd (upd (upd (gA g 48) 4 m) 5 (mxI 0 (gF g 20 15))) 6 (mxI 0 (-(gF g 20 15))) := by
  show rPut 8 (rPut 8 (rPut 8 (gA g 48) (nI 4) m) (nI 5) (mxI 0 (gF g 20 15))) (nI 6) (mxI 0 (-(gF g 20 15))) = _
  rw [rPut_in (by omega) (by omega), rPut_in (by omega) (by omega), rPut_in (by omega) (by omega)]
theorem gwV_z {g : GS} {W : Nat → Int32} {gl : List TxL} {q : Option CD} {m : Int32} (h : BkQ g W) (hW : WB W) (hm : 0 ≤ m.toInt ∧ m.toInt ≤ 90) (hq : GolQ W gl q) : gwV g m q = mGc W m gl := by
  unfold mGc
  cases q with
  | none => rw [if_pos (show W 3 = 0 from hq)]; rfl
  | some cd =>
    obtain ⟨h3, hc⟩ := hq
    rw [if_neg h3]
    have e15 : gF g 20 15 = W 7 := h.2.2.2.2.2.2.2.2.2.2.1
    have b7 := hW.2.2.2.2.2.2.2.2.1
    refine hc _ _ _ ?_ ?_ ?_ ?_
    · rw [gw_48]; rfl
    · rw [gw_48, e15]; rfl
    · rw [gw_48, e15]; rfl
    · intro i hi
      match i, hi with
      | 0, _ => exact hm
      | 1, _ =>
        show 0 ≤ (mxI 0 (W 7)).toInt ∧ (mxI 0 (W 7)).toInt ≤ 90
        rw [mxI_T]
        have : (W 7).toInt = zW W 7 := rfl
        rw [this, Int32.toInt_zero]
        split <;> omega
      | 2, _ =>
        show 0 ≤ (mxI 0 (-(W 7))).toInt ∧ (mxI 0 (-(W 7))).toInt ≤ 90
        rw [mxI_T, ← zW_I W 7, ← zI_neg, zI_T (by omega) (by omega), Int32.toInt_zero]
        split <;> omega
def Z0 (g : GS) : Prop := ∀ s, s < 32 → gA g 50 s = 0 ∧ gA g 59 s = 0
def aOp (c : Nat) : Bool := Nat.ble 42 c && Nat.ble c 50
def fOp (c k : Nat) : Bool := Nat.beq c 40 && (Nat.beq k 12 || Nat.beq k 13)
theorem aOp_W (c : Nat) (h : aOp c = false) : aWy c = false := by
  unfold aOp at h; unfold aWy
  by_cases h1 : Nat.ble 42 c = true
  · rw [h1] at h ⊢
    rw [Bool.true_and] at h ⊢
    by_cases h2 : Nat.ble c 47 = true
    · exfalso
      have : Nat.ble c 50 = true := Nat.ble_eq.mpr (Nat.le_trans (Nat.ble_eq.mp h2) (by omega))
      rw [this] at h; cases h
    · exact Bool.eq_false_iff.mpr h2
  · rw [Bool.eq_false_iff.mpr h1]; rfl
theorem aOp_50 (c : Nat) (h : aOp c = false) : a50 c = false := by
  unfold a50
  cases hb : Nat.beq c 50 with
  | false => rfl
  | true => rw [Nat.eq_of_beq_eq_true hb] at h; cases h
theorem op_fr0 (g : GS) (m : Int32) (q : Option CD) : Fr fOp aOp g (op2 (op1 g m q)) := by
  cases q with
  | none => exact ((((Fr.rf.sA (c := 48) rfl).sA (c := 48) rfl).sA (c := 48) rfl).sF (c := 40) (k := 13) rfl).sF (c := 40) (k := 12) rfl
  | some cd => exact (((((Fr.rf.sA (c := 48) rfl).sA (c := 48) rfl).sA (c := 48) rfl).sA (c := 49) rfl).sF (c := 40) (k := 13) rfl).sF (c := 40) (k := 12) rfl
theorem op_48 (g : GS) (m : Int32) (q : Option CD) : gA (op2 (op1 g m q)) 48 = gA (gwG0 g m) 48 := by cases q <;> rfl
theorem op_z {g : GS} {W : Nat → Int32} {gl : List TxL} {q : Option CD} {m : Int32} {T : Nat} (h : BkQ g W) (hW : WB W) (hz : Z0 g) (hm : 0 ≤ m.toInt ∧ m.toInt ≤ 90) (hq : GolQ W gl q) (hT : T ≤ 60) : OpS (opAll g m T q) W (mGc W m gl) m T ∧ Fr fOp aOp g (opAll g m T q) ∧ gF (opAll g m T q) 40 12 = W 4 ∧ Z0 (opAll g m T q) := by
  have e15 : gF g 20 15 = W 7 := h.2.2.2.2.2.2.2.2.2.2.1
  have f0' := op_fr0 g m q
  have c0 : ChQ (op2 (op1 g m q)) W := h.1.fr (f0'.2.1 21 rfl)
  obtain ⟨w1, w2⟩ := wrAll_z c0 hW.1 hW.2.2.2.2.1
  have k13 : gF (wrAll (op2 (op1 g m q))) 40 13 = zI (mGc W m gl).toInt := by
    rw [w2.1 40 13 rfl, zI_of, ← gwV_z h hW hm hq]; rfl
  have k16 : gF (wrAll (op2 (op1 g m q))) 20 16 = W 8 := by
    rw [w2.1 20 16 rfl, f0'.1 20 16 rfl]; exact h.2.2.2.2.2.2.2.2.2.2.2.1
  have k50 : ∀ s, s < 32 → gA (wrAll (op2 (op1 g m q))) 50 s = 0 := by
    intro s hs
    rw [w2.2.1 50 rfl]
    have : gA (op2 (op1 g m q)) 50 = gA g 50 := by cases q <;> rfl
    rw [this]; exact (hz s hs).1
  obtain ⟨r1, r2⟩ := opR_z w1 hW.1 hW.2.1 (mGc_b W m gl) k13 k16 k50 T hT
  have h48 : gA (opAll g m T q) 48 = gA (gwG0 g m) 48 := (r1.2.1 48 rfl).trans ((w2.2.1 48 rfl).trans (op_48 g m q))
  have hfr : Fr fOp aOp g (opAll g m T q) := (f0'.tr (w2.mono (fun _ _ _ => rfl) aOp_W)).tr (r1.mono (fun _ _ _ => rfl) aOp_50)
  refine ⟨⟨w1.f50 r1, fun t s ht hs => r2 t s hs (by omega), (r1.1 40 13 rfl).trans (k13.trans (zI_of _)), ?_, ?_, ?_⟩, hfr, ?_, ?_⟩
  · rw [h48, gw_48]; rfl
  · rw [h48, gw_48, e15]; rfl
  · rw [h48, gw_48, e15]; rfl
  · show gF (itN opT T (wrAll (op2 (op1 g m q)))) 40 12 = W 4
    rw [r1.1 40 12 rfl, w2.1 40 12 rfl]
    show gF (op1 g m q) 20 12 = W 4
    have : gF (op1 g m q) 20 12 = gF g 20 12 := by cases q <;> rfl
    rw [this]; exact h.2.2.2.2.2.2.2.1
  · intro s hs
    refine ⟨?_, ?_⟩
    · have := r2 0 s hs (by omega)
      rw [show 32 * 0 + s = s by omega] at this
      exact this.trans rfl
    · rw [hfr.2.1 59 rfl]; exact (hz s hs).2
