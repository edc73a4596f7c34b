
/-! ints and longs that stand for whole numbers -/
def zI (z : Int) : Int32 := Int32.ofInt z
def zL (z : Int) : Int64 := Int64.ofInt z
theorem zI_T {z : Int} (h1 : -2147483648 ≤ z) (h2 : z ≤ 2147483647) : (zI z).toInt = z := Int32.toInt_ofInt_of_le (by omega) (by omega)
theorem zL_T {z : Int} (h1 : -9223372036854775808 ≤ z) (h2 : z ≤ 9223372036854775807) : (zL z).toInt = z := Int64.toInt_ofInt_of_le (by omega) (by omega)
theorem zI_of (x : Int32) : zI x.toInt = x := Int32.ofInt_toInt x
theorem zL_of (x : Int64) : zL x.toInt = x := Int64.ofInt_toInt x
theorem zL_64 (x : Int32) : x.toInt64 = zL x.toInt := (Int64.ofInt_int32ToInt x).symm
theorem zI_64 {z : Int} (h1 : -2147483648 ≤ z) (h2 : z ≤ 2147483647) : (zI z).toInt64 = zL z := by rw [zL_64, zI_T h1 h2]
theorem zL_32 {z : Int} (h1 : -9223372036854775808 ≤ z) (h2 : z ≤ 9223372036854775807) : (zL z).toInt32 = zI z := by
  rw [← Int32.ofInt_int64ToInt, zL_T h1 h2]; rfl
theorem zI_add (a b : Int) : zI (a + b) = zI a + zI b := Int32.ofInt_add a b
theorem zI_sub (a b : Int) : zI (a - b) = zI a - zI b := Int32.ofInt_sub a b
theorem zI_mul (a b : Int) : zI (a * b) = zI a * zI b := Int32.ofInt_mul a b
theorem zI_neg (a : Int) : zI (-a) = -zI a := Int32.ofInt_neg a
theorem zL_add (a b : Int) : zL (a + b) = zL a + zL b := Int64.ofInt_add a b
theorem zL_sub (a b : Int) : zL (a - b) = zL a - zL b := Int64.ofInt_sub a b
theorem zL_mul (a b : Int) : zL (a * b) = zL a * zL b := Int64.ofInt_mul a b
theorem zL_neg (a : Int) : zL (-a) = -zL a := Int64.ofInt_neg a
theorem zI_n (n : Nat) : nI n = zI (n : Int) := Int32.ofInt_eq_ofNat.symm
theorem zI_le {a b : Int} (a1 : -2147483648 ≤ a) (a2 : a ≤ 2147483647) (b1 : -2147483648 ≤ b) (b2 : b ≤ 2147483647) : zI a ≤ zI b ↔ a ≤ b := by
  rw [Int32.le_iff_toInt_le, zI_T a1 a2, zI_T b1 b2]
theorem zI_lt {a b : Int} (a1 : -2147483648 ≤ a) (a2 : a ≤ 2147483647) (b1 : -2147483648 ≤ b) (b2 : b ≤ 2147483647) : zI a < zI b ↔ a < b := by
  rw [Int32.lt_iff_toInt_lt, zI_T a1 a2, zI_T b1 b2]
theorem zI_eq {a b : Int} (a1 : -2147483648 ≤ a) (a2 : a ≤ 2147483647) (b1 : -2147483648 ≤ b) (b2 : b ≤ 2147483647) : zI a = zI b ↔ a = b := by
  rw [← Int32.toInt_inj, zI_T a1 a2, zI_T b1 b2]
theorem lg_cmpZ (x y : Int64) : lg_cmp x y = if x.toInt < y.toInt then -1 else if x.toInt = y.toInt then 0 else 1 := by
  unfold lg_cmp
  by_cases h : x.toInt < y.toInt
  · rw [if_pos h, if_neg (fun z => by have := Int64.lt_iff_toInt_lt.mp z; omega), if_neg (fun z => by rw [z] at h; omega)]
  · rw [if_neg h]
    by_cases h2 : x.toInt = y.toInt
    · rw [if_pos h2, if_neg (fun z => by have := Int64.lt_iff_toInt_lt.mp z; omega), if_pos (Int64.toInt_inj.mp h2)]
    · rw [if_neg h2, if_pos (Int64.lt_iff_toInt_lt.mpr (by omega))]
theorem cmp_lt {x y : Int64} : lg_cmp x y < 0 ↔ x.toInt < y.toInt := by
  rw [lg_cmpZ]
  by_cases h : x.toInt < y.toInt
  · rw [if_pos h]; exact ⟨fun _ => h, fun _ => by decide⟩
  · rw [if_neg h]
    by_cases h2 : x.toInt = y.toInt
    · rw [if_pos h2]; exact ⟨fun z => absurd z (by decide), fun z => absurd z h⟩
    · rw [if_neg h2]; exact ⟨fun z => absurd z (by decide), fun z => absurd z h⟩
theorem cmp_le {x y : Int64} : lg_cmp x y ≤ 0 ↔ x.toInt ≤ y.toInt := by
  rw [lg_cmpZ]
  by_cases h : x.toInt < y.toInt
  · rw [if_pos h]; exact ⟨fun _ => by omega, fun _ => by decide⟩
  · rw [if_neg h]
    by_cases h2 : x.toInt = y.toInt
    · rw [if_pos h2]; exact ⟨fun _ => by omega, fun _ => by decide⟩
    · rw [if_neg h2]; exact ⟨fun z => absurd z (by decide), fun z => by omega⟩
theorem cmp_gt {x y : Int64} : 0 < lg_cmp x y ↔ y.toInt < x.toInt := by
  rw [lg_cmpZ]
  by_cases h : x.toInt < y.toInt
  · rw [if_pos h]; exact ⟨fun z => absurd z (by decide), fun z => by omega⟩
  · rw [if_neg h]
    by_cases h2 : x.toInt = y.toInt
    · rw [if_pos h2]; exact ⟨fun z => absurd z (by decide), fun z => by omega⟩
    · rw [if_neg h2]; exact ⟨fun z => by omega, fun z => by decide⟩
theorem cmp_ge {x y : Int64} : 0 ≤ lg_cmp x y ↔ y.toInt ≤ x.toInt := by
  rw [lg_cmpZ]
  by_cases h : x.toInt < y.toInt
  · rw [if_pos h]; exact ⟨fun z => absurd z (by decide), fun z => by omega⟩
  · rw [if_neg h]
    by_cases h2 : x.toInt = y.toInt
    · rw [if_pos h2]; exact ⟨fun z => by omega, fun z => by decide⟩
    · rw [if_neg h2]; exact ⟨fun z => by omega, fun z => by decide⟩
theorem cmp_eq {x y : Int64} : lg_cmp x y = 0 ↔ x.toInt = y.toInt := by
  rw [lg_cmpZ]
  by_cases h : x.toInt < y.toInt
  · rw [if_pos h]; exact ⟨fun z => absurd z (by decide), fun z => by omega⟩
  · rw [if_neg h]
    by_cases h2 : x.toInt = y.toInt
    · rw [if_pos h2]; exact ⟨fun z => h2, fun z => rfl⟩
    · rw [if_neg h2]; exact ⟨fun z => absurd z (by decide), fun z => absurd z h2⟩
theorem sgnX32 (a b : Int32) : 0 ≤ a ^^^ b ↔ (a.toInt < 0 ↔ b.toInt < 0) := by
  rw [Int32.le_iff_toInt_le, Int32.toInt_zero]
  have h : (a ^^^ b).toInt = (a.toBitVec ^^^ b.toBitVec).toInt := rfl
  have h1 := BitVec.msb_eq_toInt (x := a.toBitVec ^^^ b.toBitVec)
  rw [BitVec.msb_xor, BitVec.msb_eq_toInt, BitVec.msb_eq_toInt] at h1
  have ha : a.toBitVec.toInt = a.toInt := rfl
  have hb : b.toBitVec.toInt = b.toInt := rfl
  rw [ha, hb, ← h] at h1
  by_cases c1 : a.toInt < 0 <;> by_cases c2 : b.toInt < 0 <;> by_cases c3 : (a ^^^ b).toInt < 0 <;> simp [c1, c2, c3] at h1 ⊢ <;> omega
theorem sgnX64 (a b : Int64) : 0 ≤ a ^^^ b ↔ (a.toInt < 0 ↔ b.toInt < 0) := by
  rw [Int64.le_iff_toInt_le, Int64.toInt_zero]
  have h : (a ^^^ b).toInt = (a.toBitVec ^^^ b.toBitVec).toInt := rfl
  have h1 := BitVec.msb_eq_toInt (x := a.toBitVec ^^^ b.toBitVec)
  rw [BitVec.msb_xor, BitVec.msb_eq_toInt, BitVec.msb_eq_toInt] at h1
  have ha : a.toBitVec.toInt = a.toInt := rfl
  have hb : b.toBitVec.toInt = b.toInt := rfl
  rw [ha, hb, ← h] at h1
  by_cases c1 : a.toInt < 0 <;> by_cases c2 : b.toInt < 0 <;> by_cases c3 : (a ^^^ b).toInt < 0 <;> simp [c1, c2, c3] at h1 ⊢ <;> omega
theorem tdiv_100 (z : Int) : (0 ≤ z → z.tdiv 100 = z / 100) ∧ (z < 0 → z.tdiv 100 = -((-z) / 100)) := by
  refine ⟨fun h => Int.tdiv_eq_ediv_of_nonneg h, fun h => ?_⟩
  rw [← Int.tdiv_eq_ediv_of_nonneg (by omega), Int.neg_tdiv]; omega
theorem tdiv_9 (z : Int) : (0 ≤ z → z.tdiv 9 = z / 9) ∧ (z < 0 → z.tdiv 9 = -((-z) / 9)) := by
  refine ⟨fun h => Int.tdiv_eq_ediv_of_nonneg h, fun h => ?_⟩
  rw [← Int.tdiv_eq_ediv_of_nonneg (by omega), Int.neg_tdiv]; omega
theorem fdI_z {z : Int} (h1 : -2147483648 < z) (h2 : z ≤ 2147483647) : fdI (zI z) 100 = zI (z / 100) := by
  have hd : (zI z / 100).toInt = z.tdiv 100 := by
    rw [Int32.toInt_div_of_ne_right _ _ (by decide), zI_T (by omega) h2]; rfl
  have h100 : (100 : Int32).toInt = 100 := rfl
  unfold fdI
  by_cases h : z < 0
  · have e := (tdiv_100 z).2 h
    rw [if_neg (fun c => by have := (sgnX32 _ _).mp c; rw [zI_T (by omega) h2, h100] at this; omega)]
    have hq : zI z / 100 = zI (-((-z) / 100)) := by rw [← zI_of (zI z / 100), hd, e]
    have hm : zI z / 100 * 100 = zI (-((-z) / 100) * 100) := by rw [hq, zI_mul]; rfl
    rw [hm]
    by_cases c : -((-z) / 100) * 100 = z
    · rw [if_pos (by rw [c]), hq]; congr 1; omega
    · rw [if_neg (fun x => c ((zI_eq (by omega) (by omega) (by omega) (by omega)).mp x)), hq, show (1 : Int32) = zI 1 from rfl, ← zI_sub]; congr 1; omega
  · rw [if_pos ((sgnX32 _ _).mpr (by rw [zI_T (by omega) h2, h100]; omega)), ← zI_of (zI z / 100), hd, (tdiv_100 z).1 (by omega)]
theorem fdL_z {z : Int} (h1 : -4611686018427387904 < z) (h2 : z ≤ 4611686018427387904) : fdL (zL z) 100 = zL (z / 100) := by
  have hd : (zL z / 100).toInt = z.tdiv 100 := by
    rw [Int64.toInt_div_of_ne_right _ _ (by decide), zL_T (by omega) (by omega)]; rfl
  have h100 : (100 : Int64).toInt = 100 := rfl
  have hx : (0 : Int64).toInt = 0 := rfl
  unfold fdL
  by_cases h : z < 0
  · have e := (tdiv_100 z).2 h
    rw [if_neg (fun c => by
      have c1 := cmp_ge.mp c
      have := (sgnX64 _ _).mp (Int64.le_iff_toInt_le.mpr c1)
      rw [zL_T (by omega) (by omega), h100] at this; omega)]
    have hq : zL z / 100 = zL (-((-z) / 100)) := by rw [← zL_of (zL z / 100), hd, e]
    have hm : zL z / 100 * 100 = zL (-((-z) / 100) * 100) := by rw [hq, zL_mul]; rfl
    rw [hm]
    by_cases c : -((-z) / 100) * 100 = z
    · rw [if_pos (by rw [c]; exact cmp_eq.mpr rfl), hq]; congr 1; omega
    · rw [if_neg (fun x => by have := cmp_eq.mp x; rw [zL_T (by omega) (by omega), zL_T (by omega) (by omega)] at this; exact c this), hq, show (1 : Int64) = zL 1 from rfl, ← zL_sub]; congr 1; omega
  · rw [if_pos (cmp_ge.mpr (Int64.le_iff_toInt_le.mp ((sgnX64 _ _).mpr (by rw [zL_T (by omega) (by omega), h100]; omega)))), ← zL_of (zL z / 100), hd, (tdiv_100 z).1 (by omega)]
/-! sums -/
def zS (f : Nat → Int) : Nat → Int
  | 0 => 0
  | n + 1 => zS f n + f n
theorem zS_congr {f h : Nat → Int} : ∀ n, (∀ i, i < n → f i = h i) → zS f n = zS h n
  | 0, _ => rfl
  | n + 1, hi => by unfold zS; rw [zS_congr n (fun i h => hi i (by omega)), hi n (by omega)]
theorem zS_nn {f : Nat → Int} : ∀ n, (∀ i, i < n → 0 ≤ f i) → 0 ≤ zS f n
  | 0, _ => Int.le_refl 0
  | n + 1, hi => by
    have h1 := zS_nn n (fun i h => hi i (by omega))
    have h2 := hi n (by omega)
    unfold zS; omega
theorem zS_le {f h : Nat → Int} : ∀ n, (∀ i, i < n → f i ≤ h i) → zS f n ≤ zS h n
  | 0, _ => Int.le_refl 0
  | n + 1, hi => by
    have h1 := zS_le n (fun i h => hi i (by omega))
    have h2 := hi n (by omega)
    unfold zS; omega
theorem zS_mulR {f : Nat → Int} (c : Int) : ∀ n, zS (fun i => f i * c) n = zS f n * c
  | 0 => by unfold zS; omega
  | n + 1 => by unfold zS; rw [zS_mulR c n, Int.add_mul]
theorem zS_mono {f : Nat → Int} (hf : ∀ i, 0 ≤ f i) {a b : Nat} (h : a ≤ b) : zS f a ≤ zS f b := by
  induction b with
  | zero => rw [show a = 0 by omega]; exact Int.le_refl _
  | succ b ih =>
    by_cases c : a = b + 1
    · rw [c]; exact Int.le_refl _
    · have h1 := ih (by omega)
      have h2 := hf b
      show _ ≤ zS f b + f b
      omega
theorem zS_bd {f : Nat → Int} {c : Int} : ∀ n, (∀ i, i < n → f i ≤ c) → zS f n ≤ n * c
  | 0, _ => by unfold zS; omega
  | n + 1, hi => by
    have h1 := zS_bd n (fun i h => hi i (by omega))
    have h2 := hi n (by omega)
    unfold zS
    rw [Int.natCast_add, Int.add_mul]; omega
theorem sI_z {f : Nat → Int32} {h : Nat → Int} : ∀ n, (∀ i, i < n → f i = zI (h i)) → sI f n = zI (zS h n)
  | 0, _ => rfl
  | n + 1, hi => by
    show sI f n + f n = zI (zS h n + h n)
    rw [sI_z n (fun i h => hi i (by omega)), hi n (by omega), zI_add]
theorem dI_z {f : Nat → Int32} {h : Nat → Int} {a : Int} : ∀ n, (∀ i, i < n → f i = zI (h i)) → dI (zI a) f n = zI (a - zS h n)
  | 0, _ => by show zI a = zI (a - 0); congr 1; omega
  | n + 1, hi => by
    show dI (zI a) f n - f n = zI (a - (zS h n + h n))
    rw [dI_z n (fun i h => hi i (by omega)), hi n (by omega), ← zI_sub]; congr 1; omega
theorem acL_z {f : Nat → Int64} {h : Nat → Int} {a : Int} : ∀ n, (∀ i, i < n → f i = zL (h i)) → acL (zL a) f n = zL (a + zS h n)
  | 0, _ => by show zL a = zL (a + 0); congr 1; omega
  | n + 1, hi => by
    show acL (zL a) f n + f n = zL (a + (zS h n + h n))
    rw [acL_z n (fun i h => hi i (by omega)), hi n (by omega), ← zL_add]; congr 1; omega
theorem sL_z {f : Nat → Int64} {h : Nat → Int} : ∀ n, (∀ i, i < n → f i = zL (h i)) → sL f n = zL (zS h n)
  | 0, _ => rfl
  | n + 1, hi => by
    show sL f n + f n = zL (zS h n + h n)
    rw [sL_z n (fun i h => hi i (by omega)), hi n (by omega), zL_add]
/-! the Model's row as whole numbers -/
def zW (W : Nat → Int32) (i : Nat) : Int := (W i).toInt
def zC (W : Nat → Int32) (s k : Nat) : Int := zW W (18 + 34 * s + k)
def zSt (W : Nat → Int32) (s : Nat) : Int := 100 - zS (zC W s) 34
theorem zW_I (W : Nat → Int32) (i : Nat) : zI (zW W i) = W i := zI_of _
theorem zW_L (W : Nat → Int32) (i : Nat) : (W i).toInt64 = zL (zW W i) := zL_64 _
theorem wSt_z (W : Nat → Int32) (s : Nat) : wSt W s = zI (zSt W s) := dI_z (a := 100) 34 (fun i _ => (zW_I W (18 + 34 * s + i)).symm)
/-- chances are in bounds -/
def CB (W : Nat → Int32) : Prop := ∀ s, s < 32 → (∀ k, k < 34 → 0 ≤ zC W s k) ∧ zS (zC W s) 34 ≤ 100
def zNum (W : Nat → Int32) (s : Nat) (a b : Int) (row : Nat → Int) : Int := zC W s 32 * a + zC W s 33 * b + zSt W s * row s + zS (fun o => zC W s o * row o) 32
def zMx (W : Nat → Int32) (s : Nat) (a b : Int) (row : Nat → Int) : Int := zNum W s a b row / 100
theorem zS_34 (f : Nat → Int) : zS f 34 = zS f 32 + f 32 + f 33 := rfl
theorem zNum_bd {W : Nat → Int32} (hc : CB W) {s : Nat} (hs : s < 32) {a b lo hi : Int} {row : Nat → Int} (ha : lo ≤ a ∧ a ≤ hi) (hb : lo ≤ b ∧ b ≤ hi) (hr : ∀ o, o < 32 → lo ≤ row o ∧ row o ≤ hi) : 100 * lo ≤ zNum W s a b row ∧ zNum W s a b row ≤ 100 * hi := by
  obtain ⟨h0, h1⟩ := hc s hs
  rw [zS_34] at h1
  have hst : zSt W s = 100 - (zS (zC W s) 32 + zC W s 32 + zC W s 33) := by unfold zSt; rw [zS_34]
  have h32 := h0 32 (by omega)
  have h33 := h0 33 (by omega)
  have hst0 : 0 ≤ zSt W s := by omega
  have u1 := Int.mul_le_mul_of_nonneg_left ha.2 h32
  have u2 := Int.mul_le_mul_of_nonneg_left hb.2 h33
  have u3 := Int.mul_le_mul_of_nonneg_left (hr s hs).2 hst0
  have u4 : zS (fun o => zC W s o * row o) 32 ≤ zS (zC W s) 32 * hi := by
    rw [← zS_mulR]; exact zS_le 32 (fun i h => Int.mul_le_mul_of_nonneg_left (hr i h).2 (h0 i (by omega)))
  have l1 := Int.mul_le_mul_of_nonneg_left ha.1 h32
  have l2 := Int.mul_le_mul_of_nonneg_left hb.1 h33
  have l3 := Int.mul_le_mul_of_nonneg_left (hr s hs).1 hst0
  have l4 : zS (zC W s) 32 * lo ≤ zS (fun o => zC W s o * row o) 32 := by
    rw [← zS_mulR]; exact zS_le 32 (fun i h => Int.mul_le_mul_of_nonneg_left (hr i h).1 (h0 i (by omega)))
  have e1 : zC W s 32 * hi + zC W s 33 * hi + zSt W s * hi + zS (zC W s) 32 * hi = 100 * hi := by
    rw [← Int.add_mul, ← Int.add_mul, ← Int.add_mul, hst]; congr 1; omega
  have e2 : zC W s 32 * lo + zC W s 33 * lo + zSt W s * lo + zS (zC W s) 32 * lo = 100 * lo := by
    rw [← Int.add_mul, ← Int.add_mul, ← Int.add_mul, hst]; congr 1; omega
  unfold zNum
  omega
theorem zMx_bd {W : Nat → Int32} (hc : CB W) {s : Nat} (hs : s < 32) {a b lo hi : Int} {row : Nat → Int} (ha : lo ≤ a ∧ a ≤ hi) (hb : lo ≤ b ∧ b ≤ hi) (hr : ∀ o, o < 32 → lo ≤ row o ∧ row o ≤ hi) : lo ≤ zMx W s a b row ∧ zMx W s a b row ≤ hi := by
  have h := zNum_bd hc hs ha hb hr
  unfold zMx; omega
theorem zNum_congr {W : Nat → Int32} {s : Nat} (hs : s < 32) {a b : Int} {r r' : Nat → Int} (h : ∀ o, o < 32 → r o = r' o) : zNum W s a b r = zNum W s a b r' := by
  unfold zNum; rw [h s hs, zS_congr 32 (fun i hi => by rw [h i hi])]
theorem zMx_congr {W : Nat → Int32} {s : Nat} (hs : s < 32) {a b : Int} {r r' : Nat → Int} (h : ∀ o, o < 32 → r o = r' o) : zMx W s a b r = zMx W s a b r' := by
  unfold zMx; rw [zNum_congr hs h]
/-- the Model's mix -/
theorem mMx_z {W : Nat → Int32} (hc : CB W) {s : Nat} (hs : s < 32) {a b lo hi : Int} {row : Nat → Int} {R : Nat → Int64} {x : Int64} (hlo : -1000000 ≤ lo) (hhi : hi ≤ 1000000) (ha : lo ≤ a ∧ a ≤ hi) (hb : lo ≤ b ∧ b ≤ hi) (hr : ∀ o, o < 32 → lo ≤ row o ∧ row o ≤ hi) (hR : ∀ o, o < 32 → R o = zL (row o)) (hx : x = zL (zC W s 32 * a + zC W s 33 * b + zSt W s * row s)) : mMx W x s R = zL (zMx W s a b row) := by
  have h := zNum_bd hc hs ha hb hr
  unfold mMx
  rw [hx, acL_z (h := fun o => zC W s o * row o) 32 (fun i hi => by rw [zW_L, hR i hi, zL_mul]; rfl)]
  exact fdL_z (z := zNum W s a b row) (by omega) (by omega)
/-! letting on -/
def zLT (W : Nat → Int32) (gw : Int) : Nat → Nat → Int
  | 0, _ => 0
  | t + 1, s => zMx W s gw (-(zW W 8)) (zLT W gw t)
def LB (W : Nat → Int32) : Prop := 0 ≤ zW W 8 ∧ zW W 8 ≤ 9999
theorem zLT_bd {W : Nat → Int32} (hc : CB W) (hl : LB W) {gw : Int} (hg : 0 ≤ gw ∧ gw ≤ 30000) : ∀ t s, s < 32 → -9999 ≤ zLT W gw t s ∧ zLT W gw t s ≤ 30000
  | 0, s, _ => by unfold zLT; omega
  | t + 1, s, hs => by
    unfold zLT
    exact zMx_bd hc hs (by omega) (by unfold LB at hl; omega) (fun o ho => zLT_bd hc hl hg t o ho)
theorem mLT_z {W : Nat → Int32} (hc : CB W) (hl : LB W) {gw : Int} (hg : 0 ≤ gw ∧ gw ≤ 30000) : ∀ t s, s < 32 → mLT W (zI gw) t s = zL (zLT W gw t s)
  | 0, s, _ => rfl
  | t + 1, s, hs => by
    unfold mLT zLT
    refine mMx_z hc hs (lo := -9999) (hi := 30000) (by omega) (by omega) (by omega) (by unfold LB at hl; omega) (fun o ho => zLT_bd hc hl hg t o ho) (fun o ho => mLT_z hc hl hg t o ho) ?_
    have h1 : (W (18 + 34 * s + 32)).toInt64 = zL (zC W s 32) := zW_L _ _
    have h2 : (W (18 + 34 * s + 33)).toInt64 = zL (zC W s 33) := zW_L _ _
    have hst : -2147483648 ≤ zSt W s ∧ zSt W s ≤ 2147483647 := by
      have := hc s hs
      have h3 := zS_nn 34 (fun i hi => this.1 i hi)
      unfold zSt; omega
    rw [h1, h2, zW_L, wSt_z, zI_64 hst.1 hst.2, zI_64 (by omega) (by omega), mLT_z hc hl hg t s hs, ← zL_mul, ← zL_mul, ← zL_mul, ← zL_sub, ← zL_add]
    congr 1
    rw [Int.mul_neg]; omega
