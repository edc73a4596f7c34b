
/-! two tapes: bytes from 0 on, bytes with signs -/
def ByE (c b : Int32) : Prop := (0 ≤ b.toInt ∧ b.toInt ≤ 255) ∧ (b.toInt < 128 → c = b) ∧ (128 ≤ b.toInt → c.toInt < 0)
def TpE (n : Nat) (C B : Nat → Int32) : Prop := ∀ i, i < n → ByE (C i) (B i)
theorem ByE.rng {c b : Int32} (h : ByE c b) {lo hi : Int32} (h0 : 0 ≤ lo.toInt) (h1 : hi.toInt < 128) : (if c < lo then false else if hi < c then false else true) = (if b < lo then false else if hi < b then false else true) := by
  obtain ⟨⟨a1, a2⟩, a3, a4⟩ := h
  by_cases d : b.toInt < 128
  · rw [a3 d]
  · have hc := a4 (by omega)
    rw [if_pos (Int32.lt_iff_toInt_lt.mpr (by omega))]
    by_cases e : b < lo
    · rw [if_pos e]
    · rw [if_neg e, if_pos (Int32.lt_iff_toInt_lt.mpr (by omega))]
theorem ByE.L {c b : Int32} (h : ByE c b) : isL c = isL b := h.rng (lo := 97) (hi := 122) (by decide) (by decide)
theorem ByE.D {c b : Int32} (h : ByE c b) : isD c = isD b := h.rng (lo := 48) (hi := 57) (by decide) (by decide)
theorem ByE.eqc {c b : Int32} (h : ByE c b) {w : Int32} (h0 : 0 ≤ w.toInt) (h1 : w.toInt < 128) : c = w ↔ b = w := by
  obtain ⟨⟨a1, a2⟩, a3, a4⟩ := h
  by_cases d : b.toInt < 128
  · rw [a3 d]
  · have hc := a4 (by omega)
    constructor
    · intro e; rw [e] at hc; omega
    · intro e; rw [e] at d; omega
theorem ByE.B {c b : Int32} (h : ByE c b) : isB c = isB b := by
  unfold isB
  exact ite_iff (h.eqc (w := 32) (by decide) (by decide)) _ _
theorem isD_lo {b : Int32} (h : isD b = true) : b.toInt < 128 := by
  unfold isD at h
  by_cases c : b < 48
  · rw [if_pos c] at h; cases h
  · rw [if_neg c] at h
    by_cases d : 57 < b
    · rw [if_pos d] at h; cases h
    · have : ¬ (57 : Int32).toInt < b.toInt := fun z => d (Int32.lt_iff_toInt_lt.mpr z)
      have e : (57 : Int32).toInt = 57 := rfl
      omega
theorem rnN_cg {n : Nat} {C B : Nat → Int32} {P : Int32 → Bool} (h : ∀ i, i < n → P (C i) = P (B i)) : ∀ k e, rnN n C P k e = rnN n B P k e
  | 0, e => rfl
  | k + 1, e => by
    unfold rnN
    by_cases c : e < n
    · rw [if_pos c, if_pos c, h e c, rnN_cg h k (e + 1)]
    · rw [if_neg c, if_neg c]
theorem sk_cg {n : Nat} {C B : Nat → Int32} (h : TpE n C B) (p : Nat) : sk n C p = sk n B p := rnN_cg (fun i hi => (h i hi).B) 400 p
theorem rnN_out {n : Nat} {B : Nat → Int32} {P : Int32 → Bool} {k e : Nat} (h : ¬ e < n) : rnN n B P k e = e := by
  cases k with
  | zero => rfl
  | succ k => unfold rnN; rw [if_neg h]
theorem teN_out {n : Nat} {B : Nat → Int32} {b : Nat} (h : ¬ b < n) : teN n B b = b + 1 := by
  unfold teN
  rw [rnN_out (show ¬ b + 1 < n by omega), rnN_out (show ¬ b + 1 < n by omega)]
  split
  · rfl
  · split <;> rfl
theorem teN_cg {n : Nat} {C B : Nat → Int32} (h : TpE n C B) (b : Nat) : teN n C b = teN n B b := by
  by_cases c : b < n
  · unfold teN
    rw [(h b c).L, (h b c).D, rnN_cg (fun i hi => (h i hi).L), rnN_cg (fun i hi => (h i hi).D)]
  · rw [teN_out c, teN_out c]
theorem nuN_cg {C B : Nat → Int32} : ∀ (k i : Nat) (v : Int32), (∀ j, i ≤ j → j < i + k → C j = B j) → nuN C k i v = nuN B k i v
  | 0, _, _, _ => rfl
  | k + 1, i, v, h => by
    unfold nuN
    rw [h i (Nat.le_refl _) (by omega), nuN_cg k (i + 1) _ (fun j a b => h j (by omega) (by omega))]
theorem wCh_b : ∀ (j : Fin 23) (i : Fin 7), 0 ≤ (wCh j.val i.val).toInt ∧ (wCh j.val i.val).toInt < 128 := by decide +kernel
theorem wLen_b : ∀ j : Fin 23, wLen.getD j.val 0 ≤ 6 := by decide +kernel
theorem stN_cg {n : Nat} {C B : Nat → Int32} (h : TpE n C B) {j a : Nat} (hj : j < 23) : ∀ (k i : Nat), i + k ≤ 7 → a + i + k ≤ n → stN C j a k i = stN B j a k i
  | 0, _, _, _ => rfl
  | k + 1, i, h1, h2 => by
    unfold stN
    have w := wCh_b ⟨j, hj⟩ ⟨i, by omega⟩
    rw [ite_iff ((h (a + i) (by omega)).eqc w.1 w.2), stN_cg h hj k (i + 1) (by omega) (by omega)]
theorem wdN_cg {n : Nat} {C B : Nat → Int32} (h : TpE n C B) {b j : Nat} (hb : b < n) (hj : j < 23) : wdN n C b j = wdN n B b j := by
  unfold wdN
  rw [teN_cg h b]
  by_cases c : teN n B b - b = wLen.getD j 0
  · have t := teN_le n B b hb
    have w := wLen_b ⟨j, hj⟩
    have w' : wLen.getD j 0 ≤ 6 := w
    rw [if_pos c, if_pos c, stN_cg h hj _ 0 (by omega) (by omega)]
  · rw [if_neg c, if_neg c]
theorem fwN_cg {n : Nat} {C B : Nat → Int32} (h : TpE n C B) {b : Nat} (hb : b < n) : ∀ k j, j + k ≤ 23 → fwN n C b k j = fwN n B b k j
  | 0, _, _ => rfl
  | k + 1, j, hk => by
    unfold fwN
    rw [wdN_cg h hb (by omega), fwN_cg h hb k (j + 1) (by omega)]
theorem obNum_cg {n : Nat} {C B : Nat → Int32} (h : TpE n C B) (b : Nat) : obNum n C b = obNum n B b := by
  unfold obNum
  by_cases c : b < n
  · rw [(h b c).D, teN_cg h b]
    by_cases d : b < n ∧ isD (B b) = true ∧ teN n B b - b ≤ 4
    · rw [if_pos d, if_pos d]
      have t := teN_le n B b c
      refine nuN_cg _ b 0 (fun j h1 h2 => ?_)
      have hD : isD (B j) = true := by
        by_cases e : j = b
        · rw [e]; exact d.2.1
        · have eL : isL (B b) = false := by
            cases hx : isL (B b) with
            | false => rfl
            | true =>
              have := isD_lo d.2.1
              unfold isL at hx
              by_cases z : B b < 97
              · rw [if_pos z] at hx; cases hx
              · have z1 : ¬ (B b).toInt < 97 := fun y => z (Int32.lt_iff_toInt_lt.mpr y)
                have y := d.2.1
                unfold isD at y
                by_cases z2 : B b < 48
                · rw [if_pos z2] at y; cases y
                · rw [if_neg z2, if_pos (Int32.lt_iff_toInt_lt.mpr (show (57 : Int32).toInt < (B b).toInt by show (57 : Int) < _; omega))] at y; cases y
          have et : teN n B b = rnN n B isD 400 (b + 1) := by
            unfold teN
            rw [if_neg (by rw [eL]; decide), if_pos d.2.1]
          refine rnN_in n B isD 400 (b + 1) j (by omega) ?_
          rw [← et]; omega
      have hj : j < n := by omega
      exact (h j hj).2.1 (isD_lo hD)
    · rw [if_neg d, if_neg d]
  · rw [if_neg (fun z => c z.1), if_neg (fun z => c z.1)]
theorem obSgn_cg {n : Nat} {C B : Nat → Int32} (h : TpE n C B) (b : Nat) {w : Int32} (h0 : 0 < w.toInt) (h1 : w.toInt < 128) : obSgn n C b = w ↔ obSgn n B b = w := by
  unfold obSgn
  have n0 : ¬ (0 : Int32) = w := fun z => by rw [← z, Int32.toInt_zero] at h0; omega
  by_cases c : b < n
  · rw [(h b c).D, (h b c).L]
    by_cases d : b < n ∧ isD (B b) = false ∧ isL (B b) = false
    · rw [if_pos d, if_pos d]; exact (h b c).eqc (by omega) h1
    · rw [if_neg d, if_neg d]
  · rw [if_neg (fun z => c z.1), if_neg (fun z => c z.1)]
theorem obWrd_cg {n : Nat} {C B : Nat → Int32} (h : TpE n C B) (b : Nat) : obWrd n C b = obWrd n B b := by
  unfold obWrd
  by_cases c : b < n
  · rw [(h b c).L]
    by_cases d : b < n ∧ isL (B b) = true
    · rw [if_pos d, if_pos d, fwN_cg h c 23 0 (by omega)]
    · rw [if_neg d, if_neg d]
  · rw [if_neg (fun z => c z.1), if_neg (fun z => c z.1)]
theorem obNxt_cg {n : Nat} {C B : Nat → Int32} (h : TpE n C B) (b : Nat) : obNxt n C b = obNxt n B b := by
  unfold obNxt; rw [teN_cg h, sk_cg h]
theorem sgC_b {c : Int32} (h : sgC c = true) : 0 < c.toInt ∧ c.toInt < 128 := by
  unfold sgC at h
  rcases Bool.or_eq_true_iff.mp h with h | h
  · rcases Bool.or_eq_true_iff.mp h with h | h
    · rcases Bool.or_eq_true_iff.mp h with h | h
      · rcases Bool.or_eq_true_iff.mp h with h | h
        · rcases Bool.or_eq_true_iff.mp h with h | h
          · rcases Bool.or_eq_true_iff.mp h with h | h
            · rw [of_decide_eq_true h]; exact ⟨by show (0 : Int) < 40; omega, by show (40 : Int) < 128; omega⟩
            · rw [of_decide_eq_true h]; exact ⟨by show (0 : Int) < 41; omega, by show (41 : Int) < 128; omega⟩
          · rw [of_decide_eq_true h]; exact ⟨by show (0 : Int) < 42; omega, by show (42 : Int) < 128; omega⟩
        · rw [of_decide_eq_true h]; exact ⟨by show (0 : Int) < 43; omega, by show (43 : Int) < 128; omega⟩
      · rw [of_decide_eq_true h]; exact ⟨by show (0 : Int) < 59; omega, by show (59 : Int) < 128; omega⟩
    · rw [of_decide_eq_true h]; exact ⟨by show (0 : Int) < 60; omega, by show (60 : Int) < 128; omega⟩
  · rw [of_decide_eq_true h]; exact ⟨by show (0 : Int) < 62; omega, by show (62 : Int) < 128; omega⟩
theorem tape_sgn {n : Nat} {C B : Nat → Int32} (h : TpE n C B) (b : Nat) (c : Int32) (hc : sgC c = true) : obSgn n C b = c ↔ obSgn n B b = c := obSgn_cg h b (sgC_b hc).1 (sgC_b hc).2
theorem tape_eq {n : Nat} {C B : Nat → Int32} (h : TpE n C B) : ObEq (obT n C) (obT n B) := by
  unfold ObEq obT oN oNum oWrd oNxt oSgn
  exact ⟨rfl, obNum_cg h, obWrd_cg h, obNxt_cg h, tape_sgn h⟩
/-! fed -/
theorem i8_z (v : Int32) : ByE (vp_nar FieldType.byte v.toInt8.toInt32) (v &&& 255) := by
  have e : vp_nar FieldType.byte v.toInt8.toInt32 = v.toInt8.toInt32 := by
    rw [vp_nar_byte]
    have r := lg_i2b_range v
    exact lg_i2b_small r.1 r.2
  have hb : (v.toInt8.toInt32).toInt = v.toInt.bmod (2 ^ 8) := lg_i2b_toInt v
  have hm : (v &&& 255).toInt = v.toInt % 256 := by
    have h1 : (v &&& 255).toBitVec.toNat = v.toBitVec.toNat % 256 := by
      show (v.toBitVec &&& (255 : Int32).toBitVec).toNat = _
      rw [BitVec.toNat_and]
      exact Nat.and_two_pow_sub_one_eq_mod v.toBitVec.toNat 8
    have h2 : (v &&& 255).toInt = ((v &&& 255).toBitVec.toNat : Int) := by
      show (v &&& 255).toBitVec.toInt = _
      rw [BitVec.toInt_eq_toNat_cond, if_pos (by rw [h1]; omega)]
    have h3 : v.toInt = if 2 * v.toBitVec.toNat < 2 ^ 32 then (v.toBitVec.toNat : Int) else (v.toBitVec.toNat : Int) - 2 ^ 32 := BitVec.toInt_eq_toNat_cond v.toBitVec
    rw [h2, h1, h3]
    split <;> omega
  have e8 : (2 : Nat) ^ 8 = 256 := by decide
  rw [e8] at hb
  rw [e]
  refine ⟨by rw [hm]; omega, fun h => Int32.toInt_inj.mp ?_, fun h => ?_⟩
  · rw [hm] at h ⊢; rw [hb]; simp only [Int.bmod]; split <;> omega
  · rw [hm] at h; rw [hb]; simp only [Int.bmod]; split <;> omega
theorem us8 (x : Int32) {sh : Nat} (hs : sh ≤ 24) : usr x (nI sh) &&& 255 = x >>> (nI sh &&& 31) &&& 255 := by
  apply zb_ext
  intro i hi
  rw [zb_and, zb_and]
  by_cases c : i < 8
  · have e1 := zb_usr x (show sh < 32 by omega) i
    have e2 : zb (x >>> (nI sh &&& 31)) i = zb x (sh + i) := by
      unfold zb
      rw [sar_b x (by omega), BitVec.getLsbD_sshiftRight]
      simp [hi, show sh + i < 32 by omega]
    rw [e1, e2]
  · have m : ∀ j : Fin 32, ¬ j.val < 8 → zb 255 j.val = false := by decide +kernel
    rw [m ⟨i, hi⟩ c, Bool.and_false, Bool.and_false]
theorem byte_z (x : Int32) {sh : Nat} (hs : sh ≤ 24) : ByE (vp_nar FieldType.byte (x >>> (nI sh &&& 31)).toInt8.toInt32) (usr x (nI sh) &&& 255) := by
  rw [us8 x hs]; exact i8_z _
def f11 (c k : Nat) : Bool := Nat.beq c 1 && Nat.beq k 1
def a2o (c : Nat) : Bool := Nat.beq c 2
theorem ad1_z {g : GS} {C : Nat → Int32} {n sh : Nat} {four : Int32} (hn : gF g 1 1 = nI n) (hn4 : n < 400) (hT : TpE n C (gA g 2)) (hs : ByE (C n) (usr four (nI sh) &&& 255)) : gF (ad1 (nI sh) four g) 1 1 = nI (n + 1) ∧ TpE (n + 1) C (gA (ad1 (nI sh) four g) 2) ∧ Fr f11 a2o g (ad1 (nI sh) four g) := by
  refine ⟨?_, fun i hi => ?_, (Fr.rf.sA rfl).sF rfl⟩
  · show gF g 1 1 + 1 = _
    rw [hn]; exact nI_s n
  · show ByE (C i) (rPut 400 (gA g 2) (gF g 1 1) (usr four (nI sh) &&& 255) i)
    rw [hn, rPut_in hn4 (by omega)]
    by_cases d : i = n
    · subst d; rw [upd_here]; exact hs
    · rw [upd_other d]; exact hT i (by omega)
theorem adG_z {g : GS} {C : Nat → Int32} {n : Nat} {four : Int32} (hn : gF g 1 1 = nI n) (hn4 : n + 4 ≤ 400) (hT : TpE n C (gA g 2)) (hs : ∀ j, j < 4 → C (n + j) = vp_nar FieldType.byte (four >>> (nI (24 - 8 * j) &&& 31)).toInt8.toInt32) : gF (adG four g) 1 1 = nI (n + 4) ∧ TpE (n + 4) C (gA (adG four g) 2) ∧ Fr f11 a2o g (adG four g) := by
  have h : ∀ j, j < 4 → ByE (C (n + j)) (usr four (nI (24 - 8 * j)) &&& 255) := fun j hj => by rw [hs j hj]; exact byte_z four (by omega)
  obtain ⟨a1, a2, a3⟩ := ad1_z (sh := 24) (four := four) hn (by omega) hT (h 0 (by omega))
  obtain ⟨b1, b2, b3⟩ := ad1_z (sh := 16) (four := four) a1 (by omega) a2 (h 1 (by omega))
  obtain ⟨c1, c2, c3⟩ := ad1_z (sh := 8) (four := four) b1 (by omega) b2 (h 2 (by omega))
  obtain ⟨d1, d2, d3⟩ := ad1_z (sh := 0) (four := four) c1 (by omega) c2 (h 3 (by omega))
  exact ⟨d1, d2, ((a3.tr b3).tr c3).tr d3⟩
theorem feG_z {g : GS} {C : Nat → Int32} {n : Nat} {a b c d e : Int32} (hn : gF g 1 1 = nI n) (hn4 : n + 20 ≤ 400) (hT : TpE n C (gA g 2)) (hs : ∀ j, j < 20 → C (n + j) = fdB (vs5 a b c d e) j) : gF (feG a b c d e g) 1 1 = nI (n + 20) ∧ TpE (n + 20) C (gA (feG a b c d e g) 2) ∧ Fr f11 a2o g (feG a b c d e g) := by
  have k : ∀ (q : Nat) (x : Int32), q < 5 → vs5 a b c d e q = x → ∀ j, j < 4 → C (n + 4 * q + j) = vp_nar FieldType.byte (x >>> (nI (24 - 8 * j) &&& 31)).toInt8.toInt32 := fun q x hq hx j hj => by
    have := hs (4 * q + j) (by omega)
    unfold fdB at this
    rw [show (4 * q + j) / 4 = q by omega, show (4 * q + j) % 4 = j by omega, hx] at this
    rw [show n + 4 * q + j = n + (4 * q + j) by omega]
    exact this
  obtain ⟨a1, a2, a3⟩ := adG_z (four := a) hn (by omega) hT (k 0 a (by omega) rfl)
  obtain ⟨b1, b2, b3⟩ := adG_z (four := b) a1 (by omega) a2 (k 1 b (by omega) rfl)
  obtain ⟨c1, c2, c3⟩ := adG_z (four := c) b1 (by omega) b2 (k 2 c (by omega) rfl)
  obtain ⟨d1, d2, d3⟩ := adG_z (four := d) c1 (by omega) c2 (k 3 d (by omega) rfl)
  obtain ⟨e1, e2, e3⟩ := adG_z (four := e) d1 (by omega) d2 (k 4 e (by omega) rfl)
  exact ⟨e1, e2, (((a3.tr b3).tr c3).tr d3).tr e3⟩
