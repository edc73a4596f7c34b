
/-! a match -/
theorem BO.opn {g : GS} {W : Nat → Int32} {gl : List TxL} {rl : Nat → List TxL} {jd b : Int32} {q q2 : Option CD} (hB : BkQ g W) (hZ : Z0 g) (hS : SeQ g q2 rl jd b) (hW : WB W) (hq : GolQ W gl q) {m : Int32} (hm : 0 ≤ m.toInt ∧ m.toInt ≤ 90) {T : Nat} (hT : T ≤ 60) : BO (opAll g m T q) W gl rl m T (mG W) jd b q2 := by
  obtain ⟨h1, h2, h3, h4⟩ := op_z hB hW hZ hm hq hT
  exact ⟨h1, hB.kf (kf_open Fr.rf m T q), h3.trans hW.2.2.2.2.2.2.2.2.2.1.2, hS.fr (h2.1 40 8 rfl) (h2.1 40 9 rfl) (h2.1 40 10 rfl) (h2.1 40 11 rfl), h4⟩
theorem acL_s (a : Int64) (f : Nat → Int64) (n : Nat) : acL a f (n + 1) = acL a f n + f n := rfl
theorem acL_4 (a : Int64) (f : Nat → Int64) (n : Nat) : acL a f (n + 4) = acL a f n + sL (fun i => f (n + i)) 4 := by
  show acL a f n + f n + f (n + 1) + f (n + 2) + f (n + 3) = acL a f n + (0 + f (n + 0) + f (n + 1) + f (n + 2) + f (n + 3))
  rw [Int64.zero_add, Int64.add_assoc, Int64.add_assoc, Int64.add_assoc, ← Int64.add_assoc (f n), ← Int64.add_assoc (f n + f (n + 1))]
  rw [show n + 0 = n from rfl, Int64.add_assoc (f n), Int64.add_assoc (f n)]
theorem sL_cg {f h : Nat → Int64} : ∀ n, (∀ i, i < n → f i = h i) → sL f n = sL h n
  | 0, _ => rfl
  | n + 1, hi => by
    show sL f n + f n = sL h n + h n
    rw [sL_cg n (fun i h => hi i (by omega)), hi n (by omega)]
theorem sL_zero {f : Nat → Int64} : ∀ n, (∀ i, i < n → f i = 0) → sL f n = 0
  | 0, _ => rfl
  | n + 1, hi => by
    show sL f n + f n = 0
    rw [sL_zero n (fun i h => hi i (by omega)), hi n (by omega)]; rfl
theorem rate_z {g : GS} {W : Nat → Int32} (h : BkQ g W) (hW : WB W) {k z i : Nat} (hk : k < mN W) (hz : z < 8) (hi : i < 4) : bk_rt g 20 (nI k) (nI (4 * z + i)) = W (1106 + 34 * k + (2 + (4 * z + i))) ∧ 0 ≤ (W (1106 + 34 * k + (2 + (4 * z + i)))).toInt ∧ (W (1106 + 34 * k + (2 + (4 * z + i)))).toInt ≤ 999 :=
  ⟨bk_rt_z h hW hk (by omega), (hW.2.2.2.2.2.2.1 k hk).2.2 (4 * z + i) (by omega)⟩
theorem arR_f {g : GS} {W : Nat → Int32} (h : BkQ g W) (hW : WB W) {k z : Nat} (hk : k < mN W) (hz : z < 8) : ∀ (d i : Nat), i + d = 4 → ¬ arR g (nI k) z d i = true → ∀ j, i ≤ j → j < 4 → W (1106 + 34 * k + (2 + (4 * z + j))) = 0
  | 0, i, hi, _, j, h1, h2 => by omega
  | d + 1, i, hi, hn, j, h1, h2 => by
    unfold arR at hn
    obtain ⟨r1, r2, r3⟩ := rate_z h hW hk hz (show i < 4 by omega)
    rw [r1] at hn
    by_cases c : W (1106 + 34 * k + (2 + (4 * z + i))) ≤ 0
    · rw [if_pos c] at hn
      by_cases e : j = i
      · subst e
        have := Int32.le_iff_toInt_le.mp c
        rw [Int32.toInt_zero] at this
        exact Int32.toInt_inj.mp (by rw [Int32.toInt_zero]; omega)
      · exact arR_f h hW hk hz d (i + 1) (by omega) hn j (by omega) h2
    · rw [if_neg c] at hn; exact absurd rfl hn
theorem mtT_z {W : Nat → Int32} {gl : List TxL} {rl : Nat → List TxL} {m jd b stp : Int32} {k z i : Nat} (hz : z < 8) (hi : i < 4) : mtT W gl rl m jd b stp (32 * k + 4 * z + i) = (W (1106 + 34 * k + (2 + (4 * z + i)))).toInt64 * mtV stp (jw (mJP W gl rl m k z (wTo W k) jd b (mG W)) 0 (4 * z + i)) (ja (mJP W gl rl m k z (wTo W k) jd b (mG W)) 0 (4 * z + i)) := by
  unfold mtT
  rw [show (32 * k + 4 * z + i) / 32 = k by omega, show (32 * k + 4 * z + i) % 32 = 4 * z + i by omega, show (4 * z + i) / 4 = z by omega]
theorem msZ_z {W : Nat → Int32} {gl : List TxL} {rl : Nat → List TxL} {m : Int32} {T : Nat} {jd b : Int32} {q2 : Option CD} (hW : WB W) (hT : mT W ≤ T) {k : Nat} (hk : k < mN W) {card : Int32} (hc : card = wCd W k (wTo W k)) (st : Bool) : ∀ (d z : Nat) (a : Int64) {g : GS}, z + d = 8 → BO g W gl rl m T (mG W) jd b q2 → a = acL 0 (mtT W gl rl m jd b (bI st)) (32 * k + 4 * z) →
    (msZ q2 (mG W) k card st d z a g).1 = acL 0 (mtT W gl rl m jd b (bI st)) (32 * (k + 1)) ∧ BO (msZ q2 (mG W) k card st d z a g).2 W gl rl m T (mG W) jd b q2
  | 0, z, a, g, hz, h, ha => by
    unfold msZ
    exact ⟨by rw [ha, show 32 * (k + 1) = 32 * k + 4 * z by omega], h⟩
  | d + 1, z, a, g, hz, h, ha => by
    unfold msZ
    by_cases c : arR g (nI k) z 4 0 = true
    · rw [if_pos c]
      obtain ⟨l1, l2⟩ := h.lay hW hT hW.G hk (show z < 8 by omega) (hW.to hk) hc
      have hb := mJP_b hW hk (show z < 8 by omega) (hW.to hk) hW.G gl rl m jd b
      refine msZ_z hW hT hk hc st d (z + 1) _ (by omega) l1 ?_
      rw [show 32 * k + 4 * (z + 1) = 32 * k + 4 * z + 4 by omega, acL_4, ha]
      congr 1
      generalize lyAll g (nI k) (nI z) card q2 (mG W) = g2 at l1 l2
      cases st with
      | false =>
        show rwI g2 (nI k) z = _
        refine sL_cg 4 (fun i hi => ?_)
        rw [mtT_z (by omega) hi, (rate_z l1.2.1 hW hk (show z < 8 by omega) hi).1, show (0 : Int32) = nI 0 from rfl, l2.wo64 hb (j := 0) (Nat.zero_le _) (show 4 * z + i < 32 by omega)]
        rfl
      | true =>
        show srI g2 (nI k) z = _
        refine sL_cg 4 (fun i hi => ?_)
        rw [mtT_z (by omega) hi]
        unfold srF mtV
        rw [(rate_z l1.2.1 hW hk (show z < 8 by omega) hi).1, show (0 : Int32) = nI 0 from rfl, l2.de hW.G (j := 0) (Nat.zero_le _) (show 4 * z + i < 32 by omega)]
        rw [if_pos (show ¬ bI true = nI 0 by decide)]
        by_cases e : ja (mJP W gl rl m k z (wTo W k) jd b (mG W)) 0 (4 * z + i) = nI 0
        · rw [if_neg (fun x => x e), if_neg (fun x => x e), Int64.mul_one]
        · rw [if_pos e, if_pos e, Int64.mul_zero]
    · rw [if_neg c]
      refine msZ_z hW hT hk hc st d (z + 1) a (by omega) h ?_
      have h0 := arR_f h.2.1 hW hk (show z < 8 by omega) 4 0 (by omega) c
      rw [show 32 * k + 4 * (z + 1) = 32 * k + 4 * z + 4 by omega, acL_4, ha, sL_zero 4 (fun i hi => by rw [mtT_z (by omega) hi, h0 i (by omega) hi]; exact Int64.zero_mul), Int64.add_zero]
theorem msS_z {W : Nat → Int32} {gl : List TxL} {rl : Nat → List TxL} {m : Int32} {T : Nat} {jd b : Int32} {q2 : Option CD} (hW : WB W) (hT : mT W ≤ T) (st : Bool) : ∀ (d k : Nat) (a : Int64) {g : GS}, k + d = mN W → BO g W gl rl m T (mG W) jd b q2 → a = acL 0 (mtT W gl rl m jd b (bI st)) (32 * k) →
    (msS q2 (mG W) st d k a g).1 = acL 0 (mtT W gl rl m jd b (bI st)) (32 * mN W) ∧ BO (msS q2 (mG W) st d k a g).2 W gl rl m T (mG W) jd b q2
  | 0, k, a, g, hk, h, ha => by
    unfold msS
    exact ⟨by rw [ha, show mN W = k by omega], h⟩
  | d + 1, k, a, g, hk, h, ha => by
    unfold msS
    obtain ⟨i1, i2⟩ := msZ_z hW hT (show k < mN W by omega) (bk_cn_z h.2.1 hW (show k < mN W by omega)) st 8 0 a (by omega) h ha
    exact msS_z hW hT st d (k + 1) _ (by omega) i2 i1
theorem tenI (i : Nat) (hi : i < 9) : 0 ≤ (nI (10 * i)).toInt ∧ (nI (10 * i)).toInt ≤ 90 := by rw [nI_toInt (by omega)]; omega
theorem mtR_z {W : Nat → Int32} {gl : List TxL} {rl : Nat → List TxL} {jd b : Int32} {q q2 : Option CD} (hW : WB W) (hq : GolQ W gl q) : ∀ (d i : Nat) (a : Int64) {g : GS}, i + d = 9 → BkQ g W → Z0 g → SeQ g q2 rl jd b → a = acL 0 (fun i => mtM W gl rl (nI (10 * i)) jd b 0) i →
    (mtR q q2 (mT W) (mG W) (mN W) d i a g).1 = acL 0 (fun i => mtM W gl rl (nI (10 * i)) jd b 0) 9 ∧ BkQ (mtR q q2 (mT W) (mG W) (mN W) d i a g).2 W ∧ Z0 (mtR q q2 (mT W) (mG W) (mN W) d i a g).2
  | 0, i, a, g, hi, hB, hZ, hS, ha => by
    unfold mtR
    exact ⟨by rw [ha, show i = 9 by omega], hB, hZ⟩
  | d + 1, i, a, g, hi, hB, hZ, hS, ha => by
    unfold mtR
    have hO := BO.opn hB hZ hS hW hq (tenI i (by omega)) hW.T
    obtain ⟨s1, s2⟩ := msS_z hW (Nat.le_refl _) false (mN W) 0 0 (by omega) hO rfl
    refine mtR_z hW hq d (i + 1) _ (by omega) s2.2.1 s2.2.2.2.2 s2.2.2.2.1 ?_
    rw [acL_s, ha, s1]; rfl
theorem v_match {g : GS} {W : Nat → Int32} {gl : List TxL} {rl : Nat → List TxL} {q q2 : Option CD} (h : CQ g W gl q) {jd : Int32} (hj : JdQ q2 rl jd) (b : Int32) (st : Bool) :
    (mtA g jd b st q q2 (mT W) (mG W) (mN W)).1 = (bif st then mtM W gl rl (W 6) jd b 1 else fdL (acL 0 (fun i => mtM W gl rl (nI (10 * i)) jd b 0) 9) 9) ∧ Z0 (mtA g jd b st q q2 (mT W) (mG W) (mN W)).2 := by
  have hB : BkQ (mtS g jd b) W := (h.1.s40 8 jd).s40 9 b
  have hZ : Z0 (mtS g jd b) := h.2.2.1
  have hS : SeQ (mtS g jd b) q2 rl jd b := SeQ.of hj
  unfold mtA
  cases st with
  | true =>
    have hO := BO.opn hB hZ hS h.2.1 h.2.2.2 (m := W 6) h.m6 h.2.1.T
    have := msS_z h.2.1 (Nat.le_refl _) true (mN W) 0 0 (by omega) hO rfl
    rw [h.e14]
    exact ⟨this.1, this.2.2.2.2.2⟩
  | false =>
    obtain ⟨r1, r2, r3⟩ := mtR_z h.2.1 h.2.2.2 9 0 0 (by omega) hB hZ hS rfl
    show fdL (mtR q q2 (mT W) (mG W) (mN W) 9 0 0 (mtS g jd b)).1 9 = _ ∧ _
    rw [r1]
    exact ⟨rfl, r3⟩
