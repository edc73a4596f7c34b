
/-! ways -/
def ch : Nat → Nat → Nat
  | 0, k => if k = 0 then 1 else 0
  | n + 1, k => ch n k + (if k = 0 then 0 else ch n (k - 1))
theorem ch_0 : ∀ n, ch n 0 = 1
  | 0 => rfl
  | n + 1 => by show ch n 0 + 0 = 1; rw [ch_0 n]
theorem ch_s (n k : Nat) : ch (n + 1) (k + 1) = ch n (k + 1) + ch n k := by
  show ch n (k + 1) + (if k + 1 = 0 then 0 else ch n (k + 1 - 1)) = _
  rw [if_neg (by omega)]; rfl
theorem ch_big : ∀ n k, n < k → ch n k = 0
  | 0, k, h => by show (if k = 0 then 1 else 0) = 0; rw [if_neg (by omega)]
  | n + 1, k, h => by
    obtain ⟨j, rfl⟩ : ∃ j, k = j + 1 := ⟨k - 1, by omega⟩
    rw [ch_s, ch_big n (j + 1) (by omega), ch_big n j (by omega)]
theorem ch_mul : ∀ n k, (k + 1) * ch n (k + 1) = (n - k) * ch n k
  | 0, k => by
    rw [ch_big 0 (k + 1) (by omega), Nat.zero_sub, Nat.zero_mul, Nat.mul_zero]
  | n + 1, 0 => by
    rw [ch_s, ch_0, ch_0]
    have := ch_mul n 0
    rw [ch_0] at this
    omega
  | n + 1, j + 1 => by
    have i1 := ch_mul n (j + 1)
    have i2 := ch_mul n j
    rw [ch_s n (j + 1), ch_s n j, Nat.mul_add, i1, show n + 1 - (j + 1) = n - j by omega, Nat.mul_add, ← i2, ← Nat.add_mul, ← Nat.add_mul]
    by_cases c : j + 1 ≤ n
    · congr 1; omega
    · rw [ch_big n (j + 1) (by omega), Nat.mul_zero, Nat.mul_zero]
theorem ch_abs (n k : Nat) (h : k ≤ n) : (k + 1) * ch (n + 1) (k + 1) = (n + 1) * ch n k := by
  rw [ch_s, Nat.mul_add, ch_mul, ← Nat.add_mul]; congr 1; omega
theorem ch_2 : ∀ n k, ch n k ≤ 2 ^ n
  | 0, k => by show (if k = 0 then 1 else 0) ≤ 1; split <;> omega
  | n + 1, 0 => by rw [ch_0]; exact Nat.one_le_two_pow
  | n + 1, k + 1 => by
    rw [ch_s, Nat.pow_succ]
    have := ch_2 n (k + 1)
    have := ch_2 n k
    omega
theorem ch_mono (k : Nat) {n m : Nat} (h : n ≤ m) : ch n k ≤ ch m k := by
  induction m with
  | zero => rw [show n = 0 by omega]; exact Nat.le_refl _
  | succ m ih =>
    by_cases c : n = m + 1
    · rw [c]; exact Nat.le_refl _
    · exact Nat.le_trans (ih (by omega)) (Nat.le_add_right _ _)
/-! a row of ways, reckoned -/
def prS (r : List Nat) : List Nat := List.zipWith (fun a b => a + b) (r ++ [0]) (0 :: r)
def pr : Nat → List Nat
  | 0 => [1]
  | n + 1 => prS (pr n)
theorem pr_len : ∀ n, (pr n).length = n + 1
  | 0 => rfl
  | n + 1 => by show (prS (pr n)).length = _; unfold prS; rw [List.length_zipWith, List.length_append, pr_len n, show (0 :: pr n).length = n + 1 + 1 by rw [List.length_cons, pr_len n]]; show min (n + 1 + 1) (n + 1 + 1) = _; omega
theorem pr_ch : ∀ n k, (pr n).getD k 0 = ch n k
  | 0, 0 => rfl
  | 0, k + 1 => by rw [ch_big 0 (k + 1) (by omega)]; rfl
  | n + 1, k => by
    have hl := pr_len n
    show (prS (pr n)).getD k 0 = _
    unfold prS
    rw [List.getD_eq_getElem?_getD, List.getElem?_zipWith]
    by_cases c : k < n + 1
    · have e1 : (pr n ++ [0])[k]? = some (ch n k) := by
        rw [List.getElem?_append_left (by omega), ← pr_ch n k, List.getD_eq_getElem?_getD, List.getElem?_eq_getElem (by omega)]; rfl
      rw [e1]
      cases k with
      | zero => rw [ch_0, ch_0]; rfl
      | succ k =>
        have e2 : (0 :: pr n)[k + 1]? = some (ch n k) := by
          rw [List.getElem?_cons_succ, ← pr_ch n k, List.getD_eq_getElem?_getD, List.getElem?_eq_getElem (by omega)]; rfl
        rw [e2, ch_s]; rfl
    · obtain ⟨j, rfl⟩ : ∃ j, k = j + 1 := ⟨k - 1, by omega⟩
      by_cases d : j + 1 = n + 1
      · have e1 : (pr n ++ [0])[j + 1]? = some 0 := by
          rw [List.getElem?_append_right (by omega), hl, d, Nat.sub_self]; rfl
        have e2 : (0 :: pr n)[j + 1]? = some (ch n j) := by
          rw [List.getElem?_cons_succ, ← pr_ch n j, List.getD_eq_getElem?_getD, List.getElem?_eq_getElem (by omega)]; rfl
        rw [e1, e2, ch_s, ch_big n (j + 1) (by omega)]; rfl
      · have e1 : (pr n ++ [0])[j + 1]? = none := List.getElem?_eq_none (by rw [List.length_append, hl]; show n + 1 + 1 ≤ j + 1; omega)
        rw [e1, ch_big (n + 1) (j + 1) (by omega)]; rfl
theorem pr_60 : ∀ i : Fin 61, (i.val + 1) * (pr 60).getD (i.val + 1) 0 ≤ 9223372036854775807 := by decide +kernel
theorem ch_b {n i : Nat} (hn : n ≤ 60) : (i + 1) * ch n (i + 1) ≤ 9223372036854775807 := by
  by_cases c : i < 61
  · have h := pr_60 ⟨i, c⟩
    rw [pr_ch] at h
    exact Nat.le_trans (Nat.mul_le_mul_left _ (ch_mono _ hn)) h
  · rw [ch_big n (i + 1) (by omega)]; omega
theorem ch_b1 {n i : Nat} (hn : n ≤ 60) : ch n i ≤ 9223372036854775807 := by
  cases i with
  | zero => rw [ch_0]; omega
  | succ i =>
    have h := ch_b (i := i) hn
    have : ch n (i + 1) ≤ (i + 1) * ch n (i + 1) := Nat.le_mul_of_pos_left _ (by omega)
    omega
theorem zL_div {a b : Int} (h1 : 0 ≤ a) (h2 : a ≤ 9223372036854775807) (h3 : 0 < b) (h4 : b ≤ 1000000) : zL a / zL b = zL (a / b) := by
  have e : (zL a / zL b).toInt = a / b := by
    rw [lg_ldiv_nonneg (by rw [zL_T (by omega) (by omega)]; exact h1) (by rw [zL_T (by omega) (by omega)]; exact h3), zL_T (by omega) (by omega), zL_T (by omega) (by omega)]
  rw [← zL_of (zL a / zL b), e]
theorem wyR_z {n : Nat} (hn : n ≤ 60) : ∀ (k i : Nat), i + k ≤ 100 → wyR (nI n) k i (zL (ch n i : Nat)) = zL (ch n (i + k) : Nat)
  | 0, i, _ => rfl
  | k + 1, i, h => by
    have ih := wyR_z hn k (i + 1) (by omega)
    unfold wyR
    have e1 : (nI n - nI i).toInt64 = zL ((n : Int) - i) := by rw [zI_n, zI_n, ← zI_sub, zI_64 (by omega) (by omega)]
    have e2 : (nI i + 1).toInt64 = zL ((i : Int) + 1) := by
      rw [zI_n, show (1 : Int32) = zI 1 from rfl, ← zI_add, zI_64 (by omega) (by omega)]
    have e3 : zL (ch n i : Nat) * (nI n - nI i).toInt64 / (nI i + 1).toInt64 = zL (ch n (i + 1) : Nat) := by
      rw [e1, e2, ← zL_mul]
      have hm := ch_mul n i
      have hb := ch_b (i := i) hn
      have ep : ((ch n i : Nat) : Int) * ((n : Int) - i) = (((i + 1) * ch n (i + 1) : Nat) : Int) := by
        by_cases c : i ≤ n
        · rw [hm]
          have : ((n : Int) - i) = ((n - i : Nat) : Int) := by omega
          rw [this, ← Int.natCast_mul, Nat.mul_comm]
        · rw [ch_big n i (by omega), ch_big n (i + 1) (by omega)]; simp
      rw [ep, zL_div (by omega) (by omega) (by omega) (by omega)]
      congr 1
      have : ((i : Int) + 1) = ((i + 1 : Nat) : Int) := by omega
      rw [this, ← Int.natCast_ediv, Nat.mul_div_cancel_left _ (by omega)]
    rw [e3, ih]
    congr 3; omega
theorem wyR_1 {n : Nat} (hn : n ≤ 60) {k : Nat} (hk : k ≤ 60) : wyR (nI n) k 0 1 = zL (ch n k : Nat) := by
  have := wyR_z hn k 0 (by omega)
  rw [ch_0, Nat.zero_add] at this
  exact this
theorem chI_z {of n : Nat} (h1 : n ≤ of) (h2 : of ≤ 30) : ∀ k, k ≤ n → chI of n k = zL (ch (of - n + k) k : Nat)
  | 0, _ => by rw [ch_0]; rfl
  | k + 1, h => by
    have ih := chI_z h1 h2 k (by omega)
    unfold chI
    have hb := ch_2 (of - n + k) k
    have hp : 2 ^ (of - n + k) ≤ 2 ^ 30 := Nat.pow_le_pow_right (by omega) (by omega)
    have hm := ch_abs (of - n + k) k (by omega)
    have hle : (of - n + k + 1) * ch (of - n + k) k ≤ 31 * 2 ^ 30 := Nat.mul_le_mul (by omega) (Nat.le_trans hb hp)
    rw [ih, zL_64, zL_64, nI_toInt (by omega), nI_toInt (by omega), ← zL_mul]
    have ep : ((ch (of - n + k) k : Nat) : Int) * ((of - n + (k + 1) : Nat) : Int) = (((k + 1) * ch (of - n + k + 1) (k + 1) : Nat) : Int) := by
      rw [hm, ← Int.natCast_mul, Nat.mul_comm]; rfl
    rw [ep, zL_div (by omega) (by rw [hm]; omega) (by omega) (by omega), ← Int.natCast_ediv, Nat.mul_div_cancel_left _ (by omega)]; rfl
theorem chV_z {of k : Nat} (h2 : of ≤ 30) (hk : k ≤ 100) : chV of (nI k) = zL (ch of k : Nat) := by
  unfold chV
  rw [if_neg (fun z => by have := Int32.lt_iff_toInt_lt.mp z; rw [nI_toInt (by omega), Int32.toInt_zero] at this; omega)]
  by_cases c : of < k
  · rw [if_pos (nI_ltn c (by omega)), ch_big of k c]; rfl
  · rw [if_neg (fun z => c (nI_ltd (by omega) (by omega) z)), show (nI k).toNatClampNeg = k from nN_nI (by omega), chI_z (by omega) h2 k (Nat.le_refl _), show of - k + k = of by omega]
theorem chV_n {of t k : Nat} (h : t < k) (hk : k ≤ 100) : chV of (nI t - nI k) = 0 := by
  unfold chV
  rw [if_pos]
  rw [zI_n, zI_n, ← zI_sub, show (0 : Int32) = zI 0 from rfl]
  exact (zI_lt (by omega) (by omega) (by omega) (by omega)).mpr (by omega)
def uT (F S t k : Nat) : Nat := if k ≤ t then ch F k * ch S (t - k) else 0
theorem mln_z {F S t k : Nat} (hF : F ≤ 30) (hS : S ≤ 30) (ht : t ≤ 60) (hk : k ≤ 60) : mlnV F S t k = zL (uT F S t k : Nat) := by
  unfold mlnV uT
  by_cases c : k ≤ t
  · rw [if_pos c, nIs c rfl rfl, chV_z hF (by omega), chV_z hS (by omega), ← zL_mul, Int.natCast_mul]
  · rw [if_neg c, chV_n (by omega) (by omega), Int64.mul_zero]; rfl
/-! sums of ways -/
def nS (f : Nat → Nat) : Nat → Nat
  | 0 => 0
  | n + 1 => nS f n + f n
theorem nS_z (f : Nat → Nat) : ∀ n, zS (fun i => (f i : Nat)) n = (nS f n : Nat)
  | 0 => rfl
  | n + 1 => by unfold zS nS; rw [nS_z f n, Int.natCast_add]
theorem nS_cg {f h : Nat → Nat} : ∀ n, (∀ i, i < n → f i = h i) → nS f n = nS h n
  | 0, _ => rfl
  | n + 1, hi => by unfold nS; rw [nS_cg n (fun i h => hi i (by omega)), hi n (by omega)]
theorem nS_add (f h : Nat → Nat) : ∀ n, nS (fun i => f i + h i) n = nS f n + nS h n
  | 0 => rfl
  | n + 1 => by unfold nS; rw [nS_add f h n]; omega
theorem nS_sh (f : Nat → Nat) : ∀ n, nS f (n + 1) = f 0 + nS (fun i => f (i + 1)) n
  | 0 => by show 0 + f 0 = f 0 + 0; omega
  | n + 1 => by
    show nS f (n + 1) + f (n + 1) = f 0 + (nS (fun i => f (i + 1)) n + f (n + 1))
    rw [nS_sh f n]; omega
theorem nS_ext {f : Nat → Nat} {n : Nat} : ∀ m, n ≤ m → (∀ i, n ≤ i → i < m → f i = 0) → nS f m = nS f n
  | 0, h, _ => by rw [show n = 0 by omega]
  | m + 1, h, hz => by
    by_cases c : n = m + 1
    · rw [c]
    · show nS f m + f m = _
      rw [nS_ext m (by omega) (fun i a b => hz i a (by omega)), hz m (by omega) (by omega)]; rfl
theorem vdm : ∀ (F S t : Nat), nS (fun k => ch F k * ch S (t - k)) (t + 1) = ch (F + S) t
  | 0, S, t => by
    rw [nS_sh, nS_cg (h := fun _ => 0) t (fun i _ => by rw [ch_big 0 (i + 1) (by omega), Nat.zero_mul])]
    have z : ∀ m, nS (fun _ => 0) m = 0 := fun m => by
      induction m with
      | zero => rfl
      | succ m ih => unfold nS; rw [ih]
    rw [z, ch_0, Nat.one_mul, Nat.sub_zero, Nat.zero_add]; rfl
  | F + 1, S, 0 => by
    show 0 + ch (F + 1) 0 * ch S (0 - 0) = _
    rw [ch_0, ch_0, ch_0]
  | F + 1, S, t + 1 => by
    have i1 := vdm F S (t + 1)
    have i2 := vdm F S t
    have e : nS (fun k => ch (F + 1) k * ch S (t + 1 - k)) (t + 1 + 1) = nS (fun k => ch F k * ch S (t + 1 - k)) (t + 1 + 1) + nS (fun k => (if k = 0 then 0 else ch F (k - 1)) * ch S (t + 1 - k)) (t + 1 + 1) := by
      rw [← nS_add]
      exact nS_cg _ (fun i _ => by show (ch F i + _) * _ = _; rw [Nat.add_mul])
    rw [e, i1, nS_sh (fun k => (if k = 0 then 0 else ch F (k - 1)) * ch S (t + 1 - k)) (t + 1)]
    rw [nS_cg (h := fun k => ch F k * ch S (t - k)) (t + 1) (fun i _ => by
      show (if i + 1 = 0 then 0 else ch F (i + 1 - 1)) * ch S (t + 1 - (i + 1)) = _
      rw [if_neg (by omega), show i + 1 - 1 = i by omega, show t + 1 - (i + 1) = t - i by omega]), i2]
    rw [if_pos rfl, Nat.zero_mul, Nat.zero_add, show F + 1 + S = (F + S) + 1 by omega, ch_s]
theorem nS_off (f : Nat → Nat) (a : Nat) : ∀ n, nS (fun i => f (a + i)) n + nS f a = nS f (a + n)
  | 0 => by show 0 + nS f a = nS f a; omega
  | n + 1 => by
    have := nS_off f a n
    show nS (fun i => f (a + i)) n + f (a + n) + nS f a = nS f (a + n) + f (a + n)
    omega
theorem lnR_z {F S t : Nat} (hF : F ≤ 30) (hS : S ≤ 30) (ht : t ≤ 60) : ∀ (k i : Nat) (a : Int), i + k ≤ t + 1 → i + k ≤ 31 → lnR F S t k i (zL a) = zL (a + (nS (fun j => uT F S t (i + j)) k : Nat))
  | 0, i, a, _, _ => by show zL a = zL (a + 0); congr 1; omega
  | k + 1, i, a, h1, h2 => by
    unfold lnR
    rw [wyR_1 (show F ≤ 60 by omega) (show i ≤ 60 by omega), wyR_1 (show S ≤ 60 by omega) (show t - i ≤ 60 by omega), ← zL_mul, ← zL_add, lnR_z hF hS ht k (i + 1) _ (by omega) (by omega), nS_sh]
    congr 1
    rw [show uT F S t (i + 0) = ch F i * ch S (t - i) by show uT F S t i = _; unfold uT; rw [if_pos (by omega)]]
    rw [nS_cg (f := fun j => uT F S t (i + 1 + j)) (h := fun j => uT F S t (i + (j + 1))) k (fun j _ => by rw [show i + 1 + j = i + (j + 1) by omega]), Int.natCast_add, Int.natCast_mul]; omega
theorem v_leans {F a S c : Nat} (hF : F ≤ 30) (hS : S ≤ 30) (ha : a ≤ F) (hc : c ≤ S) (al : Bool) : lnV F a S c al = acL 0 (fun n => mlnV F S (a + c) ((bif al then 0 else a) + n)) (F + 1 - (bif al then 0 else a)) := by
  have hm : ∀ i0, i0 ≤ F → acL 0 (fun n => mlnV F S (a + c) (i0 + n)) (F + 1 - i0) = zL (nS (fun n => uT F S (a + c) (i0 + n)) (F + 1 - i0) : Nat) := by
    intro i0 h0
    rw [show (0 : Int64) = zL 0 from rfl, acL_z (h := fun n => (uT F S (a + c) (i0 + n) : Nat)) (F + 1 - i0) (fun n hn => mln_z hF hS (by omega) (by omega)), nS_z]
    congr 1; omega
  have hz : ∀ i, a + c < i → uT F S (a + c) i = 0 := fun i h => if_neg (by omega)
  cases al with
  | true =>
    show wyR (nI (F + S)) (a + c) 0 1 = acL 0 (fun n => mlnV F S (a + c) (0 + n)) (F + 1 - 0)
    rw [hm 0 (Nat.zero_le _), wyR_1 (by omega) (by omega)]
    congr 2
    rw [nS_cg (h := fun n => uT F S (a + c) n) (F + 1 - 0) (fun i _ => by rw [Nat.zero_add]), Nat.sub_zero, ← vdm F S (a + c)]
    rw [nS_cg (f := fun k => ch F k * ch S (a + c - k)) (h := fun n => uT F S (a + c) n) (a + c + 1) (fun i hi => by unfold uT; rw [if_pos (by omega)])]
    by_cases d : F ≤ a + c
    · exact nS_ext _ (by omega) (fun i h1 h2 => by unfold uT; rw [if_pos (by omega), ch_big F i (by omega), Nat.zero_mul])
    · exact (nS_ext _ (by omega) (fun i h1 h2 => hz i (by omega))).symm
  | false =>
    show lnR F S (a + c) (min F (a + c) + 1 - a) a 0 = acL 0 (fun n => mlnV F S (a + c) (a + n)) (F + 1 - a)
    rw [hm a ha, show (0 : Int64) = zL 0 from rfl, lnR_z hF hS (by omega) _ a 0 (by omega) (by omega), Int.zero_add]
    congr 2
    exact (nS_ext _ (by omega) (fun i h1 h2 => hz (a + i) (by omega))).symm
/-! two fouls; what is counted; what a stop is worth -/
theorem v_stop {g : GS} {W : Nat → Int32} {gl : List TxL} {q : Option CD} (h : CQ g W gl q) {k z : Nat} (hk : k < mN W) (hz : z < 8) (af : Bool) : (bif af then bk_aw g 20 (nI k) (bk_cn g 20 (nI k)) else bk_sw g 20 (nI z) (bk_cn g 20 (nI k))) = (bif af then wAf W k (wTo W k) else wSw W k z (wTo W k)) := by
  rw [bk_cn_z h.1 h.2.1 hk, bk_aw_z h.1 h.2.1 hk, bk_sw_z h.1 hz]; rfl
theorem twA_z {g : GS} {W : Nat → Int32} {gl : List TxL} {q : Option CD} (h : CQ g W gl q) {k z : Nat} (hk : k < mN W) (hz : z < 8) : twA g (nI k) (nI z) = wSw W k z (wTo W k) := by
  unfold twA
  rw [bk_cn_z h.1 h.2.1 hk, bk_sw_z h.1 hz]; rfl
theorem v_two {g : GS} {W : Nat → Int32} {gl : List TxL} {q : Option CD} (h : CQ g W gl q) (rl : Nat → List TxL) {k z k2 z2 s : Nat} (hk : k < mN W) (hz : z < 8) (hk2 : k2 < mN W) (hz2 : z2 < 8) (hs : s < 32) (w : Bool) :
    twV g (nI k) (nI z) (nI k2) (nI z2) (nI s) w q (mT W) (mG W) = (bif w then mtwV (wSw W k z (wTo W k)) (wSw W k2 z2 (wTo W k2)) (jw (mJP W gl rl (W 6) k z (wTo W k) 3 0 (mG W)) 0 s) else (mtwW (wSw W k z (wTo W k)) (wSw W k2 z2 (wTo W k2))).toInt64) ∧ Z0 (twW g (nI k) (nI z) (nI k2) (nI z2) w q (mT W) (mG W)) := by
  have e1 := twA_z h hk hz
  have e2 := twA_z h hk2 hz2
  have st := st_z h (rl := rl) JdQ_3 0 hk hz
  have v := (v_judge h (rl := rl) JdQ_3 0 hk hz (Nat.zero_le _) hs).1
  have hzz := h.2.2.1
  refine ⟨?_, ?_⟩
  · unfold twV mtwV mtwW
    rw [e1, e2]
    generalize wSw W k z (wTo W k) = A
    generalize wSw W k2 z2 (wTo W k2) = B
    by_cases c : A = B
    · subst c
      have hr : A ≤ A := Int32.le_iff_toInt_le.mpr (Int.le_refl _)
      rw [if_pos rfl, if_pos hr, if_pos hr]
      cases w <;> rfl
    · rw [if_neg c]
      have ht : ¬ A.toInt = B.toInt := fun z => c (Int32.toInt_inj.mp z)
      by_cases d : B ≤ A
      · have nd : ¬ A ≤ B := fun z => by have := Int32.le_iff_toInt_le.mp z; have := Int32.le_iff_toInt_le.mp d; omega
        rw [if_pos d, if_neg nd]
        cases w with
        | true => exact v
        | false => rfl
      · have nd : A ≤ B := Int32.le_iff_toInt_le.mpr (by
          have : ¬ B.toInt ≤ A.toInt := fun z => d (Int32.le_iff_toInt_le.mpr z)
          omega)
        rw [if_neg d, if_pos nd, if_neg d]
        cases w <;> rfl
  · unfold twW
    split
    · exact hzz
    · split
      · cases w with
        | true => exact st.1.2.2.2.2
        | false => exact hzz
      · exact hzz
theorem cn8_z {W : Nat → Int32} (hW : CB W) {n : Nat} (hn : n < 32) : cn8 W n = if zS (zC W n) 34 ≤ zC W n n then 0 else 1 := by
  have c := hW n hn
  have c0 := zS_nn (f := zC W n) 34 (fun i hi => c.1 i hi)
  have cn := zC_100 hW hn (show n < 34 by omega)
  have es : zSt W n = 100 - zS (zC W n) 34 := rfl
  have e : 100 - wSt W n - W (18 + 34 * n + n) = zI (zS (zC W n) 34 - zC W n n) := by
    rw [← zW_I W (18 + 34 * n + n), wSt_z, show (100 : Int32) = zI 100 from rfl, ← zI_sub, ← zI_sub]
    congr 1
    have ez : zW W (18 + 34 * n + n) = zC W n n := rfl
    rw [ez, es]; omega
  unfold cn8
  rw [e]
  by_cases d : zS (zC W n) 34 ≤ zC W n n
  · rw [if_pos d, if_pos (show zI (zS (zC W n) 34 - zC W n n) ≤ 0 from (zI_le (b := 0) (by omega) (by omega) (by omega) (by omega)).mpr (by omega))]
  · rw [if_neg d, if_neg (fun z => d (by have := (zI_le (b := 0) (by omega) (by omega) (by omega) (by omega)).mp z; omega))]
theorem lv_z {g : GS} {W : Nat → Int32} (h : BkQ g W) (hW : WB W) : ∀ n, n ≤ 32 → bk_lv g 20 n = sI (cn8 W) n
  | 0, _ => rfl
  | n + 1, hn => by
    have ih := lv_z h hW n (by omega)
    have c := hW.1 n (by omega)
    have c0 := zS_nn (f := zC W n) 34 (fun i hi => c.1 i hi)
    have cn := zC_100 hW.1 (show n < 32 by omega) (show n < 34 by omega)
    show (if bk_ct g 20 (nI n) ≤ bk_ch g 20 (nI n) (nI n) then bk_lv g 20 n else bk_lv g 20 n + 1) = sI (cn8 W) n + cn8 W n
    have e2 : bk_ch g 20 (nI n) (nI n) = zI (zC W n n) := (bk_ch_z h.1 (show n < 32 by omega) (by omega)).trans (zW_I W _).symm
    rw [bk_ct_z h.1 (by omega), e2, ih, cn8_z hW.1 (by omega)]
    by_cases d : zS (zC W n) 34 ≤ zC W n n
    · rw [if_pos ((zI_le (by omega) (by omega) (by omega) (by omega)).mpr d), if_pos d, Int32.add_zero]
    · rw [if_neg (fun z => d ((zI_le (by omega) (by omega) (by omega) (by omega)).mp z)), if_neg d]
theorem v_count {g : GS} {W : Nat → Int32} {gl : List TxL} {q : Option CD} (h : CQ g W gl q) {l : Int32} (hl : l = if ¬ W 3 = 1 then 0 else W (1310 + 861 * 4)) (x : Int32) : coV g x l (mN W) = ctV W x := by
  obtain ⟨-, -, -, -, h0, h1, h2, h4, h5, h6, h7, -, -⟩ := h.1
  unfold coV ctV
  rw [h0, h1, h2, h4, h5, h6, h7, hl, lv_z h.1 h.2.1 32 (Nat.le_refl _), (rr_z h.1 h.2.1).2]
