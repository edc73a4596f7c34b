/-! what a tape of bytes shows: words, numbers, signs -/
def rnN (n : Nat) (B : Nat → Int32) (P : Int32 → Bool) : Nat → Nat → Nat
  | 0, e => e
  | k + 1, e => if e < n then (if P (B e) = true then rnN n B P k (e + 1) else e) else e
def isB (b : Int32) : Bool := if b = 32 then true else false
def sk (n : Nat) (B : Nat → Int32) (p : Nat) : Nat := rnN n B isB 400 p
def teN (n : Nat) (B : Nat → Int32) (b : Nat) : Nat := if isL (B b) = true then rnN n B isL 400 (b + 1) else if isD (B b) = true then rnN n B isD 400 (b + 1) else b + 1
def nuN (B : Nat → Int32) : Nat → Nat → Int32 → Int32
  | 0, _, v => v
  | k + 1, i, v => nuN B k (i + 1) (10 * v + B i - 48)
def stN (B : Nat → Int32) (j a : Nat) : Nat → Nat → Bool
  | 0, _ => true
  | k + 1, i => if B (a + i) = wCh j i then stN B j a k (i + 1) else false
def wdN (n : Nat) (B : Nat → Int32) (b j : Nat) : Bool := if teN n B b - b = wLen.getD j 0 then stN B j b (wLen.getD j 0) 0 else false
def fwN (n : Nat) (B : Nat → Int32) (b : Nat) : Nat → Nat → Nat
  | 0, _ => 0
  | k + 1, j => if wdN n B b j = true then j else fwN n B b k (j + 1)
def obNum (n : Nat) (B : Nat → Int32) (b : Nat) : Int32 := if b < n ∧ isD (B b) = true ∧ teN n B b - b ≤ 4 then nuN B (teN n B b - b) b 0 else -1
def obSgn (n : Nat) (B : Nat → Int32) (b : Nat) : Int32 := if b < n ∧ isD (B b) = false ∧ isL (B b) = false then B b else 0
def obWrd (n : Nat) (B : Nat → Int32) (b : Nat) : Nat := if b < n ∧ isL (B b) = true then fwN n B b 23 0 else 0
def obNxt (n : Nat) (B : Nat → Int32) (b : Nat) : Nat := sk n B (teN n B b)
def obT (n : Nat) (B : Nat → Int32) : Ob := (n, obNum n B, obSgn n B, obWrd n B, obNxt n B)
theorem rnN_le (n : Nat) (B : Nat → Int32) (P : Int32 → Bool) : ∀ k e, e ≤ n → e ≤ rnN n B P k e ∧ rnN n B P k e ≤ n
  | 0, e, h => ⟨Nat.le_refl _, h⟩
  | k + 1, e, h => by
    unfold rnN
    split
    · split
      · have := rnN_le n B P k (e + 1) (by omega); omega
      · exact ⟨Nat.le_refl _, h⟩
    · exact ⟨Nat.le_refl _, h⟩
/-- what a run has passed, and where it stands -/
theorem rnN_in (n : Nat) (B : Nat → Int32) (P : Int32 → Bool) : ∀ k e i, e ≤ i → i < rnN n B P k e → P (B i) = true
  | 0, e, i, h, h2 => absurd h2 (by unfold rnN; omega)
  | k + 1, e, i, h, h2 => by
    unfold rnN at h2
    split at h2
    · split at h2
      · rename_i h4
        by_cases hi : e = i
        · rw [← hi]; exact h4
        · exact rnN_in n B P k (e + 1) i (by omega) h2
      · omega
    · omega
theorem rnN_end (n : Nat) (B : Nat → Int32) (P : Int32 → Bool) : ∀ k e, n ≤ e + k → rnN n B P k e < n → P (B (rnN n B P k e)) = false
  | 0, e, h, h2 => absurd h2 (by unfold rnN; omega)
  | k + 1, e, h, h2 => by
    unfold rnN at h2 ⊢
    by_cases h1 : e < n
    · rw [if_pos h1] at h2 ⊢
      by_cases h3 : P (B e) = true
      · rw [if_pos h3] at h2 ⊢
        exact rnN_end n B P k (e + 1) (by omega) h2
      · rw [if_neg h3] at h2 ⊢
        cases hp : P (B e) with
        | true => exact absurd hp h3
        | false => rfl
    · rw [if_neg h1] at h2
      exact absurd h2 h1
/-- a run is told by where it ends -/
theorem rnN_eq (n : Nat) (B : Nat → Int32) (P : Int32 → Bool) (k : Nat) {e r : Nat} (h1 : e ≤ r) (h2 : r ≤ n) (hk : n ≤ e + k) (hp : ∀ i, e ≤ i → i < r → P (B i) = true) (he : r < n → P (B r) = false) : rnN n B P k e = r := by
  have h3 := rnN_le n B P k e (by omega)
  rcases Nat.lt_trichotomy (rnN n B P k e) r with h | h | h
  · have := rnN_end n B P k e hk (by omega)
    rw [hp _ h3.1 h] at this; cases this
  · exact h
  · have := rnN_in n B P k e r h1 h
    rw [he (by omega)] at this; cases this
theorem rnN_fuel (n : Nat) (B : Nat → Int32) (P : Int32 → Bool) (k k' e : Nat) (h : e ≤ n) (hk : n ≤ e + k) (hk' : n ≤ e + k') : rnN n B P k e = rnN n B P k' e := by
  have h3 := rnN_le n B P k' e h
  exact rnN_eq n B P k h3.1 h3.2 hk (fun i a b => rnN_in n B P k' e i a b) (fun z => rnN_end n B P k' e hk' z)
theorem teN_le (n : Nat) (B : Nat → Int32) (b : Nat) (h : b < n) : b < teN n B b ∧ teN n B b ≤ n := by
  unfold teN
  split
  · have := rnN_le n B isL 400 (b + 1) (by omega); omega
  · split
    · have := rnN_le n B isD 400 (b + 1) (by omega); omega
    · omega
theorem sk_le (n : Nat) (B : Nat → Int32) (b : Nat) (h : b ≤ n) : b ≤ sk n B b ∧ sk n B b ≤ n := rnN_le n B isB 400 b h
theorem sk_blank {n : Nat} {B : Nat → Int32} {i : Nat} (hn : n ≤ 400) (hi : i < n) (hb : B i = 32) : sk n B i = sk n B (i + 1) := by
  unfold sk
  show (if i < n then (if isB (B i) = true then rnN n B isB 399 (i + 1) else i) else i) = _
  rw [if_pos hi, if_pos (by unfold isB; rw [if_pos hb])]
  exact rnN_fuel n B isB 399 400 (i + 1) (by omega) (by omega) (by omega)
theorem sk_thing {n : Nat} {B : Nat → Int32} {i : Nat} (hi : i < n) (hb : ¬ B i = 32) : sk n B i = i := by
  unfold sk
  show (if i < n then (if isB (B i) = true then rnN n B isB 399 (i + 1) else i) else i) = _
  rw [if_pos hi, if_neg (by unfold isB; rw [if_neg hb]; decide)]
theorem sk_end {n : Nat} {B : Nat → Int32} : sk n B n = n := by
  have := sk_le n B n (Nat.le_refl _); omega
theorem obNxt_le (n : Nat) (B : Nat → Int32) (b : Nat) (h : b < n) : b < obNxt n B b ∧ obNxt n B b ≤ n := by
  have h1 := teN_le n B b h
  have h2 := sk_le n B (teN n B b) h1.2
  unfold obNxt
  omega
theorem fwN_lt (n : Nat) (B : Nat → Int32) (b : Nat) : ∀ k j, j + k ≤ 23 → fwN n B b k j < 23
  | 0, j, h => by show (0 : Nat) < 23; omega
  | k + 1, j, h => by
    unfold fwN
    split
    · omega
    · exact fwN_lt n B b k (j + 1) (by omega)
theorem isD_digit {b : Int32} (h : isD b = true) : ∃ d, d ≤ 9 ∧ b = nI (48 + d) := by
  unfold isD at h
  by_cases h1 : b < 48
  · rw [if_pos h1] at h; cases h
  · rw [if_neg h1] at h
    by_cases h2 : 57 < b
    · rw [if_pos h2] at h; cases h
    · have h3 : ¬ b.toInt < 48 := fun z => h1 (Int32.lt_iff_toInt_lt.mpr z)
      have h4 : ¬ 57 < b.toInt := fun z => h2 (Int32.lt_iff_toInt_lt.mpr z)
      refine ⟨(b.toInt - 48).toNat, by omega, Int32.toInt_inj.mp ?_⟩
      rw [nI_toInt (by omega)]; omega
theorem nuN_nI (B : Nat → Int32) : ∀ (k i v : Nat), v * 10 ^ k + 10 ^ k ≤ 10000 → (∀ q, i ≤ q → q < i + k → isD (B q) = true) → ∃ w, w < 10000 ∧ w < v * 10 ^ k + 10 ^ k ∧ nuN B k i (nI v) = nI w
  | 0, i, v, hv, _ => ⟨v, by omega, by omega, rfl⟩
  | k + 1, i, v, hv, hd => by
    obtain ⟨d, hd9, hb⟩ := isD_digit (hd i (Nat.le_refl _) (by omega))
    have e : (10 : Int32) * nI v + B i - 48 = nI (10 * v + d) := by
      rw [hb, show (10 : Int32) = nI 10 from rfl, nI_mul, nI_add, show 10 * v + (48 + d) = (10 * v + d) + 48 by omega, ← nI_add, show (48 : Int32) = nI 48 from rfl, Int32.add_sub_cancel]
    have h10 : 10 ^ (k + 1) = 10 * 10 ^ k := by rw [Nat.pow_succ]; omega
    have hp : 0 < 10 ^ k := Nat.pow_pos (by decide)
    have hle : (10 * v + d) * 10 ^ k + 10 ^ k ≤ v * 10 ^ (k + 1) + 10 ^ (k + 1) := by
      rw [h10, Nat.add_mul, show v * (10 * 10 ^ k) = 10 * v * 10 ^ k by rw [← Nat.mul_assoc, Nat.mul_comm v 10]]
      have : d * 10 ^ k ≤ 9 * 10 ^ k := Nat.mul_le_mul_right _ hd9
      omega
    obtain ⟨w, h1, h2, h3⟩ := nuN_nI B k (i + 1) (10 * v + d) (by omega) (fun q a b => hd q (by omega) (by omega))
    refine ⟨w, h1, by omega, ?_⟩
    show nuN B k (i + 1) (10 * nI v + B i - 48) = _
    rw [e]; exact h3
theorem not_isL_of_isD {b : Int32} (h : isD b = true) : isL b = false := by
  obtain ⟨d, hd, rfl⟩ := isD_digit h
  unfold isL
  rw [if_pos]
  show nI (48 + d) < nI 97
  exact nI_lt (by omega) (by decide)
theorem teN_dig {n : Nat} {B : Nat → Int32} {b : Nat} (hd : isD (B b) = true) : ∀ q, b ≤ q → q < teN n B b → isD (B q) = true := by
  intro q h1 h2
  unfold teN at h2
  rw [if_neg (by rw [not_isL_of_isD hd]; decide), if_pos hd] at h2
  by_cases hq : b = q
  · rw [← hq]; exact hd
  · exact rnN_in n B isD 400 (b + 1) q (by omega) h2
theorem teN_let {n : Nat} {B : Nat → Int32} {b : Nat} (hd : isL (B b) = true) : ∀ q, b ≤ q → q < teN n B b → isL (B q) = true := by
  intro q h1 h2
  unfold teN at h2
  rw [if_pos hd] at h2
  by_cases hq : b = q
  · rw [← hq]; exact hd
  · exact rnN_in n B isL 400 (b + 1) q (by omega) h2
theorem obNum_or (n : Nat) (B : Nat → Int32) (b : Nat) : obNum n B b = -1 ∨ ∃ v, v ≤ 9999 ∧ obNum n B b = nI v := by
  unfold obNum
  split
  · rename_i h
    have h4 := teN_le n B b h.1
    have h9 : 10 ^ (teN n B b - b) ≤ 10000 := Nat.pow_le_pow_right (n := 10) (j := 4) (by decide) h.2.2
    obtain ⟨w, h1, -, h3⟩ := nuN_nI B (teN n B b - b) b 0 (by omega) (fun q h1 h2 => teN_dig (n := n) h.2.1 q h1 (by omega))
    exact Or.inr ⟨w, by omega, h3⟩
  · exact Or.inl rfl
theorem obT_ok (n : Nat) (B : Nat → Int32) (hn : n ≤ 400) : ObOK (obT n B) := by
  refine ⟨hn, fun b hb => obNxt_le n B b hb, fun b hb => ⟨?_, ?_, ?_⟩, fun b => ?_, fun b => obNum_or n B b⟩
  · exact if_neg (fun z => absurd z.1 (Nat.not_lt.mpr hb))
  · exact if_neg (fun z => absurd z.1 (Nat.not_lt.mpr hb))
  · exact if_neg (fun z => absurd z.1 (Nat.not_lt.mpr hb))
  · show obWrd n B b < 23
    unfold obWrd
    split
    · exact fwN_lt n B b 23 0 (by omega)
    · decide
/-! the class's things are these -/
theorem bI_0 {b : Bool} : bI b = 0 ↔ b = false := by cases b <;> decide
theorem bI_n0 {b : Bool} : ¬ bI b = 0 ↔ b = true := by cases b <;> decide
theorem bt_in {g : GS} {i : Nat} (h : i < 400) : bt g (nI i) = gA g 2 i := rAt_in h (by decide)
theorem rnE_rnN {g : GS} {n : Nat} (P : Int32 → Bool) (hn : gF g 1 1 = nI n) (hn4 : n ≤ 400) : ∀ k e, e ≤ n → rnE g P k e = rnN n (gA g 2) P k e
  | 0, e, _ => rfl
  | k + 1, e, he => by
    unfold rnE rnN
    by_cases h1 : e < n
    · rw [if_neg (by rw [hn]; exact nI_ge h1 (by omega)), if_pos h1, bt_in (by omega)]
      by_cases h2 : P (gA g 2 e) = true
      · rw [if_neg (bI_n0.mpr h2), if_pos h2]
        exact rnE_rnN P hn hn4 k (e + 1) (by omega)
      · rw [if_pos (bI_0.mpr (by simpa using h2)), if_neg h2]
    · rw [if_pos (by rw [hn]; exact nI_le (by omega) (by omega)), if_neg h1]
theorem eot_teN {g : GS} {n : Nat} (hn : gF g 1 1 = nI n) (hn4 : n ≤ 400) {b : Nat} (hb : b < n) : eot g b = teN n (gA g 2) b := by
  unfold eot teN
  rw [bt_in (by omega), rnE_rnN isL hn hn4 400 (b + 1) (by omega), rnE_rnN isD hn hn4 400 (b + 1) (by omega)]
  cases hl : isL (gA g 2 b) <;> cases hd : isD (gA g 2 b) <;> rfl
theorem noR_nuN (g : GS) : ∀ k i v, i + k ≤ 400 → noR g k i v = nuN (gA g 2) k i v
  | 0, i, v, _ => rfl
  | k + 1, i, v, h => by
    show noR g k (i + 1) (10 * v + bt g (nI i) - 48) = nuN (gA g 2) k (i + 1) (10 * v + gA g 2 i - 48)
    rw [bt_in (by omega)]
    exact noR_nuN g k (i + 1) _ (by omega)
theorem stR_stN (g : GS) (j a : Nat) : ∀ k i, a + i + k ≤ 400 → stR g j (nI a) k i = stN (gA g 2) j a k i
  | 0, i, _ => rfl
  | k + 1, i, h => by
    show (if bt g (nI a + nI i) = wCh j i then stR g j (nI a) k (i + 1) else false) = (if gA g 2 (a + i) = wCh j i then stN (gA g 2) j a k (i + 1) else false)
    rw [nI_add, bt_in (by omega), stR_stN g j a k (i + 1) (by omega)]
theorem nI_sub {a b : Nat} (h : a ≤ b) : nI b - nI a = nI (b - a) := by
  rw [show nI b = nI (b - a) + nI a from by rw [nI_add]; congr 1; omega, Int32.add_sub_cancel]
theorem wLen_le (j : Nat) : wLen.getD j 0 ≤ 6 := by
  rcases Nat.lt_or_ge j 23 with h | h
  · have := wLen_lt j h; omega
  · have h2 : wLen[j]? = none := List.getElem?_eq_none (by show 23 ≤ j; exact h)
    rw [List.getD_eq_getElem?_getD, h2]; show (0 : Nat) ≤ 6; omega
theorem stB_wdN {g : GS} {n : Nat} (hn4 : n ≤ 400) {b e : Nat} (hb : b ≤ e) (he : e ≤ n) (ht : teN n (gA g 2) b = e) (j : Nat) : stB g j (nI b) (nI e) = wdN n (gA g 2) b j := by
  unfold stB wdN
  rw [nI_sub hb, ht]
  by_cases h : e - b = wLen.getD j 0
  · rw [if_pos (by rw [h]), if_pos h, ← h]
    exact stR_stN g j b (e - b) 0 (by omega)
  · rw [if_neg (fun z => h ((nI_eq (by omega) (by have := wLen_le j; omega)).mp z)), if_neg h]
theorem ofR_fwN {g : GS} {n : Nat} (hn4 : n ≤ 400) {b e : Nat} (hb : b ≤ e) (he : e ≤ n) (ht : teN n (gA g 2) b = e) : ∀ k j, ofR g (nI b) (nI e) k j = fwN n (gA g 2) b k j
  | 0, j => rfl
  | k + 1, j => by
    show (if bI (stB g j (nI b) (nI e)) = 0 then ofR g (nI b) (nI e) k (j + 1) else j) = (if wdN n (gA g 2) b j = true then j else fwN n (gA g 2) b k (j + 1))
    rw [stB_wdN hn4 hb he ht j, ofR_fwN hn4 hb he ht k (j + 1)]
    cases wdN n (gA g 2) b j <;> rfl
