
theorem Jri {M : MI} {R : Room} {Q : Res → List ME → Prop} {n0 pc : Nat} {L : List (Option Value)} {es : List ME} {k ks : Nat} {v : Int32} (d : decode M.2.1 pc = .ok (.ireturn, 1)) (hr : M.2.2.2 = some .int) (hk : k ≤ R.cells) (hks : ks ≤ R.slots) (hq : Q (.inl (some (.int v))) es) : J M R Q n0 pc L [.int v] es k ks := J_iret (nx := 0) (rest := []) d hr hk hks hq
theorem Jrl {M : MI} {R : Room} {Q : Res → List ME → Prop} {n0 pc : Nat} {L : List (Option Value)} {es : List ME} {k ks : Nat} {v : Int64} (d : decode M.2.1 pc = .ok (.lreturn, 1)) (hr : M.2.2.2 = some .long) (hk : k ≤ R.cells) (hks : ks ≤ R.slots) (hq : Q (.inl (some (.long v))) es) : J M R Q n0 pc L [.long v] es k ks := J_lret (nx := 0) (rest := []) d hr hk hks hq
theorem Jrz {M : MI} {R : Room} {Q : Res → List ME → Prop} {n0 pc : Nat} {L : List (Option Value)} {es : List ME} {k ks : Nat} {v : Int32} {ty : FieldType} (d : decode M.2.1 pc = .ok (.ireturn, 1)) (hr : M.2.2.2 = some ty) (hnr : narrow ty (.int v) = .int v) (hk : k ≤ R.cells) (hks : ks ≤ R.slots) (hq : Q (.inl (some (.int v))) es) : J M R Q n0 pc L [.int v] es k ks := J_zret (nx := 0) (rest := []) d hr hnr hk hks hq
theorem Jrv {M : MI} {R : Room} {Q : Res → List ME → Prop} {n0 pc : Nat} {L : List (Option Value)} {es : List ME} {k ks : Nat} (d : decode M.2.1 pc = .ok (.return_, 1)) (hr : M.2.2.2 = none) (hk : k ≤ R.cells) (hks : ks ≤ R.slots) (hq : Q (.inl none) es) : J M R Q n0 pc L [] es k ks := J_vret (nx := 0) (rest := []) d hr hk hks hq
theorem Jra {M : MI} {R : Room} {Q : Res → List ME → Prop} {n0 pc : Nat} {L : List (Option Value)} {es : List ME} {k ks : Nat} {v : Value} {rt : FieldType} (d : decode M.2.1 pc = .ok (.areturn, 1)) (hr : M.2.2.2 = some rt) (hrt : (∃ n, rt = .object n) ∨ ∃ t, rt = .array t) (hv : v = .null ∨ ∃ a, v = .ref a) (hk : k ≤ R.cells) (hks : ks ≤ R.slots) (hq : Q (.inl (some v)) es) : J M R Q n0 pc L [v] es k ks := J_aret (nx := 0) (rest := []) d hr hrt hv hk hks hq
def rAt (n : Nat) (f : Nat → Int32) (i : Int32) : Int32 := if 0 ≤ i.toInt ∧ i.toInt < n then f i.toNatClampNeg else 0
def rPut (n : Nat) (f : Nat → Int32) (i x : Int32) : Nat → Int32 := if 0 ≤ i.toInt ∧ i.toInt < n then upd f i.toNatClampNeg x else f
def rCopy (n m : Nat) (f h : Nat → Int32) : Nat → Int32 := fun j => if j < n ∧ j < m then f j else h j
theorem sA_self (g : GS) (c : Nat) : sA g c (gA g c) = g := by
  have h : (fun c' => bif Nat.beq c' c then gA g c else gA g c') = gA g := by
    funext c'
    cases hb : Nat.beq c' c with
    | false => rfl
    | true => rw [Nat.eq_of_beq_eq_true hb]; rfl
  show (gF g, (fun c' => bif Nat.beq c' c then gA g c else gA g c'), gB g, gV g, gP g, gT g) = g
  rw [h]; rfl
theorem set_same {α : Type} {l : List α} {b : Nat} {e : α} (h : l[b]? = some e) : l.set b e = l := by
  apply List.ext_getElem?
  intro i
  by_cases hb : b = i
  · subst hb
    rw [List.getElem?_set_self (List.getElem?_eq_some_iff.mp h).1, h]
  · rw [List.getElem?_set_ne hb]
theorem ofNat_lt {i : Int32} {n : Nat} (hn : n < 2 ^ 31) : i < Int32.ofNat n ↔ i.toInt < n := by
  rw [Int32.lt_iff_toInt_lt, show Int32.ofNat n = nI n from rfl, nI_toInt hn]
theorem ofNat_le {i : Int32} {n : Nat} (hn : n < 2 ^ 31) : Int32.ofNat n ≤ i ↔ (n : Int) ≤ i.toInt := by
  rw [Int32.le_iff_toInt_le, show Int32.ofNat n = nI n from rfl, nI_toInt hn]
theorem lt0 {i : Int32} : i < 0 ↔ i.toInt < 0 := by rw [Int32.lt_iff_toInt_lt, Int32.toInt_zero]
theorem rAt_in {n : Nat} {f : Nat → Int32} {j : Nat} (h : j < n) (hn : n < 2 ^ 31) : rAt n f (nI j) = f j := by
  unfold rAt
  rw [nI_toInt (by omega), if_pos ⟨by omega, by omega⟩, nI_clamp (by omega)]
theorem rPut_in {n : Nat} {f : Nat → Int32} {j : Nat} {x : Int32} (h : j < n) (hn : n < 2 ^ 31) : rPut n f (nI j) x = upd f j x := by
  unfold rPut
  rw [nI_toInt (by omega), if_pos ⟨by omega, by omega⟩, nI_clamp (by omega)]
set_option maxRecDepth 100000 in
set_option maxHeartbeats 4000000 in
theorem ct_at (g : GS) (a n : Nat) (f : Nat → Int32) (i : Int32) (he : (Wd g)[a]? = some (.inl (0, n, .inl f))) (hn : n < 2 ^ 31) : Ct mX6_at (rm 0 0 0) [.ref a, .int i] (Wd g) (RR (.inl (some (.int (rAt n f i)))) g) := by
  refine Ct.of (by decide +kernel) (Nat.le_of_ble_eq_true rfl) ?_
  show J _ _ _ _ 0 [some (.ref a), some (.int i)] [] _ 0 0
  refine J_iload_n (nx := 1) dX6_at_0 rfl rfl ?_
  refine J_if_lt (nx := 4) (tgt := 16) dX6_at_1 rfl (by decide) (fun c_1 => ?_) (fun c_1 => ?_)
  · refine J_iconst (nx := 17) (i := 0) (v := 0) (by decide) dX6_at_16 rfl ?_
    exact Jri dX6_at_17 rfl (Nat.zero_le _) (Nat.zero_le _) (RR.i (by unfold rAt; rw [if_neg]; rintro ⟨h, -⟩; have := lt0.mp c_1; omega) rfl)
  · refine J_iload_n (nx := 5) dX6_at_4 rfl rfl ?_
    refine J_aload_n (nx := 6) dX6_at_5 rfl rfl ?_
    refine J_alen (nx := 7) (t := 0) dX6_at_6 rfl (by decide) he ?_
    refine J_icmp_ge (nx := 10) (tgt := 16) dX6_at_7 rfl (by decide) (fun c_7 => ?_) (fun c_7 => ?_)
    · refine J_iconst (nx := 17) (i := 0) (v := 0) (by decide) dX6_at_16 rfl ?_
      exact Jri dX6_at_17 rfl (Nat.zero_le _) (Nat.zero_le _) (RR.i (by unfold rAt; rw [if_neg]; rintro ⟨-, h⟩; have := (ofNat_le hn).mp c_7; omega) rfl)
    · have h1 : 0 ≤ i.toInt ∧ i.toInt < n := ⟨by have : ¬ i.toInt < 0 := fun z => c_1 (lt0.mpr z); omega, by have : ¬ (n : Int) ≤ i.toInt := fun z => c_7 ((ofNat_le hn).mpr z); omega⟩
      refine J_aload_n (nx := 11) dX6_at_10 rfl rfl ?_
      refine J_iload_n (nx := 12) dX6_at_11 rfl rfl ?_
      refine J_iald (nx := 13) dX6_at_12 rfl he (vp_in_iff.mpr h1) ?_
      refine J_goto (nx := 17) dX6_at_13 (by decide) ?_
      exact Jri dX6_at_17 rfl (Nat.zero_le _) (Nat.zero_le _) (RR.i (by unfold rAt; rw [if_pos h1]) rfl)
set_option maxRecDepth 100000 in
set_option maxHeartbeats 4000000 in
theorem ct_put (g : GS) (a n : Nat) (i x : Int32) (he : (Wd g)[a]? = some (.inl (0, n, .inl (gA g a)))) (h2 : ∀ f', (Wd g).set a (.inl (0, n, .inl f')) = Wd (sA g a f')) (hn : n < 2 ^ 31) : Ct mX6_put (rm 0 0 0) [.ref a, .int i, .int x] (Wd g) (RR (.inl none) (sA g a (rPut n (gA g a) i x))) := by
  refine Ct.of (by decide +kernel) (Nat.le_of_ble_eq_true rfl) ?_
  show J _ _ _ _ 0 [some (.ref a), some (.int i), some (.int x)] [] _ 0 0
  refine J_iload_n (nx := 1) dX6_put_0 rfl rfl ?_
  refine J_if_lt (nx := 4) (tgt := 14) dX6_put_1 rfl (by decide) (fun c_1 => ?_) (fun c_1 => ?_)
  · exact Jrv dX6_put_14 rfl (Nat.zero_le _) (Nat.zero_le _) ⟨rfl, by unfold rPut; rw [if_neg, sA_self]; rintro ⟨h, -⟩; have := lt0.mp c_1; omega⟩
  · refine J_iload_n (nx := 5) dX6_put_4 rfl rfl ?_
    refine J_aload_n (nx := 6) dX6_put_5 rfl rfl ?_
    refine J_alen (nx := 7) (t := 0) dX6_put_6 rfl (by decide) he ?_
    refine J_icmp_ge (nx := 10) (tgt := 14) dX6_put_7 rfl (by decide) (fun c_7 => ?_) (fun c_7 => ?_)
    · exact Jrv dX6_put_14 rfl (Nat.zero_le _) (Nat.zero_le _) ⟨rfl, by unfold rPut; rw [if_neg, sA_self]; rintro ⟨-, h⟩; have := (ofNat_le hn).mp c_7; omega⟩
    · have h1 : 0 ≤ i.toInt ∧ i.toInt < n := ⟨by have : ¬ i.toInt < 0 := fun z => c_1 (lt0.mpr z); omega, by have : ¬ (n : Int) ≤ i.toInt := fun z => c_7 ((ofNat_le hn).mpr z); omega⟩
      refine J_aload_n (nx := 11) dX6_put_10 rfl rfl ?_
      refine J_iload_n (nx := 12) dX6_put_11 rfl rfl ?_
      refine J_iload_n (nx := 13) dX6_put_12 rfl rfl ?_
      refine J_iast (nx := 14) dX6_put_13 rfl he (vp_in_iff.mpr h1) ?_
      exact Jrv dX6_put_14 rfl (Nat.zero_le _) (Nat.zero_le _) ⟨rfl, by rw [h2]; unfold rPut; rw [if_pos h1]⟩
set_option maxRecDepth 100000 in
set_option maxHeartbeats 4000000 in
theorem lp_copy (g : GS) (a b n m n0 : Nat) (f h : Nat → Int32) (hab : a ≠ b) (he : (Wd g)[a]? = some (.inl (0, n, .inl f))) (hn : n < 2 ^ 31) (hm : m < 2 ^ 31) (g0 : GS) :
    ∀ (k j : Nat), n ≤ j + k → j ≤ n → j ≤ m → ∀ (es : List ME), es[a]? = some (.inl (0, n, .inl f)) → es[b]? = some (.inl (0, m, .inl (fun i => if i < j then f i else h i))) → es.set b (.inl (0, m, .inl (rCopy n m f h))) = Wd g0 →
    J mX6_copy (rm 0 0 0) (RR (.inl none) g0) n0 2 [some (.ref a), some (.ref b), some (.int (nI j))] [] es 0 0 := by
  intro k
  induction k with
  | zero =>
    intro j h1 h2 h3 es ha hb hs
    refine J_iload_n (nx := 3) dX6_copy_2 rfl rfl ?_
    refine J_aload_n (nx := 4) dX6_copy_3 rfl rfl ?_
    refine J_alen (nx := 5) (t := 0) dX6_copy_4 rfl (by decide) ha ?_
    refine J_icmp_ge (nx := 8) (tgt := 26) dX6_copy_5 rfl (by decide) (fun c_5 => ?_) (fun c_5 => ?_)
    · refine Jrv dX6_copy_26 rfl (Nat.zero_le _) (Nat.zero_le _) ⟨rfl, ?_⟩
      rw [← hs]
      have hf : rCopy n m f h = fun i => if i < j then f i else h i := by
        funext i; unfold rCopy
        by_cases hi : i < j
        · rw [if_pos ⟨by omega, by omega⟩, if_pos hi]
        · rw [if_neg (by omega), if_neg hi]
      rw [hf]
      exact (set_same hb).symm
    · exact absurd ((ofNat_le hn).mpr (by rw [nI_toInt (by omega)]; omega)) c_5
  | succ k ih =>
    intro j h1 h2 h3 es ha hb hs
    have hrw : ∀ i, ¬ (j < n ∧ j < m) → rCopy n m f h i = if i < j then f i else h i := by
      intro i hj
      unfold rCopy
      by_cases hi : i < j
      · rw [if_pos ⟨by omega, by omega⟩, if_pos hi]
      · rw [if_neg (by omega), if_neg hi]
    refine J_iload_n (nx := 3) dX6_copy_2 rfl rfl ?_
    refine J_aload_n (nx := 4) dX6_copy_3 rfl rfl ?_
    refine J_alen (nx := 5) (t := 0) dX6_copy_4 rfl (by decide) ha ?_
    refine J_icmp_ge (nx := 8) (tgt := 26) dX6_copy_5 rfl (by decide) (fun c_5 => ?_) (fun c_5 => ?_)
    · have hj := (ofNat_le hn).mp c_5
      rw [nI_toInt (by omega)] at hj
      refine Jrv dX6_copy_26 rfl (Nat.zero_le _) (Nat.zero_le _) ⟨rfl, ?_⟩
      rw [← hs, show rCopy n m f h = fun i => if i < j then f i else h i from funext fun i => hrw i (by omega)]
      exact (set_same hb).symm
    · have hj : j < n := by
        have : ¬ (n : Int) ≤ (nI j).toInt := fun z => c_5 ((ofNat_le hn).mpr z)
        rw [nI_toInt (by omega)] at this
        omega
      refine J_iload_n (nx := 9) dX6_copy_8 rfl rfl ?_
      refine J_aload_n (nx := 10) dX6_copy_9 rfl rfl ?_
      refine J_alen (nx := 11) (t := 0) dX6_copy_10 rfl (by decide) hb ?_
      refine J_icmp_ge (nx := 14) (tgt := 26) dX6_copy_11 rfl (by decide) (fun c_11 => ?_) (fun c_11 => ?_)
      · have hj2 := (ofNat_le hm).mp c_11
        rw [nI_toInt (by omega)] at hj2
        refine Jrv dX6_copy_26 rfl (Nat.zero_le _) (Nat.zero_le _) ⟨rfl, ?_⟩
        rw [← hs, show rCopy n m f h = fun i => if i < j then f i else h i from funext fun i => hrw i (by omega)]
        exact (set_same hb).symm
      · have hj2 : j < m := by
          have : ¬ (m : Int) ≤ (nI j).toInt := fun z => c_11 ((ofNat_le hm).mpr z)
          rw [nI_toInt (by omega)] at this
          omega
        refine J_aload_n (nx := 15) dX6_copy_14 rfl rfl ?_
        refine J_iload_n (nx := 16) dX6_copy_15 rfl rfl ?_
        refine J_aload_n (nx := 17) dX6_copy_16 rfl rfl ?_
        refine J_iload_n (nx := 18) dX6_copy_17 rfl rfl ?_
        refine J_iald (nx := 19) dX6_copy_18 rfl ha (vp_in_nI hj hn) ?_
        refine J_iast (nx := 20) dX6_copy_19 rfl hb (vp_in_nI hj2 hm) ?_
        refine J_iinc (nx := 23) dX6_copy_20 rfl rfl rfl (Nat.le_of_ble_eq_true rfl) ?_
        refine J_goto (nx := 2) dX6_copy_23 (by decide) ?_
        have e1 : nI j + Int32.ofInt 1 = nI (j + 1) := nI_1 j
        show J _ _ _ _ 2 [some (.ref a), some (.ref b), some (.int (nI j + Int32.ofInt 1))] [] _ 0 0
        rw [e1]
        have e2 : upd (fun i => if i < j then f i else h i) (nI j).toNatClampNeg (f (nI j).toNatClampNeg) = fun i => if i < j + 1 then f i else h i := by
          rw [nI_clamp (by omega)]
          funext i
          show (if i = j then f j else (if i < j then f i else h i)) = _
          by_cases hi : i = j
          · subst hi; simp
          · by_cases hi2 : i < j
            · rw [if_neg hi, if_pos hi2, if_pos (by omega)]
            · rw [if_neg hi, if_neg hi2, if_neg (by omega)]
        rw [e2]
        have hbl : b < es.length := (List.getElem?_eq_some_iff.mp hb).1
        exact ih (j + 1) (by omega) (by omega) (by omega) _ (by rw [List.getElem?_set_ne (Ne.symm hab)]; exact ha) (by rw [List.getElem?_set_self hbl]) (by rw [List.set_set]; exact hs)
set_option maxRecDepth 100000 in
set_option maxHeartbeats 4000000 in
theorem ct_copy (g : GS) (a b n m : Nat) (f : Nat → Int32) (hab : a ≠ b) (he : (Wd g)[a]? = some (.inl (0, n, .inl f))) (hb : (Wd g)[b]? = some (.inl (0, m, .inl (gA g b)))) (h2 : ∀ f', (Wd g).set b (.inl (0, m, .inl f')) = Wd (sA g b f')) (hn : n < 2 ^ 31) (hm : m < 2 ^ 31) : Ct mX6_copy (rm 0 0 0) [.ref a, .ref b] (Wd g) (RR (.inl none) (sA g b (rCopy n m f (gA g b)))) := by
  refine Ct.of (by decide +kernel) (Nat.le_of_ble_eq_true rfl) ?_
  show J _ _ _ _ 0 [some (.ref a), some (.ref b), none] [] _ 0 0
  refine J_iconst (nx := 1) (i := 0) (v := 0) (by decide) dX6_copy_0 rfl ?_
  refine J_istore_n (nx := 2) dX6_copy_1 rfl rfl (Nat.le_of_ble_eq_true rfl) ?_
  exact lp_copy g a b n m _ f (gA g b) hab he hn hm _ n 0 (by omega) (by omega) (by omega) (Wd g) he hb (h2 _)
