theorem JdS1 {M : MI} {R : Room} {Q : Res → List ME → Prop} {n0 pc nx : Nat} {L : List (Option Value)} {rest : List Value} {g g1 : GS} {k ks : Nat} {M' : MI} {R' : Room} {v1 : Value} {idx : Nat} {v : Option Value} (d : decode M.2.1 pc = .ok (.invokestatic idx, 3)) (hn : pc + 3 = nx) (hml : ML M' 1) (hlk : Cond.methodLink M.1.cls idx M'.1 ∈ TT) (hst : Cond.static M'.1 ∈ TT) (hroom : R'.frames + 1 ≤ R.frames ∧ 8 + (M'.2.2.1 + 11) + R'.locals ≤ R.locals) (hcat : (rest.map fun v => v.category).sum ≤ 8) (hz : R'.cells = 0 ∧ R'.slots = 0) (hk : k ≤ R.cells ∧ ks ≤ R.slots) (hct : Ct M' R' [v1] (Wd g) (RR (.inl v) g1)) (h : J M R Q n0 nx L (v.toList ++ rest) (Wd g1) k ks) : J M R Q n0 pc L (v1 :: rest) (Wd g) k ks :=
  J_callS (As := [v1]) d hn hml hlk hst rfl hroom hcat ⟨by rw [hz.1]; exact hk.1, by rw [hz.2]; exact hk.2⟩ hct (fun E es' hq => by cases hq.1) (fun v' es' hq => by
    obtain ⟨h1, rfl⟩ := hq
    cases h1
    rw [hz.1, hz.2]
    exact h)
theorem JdV1 {M : MI} {R : Room} {Q : Res → List ME → Prop} {n0 pc nx : Nat} {L : List (Option Value)} {rest : List Value} {g g1 : GS} {k ks : Nat} {M' : MI} {R' : Room} {v1 : Value} {b : Nat} {idx : Nat} {v : Option Value} (d : decode M.2.1 pc = .ok (.invokevirtual idx, 3)) (hn : pc + 3 = nx) (hml : ML M' 1) (hlk : Cond.methodLink M.1.cls idx M'.1 ∈ TT) (hins : Cond.instanceMethod M'.1 ∈ TT ∧ Cond.selects M'.1.cls M'.1 M'.1 ∈ TT) {T : u_T} {N ci : Nat} (hcl : vwCl[ci]? = some (M'.1.cls, T, N)) {fs : List Value} (he : (Wd g)[b]? = some (.inr (ci, fs))) (hroom : R'.frames + 1 ≤ R.frames ∧ 8 + (M'.2.2.1 + 11) + R'.locals ≤ R.locals) (hcat : (rest.map fun v => v.category).sum ≤ 8) (hz : R'.cells = 0 ∧ R'.slots = 0) (hk : k ≤ R.cells ∧ ks ≤ R.slots) (hct : Ct M' R' (.ref b :: [v1]) (Wd g) (RR (.inl v) g1)) (h : J M R Q n0 nx L (v.toList ++ rest) (Wd g1) k ks) : J M R Q n0 pc L (v1 :: .ref b :: rest) (Wd g) k ks :=
  J_callV (b := b) (As := [v1]) d hn hml hlk hins hcl he rfl hroom hcat ⟨by rw [hz.1]; exact hk.1, by rw [hz.2]; exact hk.2⟩ hct (fun E es' hq => by cases hq.1) (fun v' es' hq => by
    obtain ⟨h1, rfl⟩ := hq
    cases h1
    rw [hz.1, hz.2]
    exact h)
theorem JdS2 {M : MI} {R : Room} {Q : Res → List ME → Prop} {n0 pc nx : Nat} {L : List (Option Value)} {rest : List Value} {g g1 : GS} {k ks : Nat} {M' : MI} {R' : Room} {v1 v2 : Value} {idx : Nat} {v : Option Value} (d : decode M.2.1 pc = .ok (.invokestatic idx, 3)) (hn : pc + 3 = nx) (hml : ML M' 2) (hlk : Cond.methodLink M.1.cls idx M'.1 ∈ TT) (hst : Cond.static M'.1 ∈ TT) (hroom : R'.frames + 1 ≤ R.frames ∧ 8 + (M'.2.2.1 + 11) + R'.locals ≤ R.locals) (hcat : (rest.map fun v => v.category).sum ≤ 8) (hz : R'.cells = 0 ∧ R'.slots = 0) (hk : k ≤ R.cells ∧ ks ≤ R.slots) (hct : Ct M' R' [v1, v2] (Wd g) (RR (.inl v) g1)) (h : J M R Q n0 nx L (v.toList ++ rest) (Wd g1) k ks) : J M R Q n0 pc L (v2 :: v1 :: rest) (Wd g) k ks :=
  J_callS (As := [v1, v2]) d hn hml hlk hst rfl hroom hcat ⟨by rw [hz.1]; exact hk.1, by rw [hz.2]; exact hk.2⟩ hct (fun E es' hq => by cases hq.1) (fun v' es' hq => by
    obtain ⟨h1, rfl⟩ := hq
    cases h1
    rw [hz.1, hz.2]
    exact h)
theorem JdV2 {M : MI} {R : Room} {Q : Res → List ME → Prop} {n0 pc nx : Nat} {L : List (Option Value)} {rest : List Value} {g g1 : GS} {k ks : Nat} {M' : MI} {R' : Room} {v1 v2 : Value} {b : Nat} {idx : Nat} {v : Option Value} (d : decode M.2.1 pc = .ok (.invokevirtual idx, 3)) (hn : pc + 3 = nx) (hml : ML M' 2) (hlk : Cond.methodLink M.1.cls idx M'.1 ∈ TT) (hins : Cond.instanceMethod M'.1 ∈ TT ∧ Cond.selects M'.1.cls M'.1 M'.1 ∈ TT) {T : u_T} {N ci : Nat} (hcl : vwCl[ci]? = some (M'.1.cls, T, N)) {fs : List Value} (he : (Wd g)[b]? = some (.inr (ci, fs))) (hroom : R'.frames + 1 ≤ R.frames ∧ 8 + (M'.2.2.1 + 11) + R'.locals ≤ R.locals) (hcat : (rest.map fun v => v.category).sum ≤ 8) (hz : R'.cells = 0 ∧ R'.slots = 0) (hk : k ≤ R.cells ∧ ks ≤ R.slots) (hct : Ct M' R' (.ref b :: [v1, v2]) (Wd g) (RR (.inl v) g1)) (h : J M R Q n0 nx L (v.toList ++ rest) (Wd g1) k ks) : J M R Q n0 pc L (v2 :: v1 :: .ref b :: rest) (Wd g) k ks :=
  J_callV (b := b) (As := [v1, v2]) d hn hml hlk hins hcl he rfl hroom hcat ⟨by rw [hz.1]; exact hk.1, by rw [hz.2]; exact hk.2⟩ hct (fun E es' hq => by cases hq.1) (fun v' es' hq => by
    obtain ⟨h1, rfl⟩ := hq
    cases h1
    rw [hz.1, hz.2]
    exact h)
theorem JdS3 {M : MI} {R : Room} {Q : Res → List ME → Prop} {n0 pc nx : Nat} {L : List (Option Value)} {rest : List Value} {g g1 : GS} {k ks : Nat} {M' : MI} {R' : Room} {v1 v2 v3 : Value} {idx : Nat} {v : Option Value} (d : decode M.2.1 pc = .ok (.invokestatic idx, 3)) (hn : pc + 3 = nx) (hml : ML M' 3) (hlk : Cond.methodLink M.1.cls idx M'.1 ∈ TT) (hst : Cond.static M'.1 ∈ TT) (hroom : R'.frames + 1 ≤ R.frames ∧ 8 + (M'.2.2.1 + 11) + R'.locals ≤ R.locals) (hcat : (rest.map fun v => v.category).sum ≤ 8) (hz : R'.cells = 0 ∧ R'.slots = 0) (hk : k ≤ R.cells ∧ ks ≤ R.slots) (hct : Ct M' R' [v1, v2, v3] (Wd g) (RR (.inl v) g1)) (h : J M R Q n0 nx L (v.toList ++ rest) (Wd g1) k ks) : J M R Q n0 pc L (v3 :: v2 :: v1 :: rest) (Wd g) k ks :=
  J_callS (As := [v1, v2, v3]) d hn hml hlk hst rfl hroom hcat ⟨by rw [hz.1]; exact hk.1, by rw [hz.2]; exact hk.2⟩ hct (fun E es' hq => by cases hq.1) (fun v' es' hq => by
    obtain ⟨h1, rfl⟩ := hq
    cases h1
    rw [hz.1, hz.2]
    exact h)
theorem JdV3 {M : MI} {R : Room} {Q : Res → List ME → Prop} {n0 pc nx : Nat} {L : List (Option Value)} {rest : List Value} {g g1 : GS} {k ks : Nat} {M' : MI} {R' : Room} {v1 v2 v3 : Value} {b : Nat} {idx : Nat} {v : Option Value} (d : decode M.2.1 pc = .ok (.invokevirtual idx, 3)) (hn : pc + 3 = nx) (hml : ML M' 3) (hlk : Cond.methodLink M.1.cls idx M'.1 ∈ TT) (hins : Cond.instanceMethod M'.1 ∈ TT ∧ Cond.selects M'.1.cls M'.1 M'.1 ∈ TT) {T : u_T} {N ci : Nat} (hcl : vwCl[ci]? = some (M'.1.cls, T, N)) {fs : List Value} (he : (Wd g)[b]? = some (.inr (ci, fs))) (hroom : R'.frames + 1 ≤ R.frames ∧ 8 + (M'.2.2.1 + 11) + R'.locals ≤ R.locals) (hcat : (rest.map fun v => v.category).sum ≤ 8) (hz : R'.cells = 0 ∧ R'.slots = 0) (hk : k ≤ R.cells ∧ ks ≤ R.slots) (hct : Ct M' R' (.ref b :: [v1, v2, v3]) (Wd g) (RR (.inl v) g1)) (h : J M R Q n0 nx L (v.toList ++ rest) (Wd g1) k ks) : J M R Q n0 pc L (v3 :: v2 :: v1 :: .ref b :: rest) (Wd g) k ks :=
  J_callV (b := b) (As := [v1, v2, v3]) d hn hml hlk hins hcl he rfl hroom hcat ⟨by rw [hz.1]; exact hk.1, by rw [hz.2]; exact hk.2⟩ hct (fun E es' hq => by cases hq.1) (fun v' es' hq => by
    obtain ⟨h1, rfl⟩ := hq
    cases h1
    rw [hz.1, hz.2]
    exact h)
theorem JdS4 {M : MI} {R : Room} {Q : Res → List ME → Prop} {n0 pc nx : Nat} {L : List (Option Value)} {rest : List Value} {g g1 : GS} {k ks : Nat} {M' : MI} {R' : Room} {v1 v2 v3 v4 : Value} {idx : Nat} {v : Option Value} (d : decode M.2.1 pc = .ok (.invokestatic idx, 3)) (hn : pc + 3 = nx) (hml : ML M' 4) (hlk : Cond.methodLink M.1.cls idx M'.1 ∈ TT) (hst : Cond.static M'.1 ∈ TT) (hroom : R'.frames + 1 ≤ R.frames ∧ 8 + (M'.2.2.1 + 11) + R'.locals ≤ R.locals) (hcat : (rest.map fun v => v.category).sum ≤ 8) (hz : R'.cells = 0 ∧ R'.slots = 0) (hk : k ≤ R.cells ∧ ks ≤ R.slots) (hct : Ct M' R' [v1, v2, v3, v4] (Wd g) (RR (.inl v) g1)) (h : J M R Q n0 nx L (v.toList ++ rest) (Wd g1) k ks) : J M R Q n0 pc L (v4 :: v3 :: v2 :: v1 :: rest) (Wd g) k ks :=
  J_callS (As := [v1, v2, v3, v4]) d hn hml hlk hst rfl hroom hcat ⟨by rw [hz.1]; exact hk.1, by rw [hz.2]; exact hk.2⟩ hct (fun E es' hq => by cases hq.1) (fun v' es' hq => by
    obtain ⟨h1, rfl⟩ := hq
    cases h1
    rw [hz.1, hz.2]
    exact h)
theorem JdV4 {M : MI} {R : Room} {Q : Res → List ME → Prop} {n0 pc nx : Nat} {L : List (Option Value)} {rest : List Value} {g g1 : GS} {k ks : Nat} {M' : MI} {R' : Room} {v1 v2 v3 v4 : Value} {b : Nat} {idx : Nat} {v : Option Value} (d : decode M.2.1 pc = .ok (.invokevirtual idx, 3)) (hn : pc + 3 = nx) (hml : ML M' 4) (hlk : Cond.methodLink M.1.cls idx M'.1 ∈ TT) (hins : Cond.instanceMethod M'.1 ∈ TT ∧ Cond.selects M'.1.cls M'.1 M'.1 ∈ TT) {T : u_T} {N ci : Nat} (hcl : vwCl[ci]? = some (M'.1.cls, T, N)) {fs : List Value} (he : (Wd g)[b]? = some (.inr (ci, fs))) (hroom : R'.frames + 1 ≤ R.frames ∧ 8 + (M'.2.2.1 + 11) + R'.locals ≤ R.locals) (hcat : (rest.map fun v => v.category).sum ≤ 8) (hz : R'.cells = 0 ∧ R'.slots = 0) (hk : k ≤ R.cells ∧ ks ≤ R.slots) (hct : Ct M' R' (.ref b :: [v1, v2, v3, v4]) (Wd g) (RR (.inl v) g1)) (h : J M R Q n0 nx L (v.toList ++ rest) (Wd g1) k ks) : J M R Q n0 pc L (v4 :: v3 :: v2 :: v1 :: .ref b :: rest) (Wd g) k ks :=
  J_callV (b := b) (As := [v1, v2, v3, v4]) d hn hml hlk hins hcl he rfl hroom hcat ⟨by rw [hz.1]; exact hk.1, by rw [hz.2]; exact hk.2⟩ hct (fun E es' hq => by cases hq.1) (fun v' es' hq => by
    obtain ⟨h1, rfl⟩ := hq
    cases h1
    rw [hz.1, hz.2]
    exact h)

/-! new cells behind the world -/
def kT (g : GS) (l : List ME) : GS := sT g (gT g ++ l)
theorem kT_len (g : GS) (l : List ME) : (Wd (kT g l)).length = 83 + (gT g).length + l.length := by
  show (W0 g ++ (gT g ++ l)).length = _
  rw [List.length_append, List.length_append, show (W0 g).length = 83 from rfl]; omega
theorem kT_get (g : GS) (l : List ME) (i : Nat) : (Wd (kT g l))[83 + (gT g).length + i]? = l[i]? := by
  show (W0 g ++ (gT g ++ l))[83 + (gT g).length + i]? = _
  rw [List.getElem?_append_right (by rw [show (W0 g).length = 83 from rfl]; omega), show (W0 g).length = 83 from rfl, List.getElem?_append_right (by omega)]
  congr 1; omega
theorem kT_old (g : GS) (l : List ME) (i : Nat) (h : i < 83) : (Wd (kT g l))[i]? = (W0 g)[i]? := by
  show (W0 g ++ (gT g ++ l))[i]? = _
  rw [List.getElem?_append_left (by rw [show (W0 g).length = 83 from rfl]; exact h)]
theorem kT_set (g : GS) (l : List ME) (i : Nat) (e : ME) : (Wd (kT g l)).set (83 + (gT g).length + i) e = Wd (kT g (l.set i e)) := by
  show (W0 g ++ (gT g ++ l)).set (83 + (gT g).length + i) e = W0 g ++ (gT g ++ l.set i e)
  rw [List.set_append_right _ _ (by rw [show (W0 g).length = 83 from rfl]; omega), show (W0 g).length = 83 from rfl, List.set_append_right _ _ (by omega)]
  congr 3; omega
theorem kT_app (g : GS) (l : List ME) (e : ME) : Wd (kT g l) ++ [e] = Wd (kT g (l ++ [e])) := by
  show (W0 g ++ (gT g ++ l)) ++ [e] = W0 g ++ (gT g ++ (l ++ [e]))
  rw [List.append_assoc, List.append_assoc]
theorem kT_new (g : GS) (e : ME) : Wd g ++ [e] = Wd (kT g [e]) := by
  show (W0 g ++ gT g) ++ [e] = W0 g ++ (gT g ++ [e])
  rw [List.append_assoc]
theorem ct_copyT (g g0 : GS) (a b n m : Nat) (f h : Nat → Int32) (hab : a ≠ b) (he : (Wd g)[a]? = some (.inl (0, n, .inl f))) (hb : (Wd g)[b]? = some (.inl (0, m, .inl h))) (h2 : (Wd g).set b (.inl (0, m, .inl (rCopy n m f h))) = Wd g0) (hn : n < 2 ^ 31) (hm : m < 2 ^ 31) : Ct mX6_copy (rm 0 0 0) [.ref a, .ref b] (Wd g) (RR (.inl none) g0) := by
  refine Ct.of (by decide +kernel) (Nat.le_of_ble_eq_true rfl) ?_
  show J _ _ _ _ 0 [some (.ref a), some (.ref b), none] [] _ 0 0
  refine J_iconst (nx := 1) (i := 0) (v := 0) (by decide) dX6_copy_0 rfl ?_
  refine J_istore_n (nx := 2) dX6_copy_1 rfl rfl (Nat.le_of_ble_eq_true rfl) ?_
  exact lp_copy g a b n m _ f h hab he hn hm g0 n 0 (by omega) (by omega) (by omega) (Wd g) he (by rw [hb]; rfl) h2
/-! Code(int, int[], int, int[]) -/
def cdO (nl c : Nat) : ME := .inr (2, [.int (nI nl), .ref (c + 1), .ref (c + 2)])
def cdL (g : GS) (nl sz : Nat) : List ME := [cdO nl (83 + (gT g).length), .inl (0, 4 * nl, .inl (rCopy 48 (4 * nl) (gA g 18) (fun _ => 0))), .inl (0, sz, .inl (rCopy 400 sz (gA g 19) (fun _ => 0)))]
theorem mxI_0 {n : Nat} (h : n < 2 ^ 31) : mxI 0 (nI n) = nI n := by
  unfold mxI
  by_cases h0 : n = 0
  · subst h0; rfl
  · rw [if_pos (show (0 : Int32) < nI n from nI_lt (a := 0) (by omega) h)]
theorem nar_ref (ad : Nat → Nat) (t : FieldType) (ty : FieldType) (h : ty = .array t) (a : Nat) : narrow ty (rv ad (.ref a)) = rv ad (.ref a) := by subst h; rfl

set_option maxRecDepth 100000 in
set_option maxHeartbeats 4000000 in
theorem ct_codeInit (g : GS) (nl sz : Nat) (hnl : nl ≤ 12) (hsz : sz ≤ 400) (hlen : (gT g).length < 100000) : Ct mX2_init (rm 1 2 448) [.ref (83 + (gT g).length), .int (nI nl), .ref 18, .int (nI sz), .ref 19] (Wd (kT g [.inr (2, [.int 0, .null, .null])])) (RR (.inl none) (kT g (cdL g nl sz))) := by
  have hcst : CST = 1000000 := rfl
  refine Ct.of (by decide +kernel) (Nat.le_of_ble_eq_true rfl) ?_
  generalize hc : 83 + (gT g).length = c
  show J _ _ _ _ 0 [some (.ref c), some (.int (nI nl)), some (.ref 18), some (.int (nI sz)), some (.ref 19)] [] _ 0 0
  have h0 : ∀ l : List ME, (Wd (kT g l))[c]? = l[0]? := fun l => by rw [← hc]; exact kT_get g l 0
  have h1 : ∀ l : List ME, (Wd (kT g l))[c + 1]? = l[1]? := fun l => by rw [← hc]; exact kT_get g l 1
  have h2 : ∀ l : List ME, (Wd (kT g l))[c + 2]? = l[2]? := fun l => by rw [← hc]; exact kT_get g l 2
  have s0 : ∀ (l : List ME) (e : ME), (Wd (kT g l)).set c e = Wd (kT g (l.set 0 e)) := fun l e => by rw [← hc]; exact kT_set g l 0 e
  have s1 : ∀ (l : List ME) (e : ME), (Wd (kT g l)).set (c + 1) e = Wd (kT g (l.set 1 e)) := fun l e => by rw [← hc]; exact kT_set g l 1 e
  have s2 : ∀ (l : List ME) (e : ME), (Wd (kT g l)).set (c + 2) e = Wd (kT g (l.set 2 e)) := fun l e => by rw [← hc]; exact kT_set g l 2 e
  have hl : ∀ l : List ME, (Wd (kT g l)).length = c + l.length := fun l => by rw [kT_len, hc]
  refine J_aload_n (nx := 1) dX2_init_0 rfl rfl ?_
  refine J_objInit (nx := 4) dX2_init_1 rfl lk_X2_3 oi_ins oi_code (Nat.le_of_ble_eq_true rfl) ⟨(Nat.le_of_ble_eq_true rfl), (Nat.le_of_ble_eq_true rfl)⟩ ?_
  refine J_aload_n (nx := 5) dX2_init_4 rfl rfl ?_
  refine J_iload_n (nx := 6) dX2_init_5 rfl rfl ?_
  refine J_putF (nx := 9) dX2_init_6 rfl ff_X2_9 rfl (h0 _) (Nat.le_of_ble_eq_true rfl) (fun _ => rfl) (fun _ => rfl) ?_
  refine J.es (es1 := (Wd (kT g [.inr (2, [.int (nI nl), .null, .null])]))) (s0 _ _) ?_
  refine J_aload_n (nx := 10) dX2_init_9 rfl rfl ?_
  refine J_iconst (nx := 11) (i := 0) (v := 0) (by decide) dX2_init_10 rfl ?_
  refine J_iconst (nx := 12) (i := 4) (v := 4) (by decide) dX2_init_11 rfl ?_
  refine J_iload_n (nx := 13) dX2_init_12 rfl rfl ?_
  refine J_imul (nx := 14) dX2_init_13 rfl ?_
  refine JdS2 (R' := rm 0 0 0) (nx := 17) dX2_init_14 rfl ml_J9_max_7cf53 lk_X2_15 st_J9_max_7cf53 ⟨(Nat.le_of_ble_eq_true rfl), (Nat.le_of_ble_eq_true rfl)⟩ (Nat.le_of_ble_eq_true rfl) ⟨rfl, rfl⟩ ⟨Nat.zero_le _, Nat.zero_le _⟩ (ct_max _ _ _) ?_
  rw [show (4 : Int32) = nI 4 from rfl, nI_mul, mxI_0 (by omega)]
  refine J_newi (nx := 19) (N := 4 * nl) ar_int dX2_init_17 rfl (nI_pos (by omega)) (nI_clamp (by omega)) (by omega) (by rw [hl]; show c + 1 < CST; omega) (Nat.le_of_ble_eq_true rfl) (by show 0 + 4 * nl ≤ 448; omega) ?_
  rw [show (Wd (kT g [.inr (2, [.int (nI nl), .null, .null])])).length = c + 1 from hl _]
  refine J.es (es1 := (Wd (kT g [.inr (2, [.int (nI nl), .null, .null]), .inl (0, 4 * nl, .inl (fun _ => 0))]))) (kT_app _ _ _) ?_
  refine J_putF (nx := 22) dX2_init_19 rfl ff_X2_21 rfl (h0 _) (Nat.le_of_ble_eq_true rfl) (fun _ => rfl) (fun _ => rfl) ?_
  refine J.es (es1 := (Wd (kT g [.inr (2, [.int (nI nl), .ref (c + 1), .null]), .inl (0, 4 * nl, .inl (fun _ => 0))]))) (s0 _ _) ?_
  refine J_aload_n (nx := 23) dX2_init_22 rfl rfl ?_
  refine J_iconst (nx := 24) (i := 0) (v := 0) (by decide) dX2_init_23 rfl ?_
  refine J_iload_n (nx := 25) dX2_init_24 rfl rfl ?_
  refine JdS2 (R' := rm 0 0 0) (nx := 28) dX2_init_25 rfl ml_J9_max_7cf53 lk_X2_15 st_J9_max_7cf53 ⟨(Nat.le_of_ble_eq_true rfl), (Nat.le_of_ble_eq_true rfl)⟩ (Nat.le_of_ble_eq_true rfl) ⟨rfl, rfl⟩ ⟨by show 0 + 1 ≤ 2; omega, by show 0 + 4 * nl ≤ 448; omega⟩ (ct_max _ _ _) ?_
  rw [mxI_0 (by omega)]
  refine J_newi (nx := 30) (N := sz) ar_int dX2_init_28 rfl (nI_pos (by omega)) (nI_clamp (by omega)) (by omega) (by rw [hl]; show c + 2 < CST; omega) (by show 0 + 1 + 1 ≤ 2; omega) (by show 0 + 4 * nl + sz ≤ 448; omega) ?_
  rw [show (Wd (kT g [.inr (2, [.int (nI nl), .ref (c + 1), .null]), .inl (0, 4 * nl, .inl (fun _ => 0))])).length = c + 2 from hl _]
  refine J.es (es1 := (Wd (kT g [.inr (2, [.int (nI nl), .ref (c + 1), .null]), .inl (0, 4 * nl, .inl (fun _ => 0)), .inl (0, sz, .inl (fun _ => 0))]))) (kT_app _ _ _) ?_
  refine J_putF (nx := 33) dX2_init_30 rfl ff_X2_25 rfl (h0 _) (Nat.le_of_ble_eq_true rfl) (fun _ => rfl) (fun _ => rfl) ?_
  refine J.es (es1 := (Wd (kT g [.inr (2, [.int (nI nl), .ref (c + 1), .ref (c + 2)]), .inl (0, 4 * nl, .inl (fun _ => 0)), .inl (0, sz, .inl (fun _ => 0))]))) (s0 _ _) ?_
  refine J_aload_n (nx := 34) dX2_init_33 rfl rfl ?_
  refine J_aload_n (nx := 35) dX2_init_34 rfl rfl ?_
  refine J_get (nx := 38) dX2_init_35 rfl fl_X2_21 (h0 _) rfl ?_
  refine JdS2 (R' := rm 0 0 0) (nx := 41) dX2_init_38 rfl ml_X6_copy lk_X2_28 st_X6_copy ⟨(Nat.le_of_ble_eq_true rfl), (Nat.le_of_ble_eq_true rfl)⟩ (Nat.le_of_ble_eq_true rfl) ⟨rfl, rfl⟩ ⟨by show 0 + 1 + 1 ≤ 2; omega, by show 0 + 4 * nl + sz ≤ 448; omega⟩ (ct_copyT (kT g [.inr (2, [.int (nI nl), .ref (c + 1), .ref (c + 2)]), .inl (0, 4 * nl, .inl (fun _ => 0)), .inl (0, sz, .inl (fun _ => 0))]) (kT g [.inr (2, [.int (nI nl), .ref (c + 1), .ref (c + 2)]), .inl (0, 4 * nl, .inl (rCopy 48 (4 * nl) (gA g 18) (fun _ => 0))), .inl (0, sz, .inl (fun _ => 0))]) 18 (c + 1) 48 (4 * nl) (gA g 18) (fun _ => 0) (by omega) (kT_old _ _ 18 (by omega)) (h1 _) (s1 _ _) (by decide) (by omega)) ?_
  refine J_aload (nx := 43) dX2_init_41 rfl rfl ?_
  refine J_aload_n (nx := 44) dX2_init_43 rfl rfl ?_
  refine J_get (nx := 47) dX2_init_44 rfl fl_X2_25 (h0 _) rfl ?_
  refine JdS2 (R' := rm 0 0 0) (nx := 50) dX2_init_47 rfl ml_X6_copy lk_X2_28 st_X6_copy ⟨(Nat.le_of_ble_eq_true rfl), (Nat.le_of_ble_eq_true rfl)⟩ (Nat.le_of_ble_eq_true rfl) ⟨rfl, rfl⟩ ⟨by show 0 + 1 + 1 ≤ 2; omega, by show 0 + 4 * nl + sz ≤ 448; omega⟩ (ct_copyT (kT g [.inr (2, [.int (nI nl), .ref (c + 1), .ref (c + 2)]), .inl (0, 4 * nl, .inl (rCopy 48 (4 * nl) (gA g 18) (fun _ => 0))), .inl (0, sz, .inl (fun _ => 0))]) (kT g [.inr (2, [.int (nI nl), .ref (c + 1), .ref (c + 2)]), .inl (0, 4 * nl, .inl (rCopy 48 (4 * nl) (gA g 18) (fun _ => 0))), .inl (0, sz, .inl (rCopy 400 sz (gA g 19) (fun _ => 0)))]) 19 (c + 2) 400 sz (gA g 19) (fun _ => 0) (by omega) (kT_old _ _ 19 (by omega)) (h2 _) (s2 _ _) (by decide) (by omega)) ?_
  refine Jrv dX2_init_50 rfl (by show 0 + 1 + 1 ≤ 2; omega) (by show 0 + 4 * nl + sz ≤ 448; omega) ⟨rfl, ?_⟩
  show _ = Wd (kT g (cdL g nl sz))
  unfold cdL cdO
  rw [hc]
set_option maxRecDepth 100000 in
set_option maxHeartbeats 4000000 in
theorem ct_made (g : GS) (nl sz : Nat) (h5 : gF g 7 5 = nI nl) (h4 : gF g 7 4 = nI sz) (hnl : nl ≤ 12) (hsz : sz ≤ 400) (hlen : (gT g).length < 100000) : Ct mX8_made (rm 2 3 451) [.ref 7] (Wd g) (RR (.inl (some (.ref (83 + (gT g).length)))) (kT g (cdL g nl sz))) := by
  have hcst : CST = 1000000 := rfl
  have hwl : (Wd g).length = 83 + (gT g).length := by
    show (W0 g ++ gT g).length = _
    rw [List.length_append, show (W0 g).length = 83 from rfl]
  refine Ct.of (by decide +kernel) (Nat.le_of_ble_eq_true rfl) ?_
  show J _ _ _ _ 0 [some (.ref 7)] [] _ 0 0
  refine J_new (nx := 3) dX8_made_0 rfl nl_X8_18 (by omega) (Nat.le_of_ble_eq_true rfl) (Nat.le_of_ble_eq_true rfl) ?_
  rw [hwl]
  refine J.es (kT_new _ _) ?_
  refine J_dup (nx := 4) rfl dX8_made_3 rfl ?_
  refine J_aload_n (nx := 5) dX8_made_4 rfl rfl ?_
  refine J_get (nx := 8) dX8_made_5 rfl fl_X8_59 (kT_old _ _ 7 (by omega)) rfl ?_
  refine J_aload_n (nx := 9) dX8_made_8 rfl rfl ?_
  refine J_get (nx := 12) dX8_made_9 rfl fl_X8_20 (kT_old _ _ 7 (by omega)) rfl ?_
  refine J_aload_n (nx := 13) dX8_made_12 rfl rfl ?_
  refine J_get (nx := 16) dX8_made_13 rfl fl_X8_56 (kT_old _ _ 7 (by omega)) rfl ?_
  refine J_aload_n (nx := 17) dX8_made_16 rfl rfl ?_
  refine J_get (nx := 20) dX8_made_17 rfl fl_X8_24 (kT_old _ _ 7 (by omega)) rfl ?_
  rw [h5, h4]
  refine J_callI (R' := rm 1 2 448) (nx := 23) (b := 83 + (gT g).length) (As := [.int (nI nl), .ref 18, .int (nI sz), .ref 19]) dX8_made_20 rfl ml_X2_init lk_X8_82 ic_X2_init rfl rfl rfl ⟨(Nat.le_of_ble_eq_true rfl), (Nat.le_of_ble_eq_true rfl)⟩ (Nat.le_of_ble_eq_true rfl) ⟨(Nat.le_of_ble_eq_true rfl), (Nat.le_of_ble_eq_true rfl)⟩ (ct_codeInit g nl sz hnl hsz hlen) (fun E es' q => by cases q.1) (fun v es' q => ?_)
  obtain ⟨q1, rfl⟩ := q
  cases q1
  exact Jra dX8_made_23 rfl (Or.inl ⟨_, rfl⟩) (Or.inr ⟨_, rfl⟩) (Nat.le_of_ble_eq_true rfl) (Nat.le_of_ble_eq_true rfl) ⟨rfl, rfl⟩


/-! a GAME text -/
def drS (f : Nat → Int32) (s : Nat) : Int32 := sI (fun w => rAt 1088 f (34 * nI s + nI w)) 34
def drK (f : Nat → Int32) : Nat → Nat → Bool
  | 0, _ => true
  | k + 1, s => if drS f s ≤ 100 then drK f k (s + 1) else false
def rgR (g : GS) (n : Nat) : Nat ⊕ Dr := match pRead (obT n (gA g 2)) (gaLine (obT n (gA g 2))) (sk n (gA g 2) 0) (drOf g) with
  | .inl e => .inl e
  | .inr d => if drK d.1 32 0 = true then .inr d else .inl n

set_option maxRecDepth 100000 in
set_option maxHeartbeats 4000000 in
theorem lp_readGame (g : GS) (n0 : Nat) : ∀ (k : Nat) (s : Nat) (r : Bool), s + k = 32 → r = drK (gA g 9) k s → J mX8_readGame (rm 31 0 0) (RR (.inl (some (.int (bI r)))) (bif r then g else wrG g)) n0 20 [some (.ref 7), some (.ref 20), some (.int (nI s))] [] (Wd g) 0 0 := by
  intro k
  induction k with
  | zero =>
    intro s r hp hr
    refine J_iload_n (nx := 21) dX8_readGame_20 rfl rfl ?_
    refine J_bipush (nx := 23) (i := 32) (v := 32) (by decide) dX8_readGame_21 rfl ?_
    refine J_icmp_ge (nx := 26) (tgt := 50) dX8_readGame_23 rfl (by decide) (fun c_23 => ?_) (fun c_23 => ?_)
    · refine J_iconst (nx := 51) (i := 1) (v := 1) (by decide) dX8_readGame_50 rfl ?_
      exact Jrz dX8_readGame_51 rfl (by decide) (Nat.zero_le _) (Nat.zero_le _) ⟨by rw [hr]; rfl, by rw [hr]; rfl⟩
    · exact absurd (show nI 32 ≤ nI s from by rw [show s = 32 by omega]; exact le_self_nI) c_23
  | succ k ih =>
    intro s r hp hr
    refine J_iload_n (nx := 21) dX8_readGame_20 rfl rfl ?_
    refine J_bipush (nx := 23) (i := 32) (v := 32) (by decide) dX8_readGame_21 rfl ?_
    refine J_icmp_ge (nx := 26) (tgt := 50) dX8_readGame_23 rfl (by decide) (fun c_23 => ?_) (fun c_23 => ?_)
    · exact absurd c_23 (nlt_nI (n := 32) (by omega) (by omega))
    · refine J_aload_n (nx := 27) dX8_readGame_26 rfl rfl ?_
      refine Jg_7_1 (nx := 30) dX8_readGame_27 rfl fl_X8_12 ?_
      refine J_iload_n (nx := 31) dX8_readGame_30 rfl rfl ?_
      refine JcV1 (R' := rm (2) 0 0) (nx := 34) dX8_readGame_31 rfl ml_X1_chancesTogether lk_X8_43 iv_X1_chancesTogether rfl rfl ⟨(Nat.le_of_ble_eq_true rfl), (Nat.le_of_ble_eq_true rfl)⟩ (Nat.le_of_ble_eq_true rfl) ⟨rfl, rfl⟩ (ct_X1_chancesTogether_8 _ _) ?_
      refine J_bipush (nx := 36) (i := 100) (v := 100) (by decide) dX8_readGame_34 rfl ?_
      refine J_icmp_le (nx := 39) (tgt := 44) dX8_readGame_36 rfl (by decide) (fun c_36 => ?_) (fun c_36 => ?_)
      · refine J_iinc (nx := 47) dX8_readGame_44 rfl rfl rfl (Nat.le_of_ble_eq_true rfl) ?_
        refine J_goto (nx := 20) dX8_readGame_47 (by decide) ?_
        show J _ _ _ _ 20 [some (.ref 7), some (.ref 20), some (.int (nI s + Int32.ofInt 1))] [] _ 0 0
        rw [nI_s]
        exact ih (s + 1) r (by omega) (hr.trans (if_pos c_36))
      · refine J_aload_n (nx := 40) dX8_readGame_39 rfl rfl ?_
        refine JcV0 (R' := rm (0) 0 0) (nx := 43) dX8_readGame_40 rfl ml_X8_wrong lk_X8_47 iv_X8_wrong rfl rfl ⟨(Nat.le_of_ble_eq_true rfl), (Nat.le_of_ble_eq_true rfl)⟩ (Nat.le_of_ble_eq_true rfl) ⟨rfl, rfl⟩ (ct_wrong _) ?_
        exact Jrz dX8_readGame_43 rfl (by decide) (Nat.zero_le _) (Nat.zero_le _) ⟨by rw [hr.trans (if_neg c_36)]; rfl, by rw [hr.trans (if_neg c_36)]; rfl⟩

theorem J.post {M : MI} {R : Room} {Q Q' : Res → List ME → Prop} {n0 pc : Nat} {L : List (Option Value)} {st : List Value} {es : List ME} {k ks : Nat} (h : J M R Q n0 pc L st es k ks) (hi : ∀ r es', Q r es' → Q' r es') : J M R Q' n0 pc L st es k ks := by
  intro p l e s m args below meth c D cA ad0 A B0 H locs ls ad hC hR T hT X
  obtain ⟨t2, a1, o, b1, b2, b3⟩ := h p l e s m args below meth c D cA ad0 A B0 H locs ls ad hC hR T hT X
  refine ⟨t2, a1, o, b1, b2, ?_⟩
  rcases b3 with ⟨⟨⟨v, es', ad', e1, q, h4⟩, hF⟩, hE⟩ | ⟨q, ho, E, ce, L, ⟨⟨es', ad', hq, h4⟩, hF⟩, h5⟩
  · exact Or.inl ⟨⟨⟨v, es', ad', e1, hi _ _ q, h4⟩, hF⟩, hE⟩
  · exact Or.inr ⟨q, ho, E, ce, L, ⟨⟨es', ad', hi _ _ hq, h4⟩, hF⟩, h5⟩
set_option maxRecDepth 100000 in
set_option maxHeartbeats 4000000 in
theorem ct_readGame (g : GS) (n c : Nat) (hn : gF g 1 1 = nI n) (hn4 : n ≤ 400) (hR : RowOK g 29) (hV : gV g 20 7 = .ref c) (hB : narrow .boolean (.int (gF g 20 8)) = .int (gF g 20 8)) (hB2 : fits .boolean (.int (gF g 20 8)) = true) : Ct mX8_readGame (rm 31 0 0) [.ref 7, .ref 20] (Wd g) (RXi (fun x g' => Fr fR aR (bkC 20 8 g) g' ∧ (match rgR (bkC 20 8 g) n with | .inl e => x = 0 ∧ gF g' 7 7 = nI e | .inr d => x = 1 ∧ gF g' 7 7 = -1 ∧ drOf g' = d))) := by
  refine Ct.of (by decide +kernel) (Nat.le_of_ble_eq_true rfl) ?_
  show J _ _ _ _ 0 [some (.ref 7), some (.ref 20), none] [] _ 0 0
  refine J_aload_n (nx := 1) dX8_readGame_0 rfl rfl ?_
  refine Jg_7_1 (nx := 4) dX8_readGame_1 rfl fl_X8_12 ?_
  refine J_aload_n (nx := 5) dX8_readGame_4 rfl rfl ?_
  refine JcV1 (R' := rm (1) 0 0) (nx := 8) dX8_readGame_5 rfl ml_X1_copy lk_X8_35 iv_X1_copy rfl rfl ⟨(Nat.le_of_ble_eq_true rfl), (Nat.le_of_ble_eq_true rfl)⟩ (Nat.le_of_ble_eq_true rfl) ⟨rfl, rfl⟩ (ct_copy_8_20 g c hR hV hB hB2) ?_
  refine J_aload_n (nx := 9) dX8_readGame_8 rfl rfl ?_
  refine J_iconst (nx := 10) (i := 0) (v := 0) (by decide) dX8_readGame_9 rfl ?_
  refine JiV1 (R' := rm (30) 0 0) (nx := 13) dX8_readGame_10 rfl ml_X8_read lk_X8_39 iv_X8_read rfl rfl ⟨(Nat.le_of_ble_eq_true rfl), (Nat.le_of_ble_eq_true rfl)⟩ (Nat.le_of_ble_eq_true rfl) ⟨rfl, rfl⟩ (ct_read0 (bkC 20 8 g) n hn hn4) (fun x_10 g_10 p_10 => ?_)
  refine J_if_ne (nx := 16) (tgt := 18) dX8_readGame_13 rfl (by decide) (fun c_13 => ?_) (fun c_13 => ?_)
  · obtain ⟨h1, h2⟩ := p_10
    refine J_iconst (nx := 19) (i := 0) (v := 0) (by decide) dX8_readGame_18 rfl ?_
    refine J_istore_n (nx := 20) dX8_readGame_19 rfl rfl (Nat.le_of_ble_eq_true rfl) ?_
    obtain ⟨d, b, k, e1, hb, hk, hI, h5⟩ : ∃ (d : Dr) (b k : Nat), pRead (obT n (gA (bkC 20 8 g) 2)) (gaLine (obT n (gA (bkC 20 8 g) 2))) (sk n (gA (bkC 20 8 g) 2) 0) (drOf (bkC 20 8 g)) = .inr d ∧ b = n ∧ k ≤ 12 ∧ IG (obT n (gA (bkC 20 8 g) 2)) g_10 b d k ∧ gF g_10 7 5 = nI k := by
      revert h2
      generalize pRead _ _ _ _ = r
      intro h2
      cases r with
      | inl e => exact absurd h2.1 c_13
      | inr d => obtain ⟨-, b, k, q1, q2, q3, q4⟩ := h2; exact ⟨d, b, k, rfl, q1, q2, q3, q4⟩
    have hd : gA g_10 9 = d.1 := congrArg Prod.fst hI.2
    have hL := lp_readGame g_10 (Wd g).length 32 0 _ rfl rfl
    refine J.post hL (fun r es q => ?_)
    obtain ⟨q1, q2⟩ := q
    rw [q1, q2]
    cases hK : drK (gA g_10 9) 32 0 with
    | true =>
      refine RXi.of ⟨h1, ?_⟩
      unfold rgR
      rw [e1]
      dsimp only
      rw [if_pos (by rw [← hd]; exact hK)]
      exact ⟨rfl, hI.1.2.2.2.2, hI.2⟩
    | false =>
      refine RXi.of ⟨h1.tr (fr_CR (wrG_fr _)), ?_⟩
      unfold rgR
      rw [e1]
      dsimp only
      rw [if_neg (by rw [← hd, hK]; decide)]
      exact ⟨rfl, by show gF g_10 1 8 = nI n; rw [hI.1.beg, hb]⟩
  · refine J_iconst (nx := 17) (i := 0) (v := 0) (by decide) dX8_readGame_16 rfl ?_
    exact Jrz dX8_readGame_17 rfl (by decide) (Nat.zero_le _) (Nat.zero_le _) (RXi.of (by obtain ⟨h1, h2⟩ := p_10; refine ⟨h1, ?_⟩; unfold rgR; revert h2; generalize pRead _ _ _ _ = r; intro h2; cases r with | inl e => exact ⟨rfl, h2.2⟩ | inr d => exact absurd (h2.1.symm.trans c_13) (by decide)))

