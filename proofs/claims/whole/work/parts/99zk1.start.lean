/-! the tables' part and the constants' part, at the start -/
theorem TT_sub {w : Cond} (h : w ∈ TT) : w ∈ lw_tbl := (List.mem_filter.mp h).1
theorem kn1 {A : Array Value} {s : State} (hts : ∀ w ∈ lw_tbl, w.before A s = true) {ci n : Nat} {C : String} {T : u_T} {N : Nat} {ty : Nat → FieldType} (hc : CLS ci C T N ty) {k : Nat} (hi : lw_tbl[k]? = some (Cond.instantiable C n)) : ∃ p : ClassId × (Nat → Nat), ∀ q : vw_C, vwCl[ci]? = some q → u_Kn s q.1 q.2.1 q.2.2 p.1 p.2 := by
  obtain ⟨cC, iS, h⟩ := u_known (ws := lw_tbl) (C := C) (T := T) (N := N) hts (fun w hw => TT_sub (hc.2.1 w hw)) (hts _ (List.mem_of_getElem? hi))
  refine ⟨(cC, iS), fun q hq => ?_⟩
  cases hc.1.symm.trans hq
  exact h
theorem law_K {A : Array Value} {s : State} (hts : ∀ w ∈ lw_tbl, w.before A s = true) : ∃ (D : va_G) (cA : Nat → ClassId), va_K D vwCl (tysA cA) s := by
  have ht : ∀ {k : Nat} {w : Cond}, lw_tbl[k]? = some w → w.before A s = true := fun h => hts _ (List.mem_of_getElem? h)
  have hcl : ∀ c : Nat, ∃ p : ClassId × (Nat → Nat), ∀ q : vw_C, vwCl[c]? = some q → u_Kn s q.1 q.2.1 q.2.2 p.1 p.2 := fun c => match c with
    | 0 => kn1 hts cls_X0 nw_inX0
    | 1 => kn1 hts cls_X1 nw_inX1
    | 2 => kn1 hts cls_X2 nw_inX2
    | 3 => kn1 hts cls_X3 nw_inX3
    | 4 => kn1 hts cls_X4 nw_inX4
    | 5 => kn1 hts cls_X5 nw_inX5
    | 6 => kn1 hts cls_X7 nw_inX7
    | 7 => kn1 hts cls_X8 nw_inX8
    | 8 => kn1 hts cls_X9 nw_inX9
    | 9 => by
      obtain ⟨cC, iS, h⟩ := u_known (ws := lw_tbl) (C := RX10) (T := TX10) (N := 0) hts (fun w hw => by cases hw) (ht nw_inX10)
      refine ⟨(cC, iS), fun q hq => ?_⟩
      cases (show vwCl[9]? = some (RX10, TX10, 0) from rfl).symm.trans hq
      exact h
    | 10 => kn1 hts cls_X11 nw_inX11
    | 11 => kn1 hts cls_X12 nw_inX12
    | n + 12 => ⟨(0, fun _ => 0), fun q hq => by cases hq⟩
  obtain ⟨f, hf⟩ := Classical.axiomOfChoice hcl
  obtain ⟨c0, k0, m0, a0, b0, d0⟩ := Cond.arrayClass_spec (ht nw_aI)
  obtain ⟨c1, k1, m1, a1, b1, d1⟩ := Cond.arrayClass_spec (ht nw_aL)
  obtain ⟨c2, k2, m2, a2, b2, d2⟩ := Cond.arrayClass_spec (ht nw_aB)
  obtain ⟨m3, c3, k3, e3, -, b3, d3, g3⟩ := Cond.arrayOver_spec (ht nw_aC)
  obtain ⟨m4, c4, k4, e4, -, b4, d4, g4⟩ := Cond.arrayOver_spec (ht nw_aW)
  refine ⟨(fun c => (f c).1, fun c => (f c).2), fun t => match t with | 0 => c0 | 1 => c1 | 2 => c2 | 3 => c3 | _ => c4, fun c q hq => hf c q hq, fun k q hk => ?_⟩
  match k, hk with
  | 0, hk => cases hk; exact ⟨fun n z => ⟨fun k h => (by cases h), k0, b0, m0, d0⟩, a0⟩
  | 1, hk => cases hk; exact ⟨fun n z => ⟨fun k h => (by cases h), k1, b1, m1, d1⟩, a1⟩
  | 2, hk => cases hk; exact ⟨fun n z => ⟨fun k h => (by cases h), k2, b2, m2, d2⟩, a2⟩
  | 3, hk => cases hk; exact ⟨fun n z => ⟨fun k h => (by cases h), k3, b3, m3, d3⟩, k3, m3, b3, d3, e3, g3⟩
  | 4, hk => cases hk; exact ⟨fun n z => ⟨fun k h => (by cases h), k4, b4, m4, d4⟩, k4, m4, b4, d4, e4, g4⟩
  | k + 5, hk => cases hk
/-- two arrays at one place -/
theorem va_T.same {ty : FieldType} {t N N' : Nat} {f f' : Nat → Value} {A : Nat → Prop} {U : State} {H : Heap} (h : va_T ty t N f A U H) (h' : va_T ty t N' f' A U H) (hN : N < 2 ^ 31) (hN' : N' < 2 ^ 31) : N = N' ∧ ∀ j, j < N → f j = f' j := by
  obtain ⟨c, h1, -, -, -, h5, h6, -⟩ := h
  obtain ⟨c', g1, -, -, -, g5, g6, -⟩ := h'
  cases h1.symm.trans g1
  have e : nI N = nI N' := h5.symm.trans g5
  have e2 : N = N' := by
    have := congrArg Int32.toNatClampNeg e
    rwa [nI_clamp hN, nI_clamp hN'] at this
  subst e2
  exact ⟨rfl, fun j hj => Option.some.inj ((h6 j hj).symm.trans (g6 j hj))⟩
theorem va_OF.same {o n d : String} {v v' : Value} {t : Nat} {A : Nat → Prop} {U : State} {H : Heap} (h : va_OF o n d v t A U H) (h' : va_OF o n d v' t A U H) : v = v' := by
  obtain ⟨cf, k, i, f, cell, h1, -, h3, -, h5, -⟩ := h
  obtain ⟨cf', k', i', f', cell', g1, -, g3, -, g5, -⟩ := h'
  cases h1.symm.trans g1
  cases h3.symm.trans g3
  exact Option.some.inj (h5.symm.trans g5)
set_option maxRecDepth 100000 in
set_option maxHeartbeats 4000000 in
theorem law_KC {A : Array Value} {s : State} (hts : ∀ w ∈ lw_tbl, w.before A s = true) (hgv : narrow_1.before A s = true) (b : Nat) : ∃ ad0 : Nat → Nat, ad0 (CST + 200) = b ∧ KC s.heap.size ad0 s s.heap := by
  have hn : ∀ {k : Nat} {w : Cond}, (flatC narrow_1)[k]? = some w → w.before A s = true := fun h => flat_of_before narrow_1 hgv _ (List.mem_of_getElem? h)
  have ht : ∀ {k : Nat} {w : Cond}, lw_tbl[k]? = some w → w.before A s = true := fun h => hts _ (List.mem_of_getElem? h)
  have hA : ∀ a : Nat, a < s.heap.size → ¬ (fun q : Nat => s.heap.size ≤ q) a := fun a h => Nat.not_le.mpr h
  have h0 : ∀ i : Nat, ∃ t : Nat, i < 23 → (nwSt i).eval A s none [] s = some (.ref t) ∧ va_O "WhistleBook$Word" t (fun q : Nat => s.heap.size ≤ q) s s.heap := by
    intro i
    by_cases hi : i < 23
    · obtain ⟨a, c, cell, k, q1, q2, q3, q4, q5, q6, -⟩ := Cond.exactly_spec (hn (nw_ex i hi))
      exact ⟨a, fun _ => ⟨q1, cell, q3, q5, by rw [q6]; exact q2, hA a (Array.getElem?_eq_some_iff.mp q3).1⟩⟩
    · exact ⟨0, fun h => absurd h hi⟩
  obtain ⟨aw, haw⟩ := Classical.axiomOfChoice h0
  have hl31 : ∀ i, i < 23 → wLen.getD i 0 < 2 ^ 31 := by decide +kernel
  have h1 : ∀ i : Nat, ∃ q : Nat × Nat, i < 23 → (nwSg i).eval A s none [] s = some (.ref q.1) ∧ va_O "java/lang/String" q.1 (fun q : Nat => s.heap.size ≤ q) s s.heap ∧ va_OF "java/lang/String" "coder" "B" (.int 0) q.1 (fun q : Nat => s.heap.size ≤ q) s s.heap ∧ va_OF "java/lang/String" "value" "[B" (.ref q.2) q.1 (fun q : Nat => s.heap.size ≤ q) s s.heap ∧ va_T .byte q.2 (wLen.getD i 0) (fun j => .int ((wByt.getD i []).getD j 0)) (fun q : Nat => s.heap.size ≤ q) s s.heap := by
    intro i
    by_cases hi : i < 23
    · obtain ⟨a, c, cell, k, q1, q2, q3, q4, q5, q6, -⟩ := Cond.exactly_spec (hn (nw_sx i hi))
      obtain ⟨t, et, hT⟩ := va_Tof (f := fun j => .int ((wByt.getD i []).getD j 0)) (A := fun q : Nat => s.heap.size ≤ q) (hl31 i hi) (hn (nw_sa i hi)) (va_eqt (hn (nw_sl i hi))) (fun j hj => va_eqt (hn (nw_sb i hi j hj))) hA
      exact ⟨(a, t), fun _ => ⟨q1, ⟨cell, q3, q5, by rw [q6]; exact q2, hA a (Array.getElem?_eq_some_iff.mp q3).1⟩, vk_OFof q1 (va_eqt (hn (nw_sc i hi))) hA, vk_OFof q1 et hA, hT⟩⟩
    · exact ⟨(0, 0), fun h => absurd h hi⟩
  obtain ⟨as, has⟩ := Classical.axiomOfChoice h1
  obtain ⟨tA, eA, hTA⟩ := va_Tof (tm := nwAl) (ty := .object "WhistleBook$Word") (N := 23) (f := fun j => .ref (aw j)) (A := fun q : Nat => s.heap.size ≤ q) (by omega) (hn nw_arr) (va_eqt (hn nw_len)) (fun j hj => va_eqv (hn (nw_al j hj)) (haw j hj).1) hA
  obtain ⟨tF, hF⟩ : ∃ tF : Nat, va_Z "jdk/internal/util/Preconditions" "SIOOBE_FORMATTER" "Ljava/util/function/BiFunction;" .null (fun q : Nat => s.heap.size ≤ q) s s.heap ∨ va_Z "jdk/internal/util/Preconditions" "SIOOBE_FORMATTER" "Ljava/util/function/BiFunction;" (.ref tF) (fun q : Nat => s.heap.size ≤ q) s s.heap := by
    rcases va_Zqof (A := fun q : Nat => s.heap.size ≤ q) (ht nw_tF) (ht nw_iP) (hn nw_sf) hA with h | ⟨t, h⟩
    · exact ⟨0, Or.inl h⟩
    · exact ⟨t, Or.inr h⟩
  obtain ⟨ad0, eW, eA3, eS, eV, eF, eB⟩ : ∃ ad0 : Nat → Nat, (∀ j, j < 23 → ad0 (CST + j) = aw j) ∧ ad0 (CST + 23) = tA ∧ (∀ j, j < 23 → ad0 (CST + 24 + j) = (as j).1) ∧ (∀ j, j < 23 → ad0 (CST + 47 + j) = (as j).2) ∧ ad0 (CST + 70) = tF ∧ ad0 (CST + 200) = b := by
    refine ⟨fun k => if k < CST + 23 then aw (k - CST) else if k < CST + 24 then tA else if k < CST + 47 then (as (k - (CST + 24))).1 else if k < CST + 70 then (as (k - (CST + 47))).2 else if k < CST + 71 then tF else b, fun j hj => ?_, ?_, fun j hj => ?_, fun j hj => ?_, ?_, ?_⟩
    · dsimp only; rw [if_pos (by omega), Nat.add_sub_cancel_left]
    · dsimp only; rw [if_neg (by omega), if_pos (by omega)]
    · dsimp only; rw [if_neg (by omega), if_neg (by omega), if_pos (by omega), Nat.add_sub_cancel_left]
    · dsimp only; rw [if_neg (by omega), if_neg (by omega), if_neg (by omega), if_pos (by omega), Nat.add_sub_cancel_left]
    · dsimp only; rw [if_neg (by omega), if_neg (by omega), if_neg (by omega), if_neg (by omega), if_pos (by omega)]
    · dsimp only; rw [if_neg (by omega), if_neg (by omega), if_neg (by omega), if_neg (by omega), if_neg (by omega)]
  have dne : ∀ i j, i < 23 → j < 23 → i < j → aw i ≠ aw j := fun i j hi hj hij => by
    have h := hn (nw_ne i hi j hj hij)
    by_cases c : fl_ne.getD (23 * i + j) 0 = 0
    · rw [if_pos c] at h
      exact va_neR h (haw i hi).1 (haw j hj).1
    · rw [if_neg c] at h
      exact fun e => va_neR h (haw j hj).1 (haw i hi).1 e.symm
  refine ⟨ad0, eB, vx_Zqof (ht nw_tU) (ht nw_iT) (hn nw_us) hA, vx_Zqof (ht nw_tS) (ht nw_iT) (hn nw_ss) hA, fun a i b n d h hm => va_Nw.of rfl (hts _ hm), ⟨fun a i x h hm => va_Nw.of rfl (hts _ hm), fun x hm => va_Nw.of rfl (hts _ hm), fun C T hm => va_Nw.of rfl (hts _ hm), ?_⟩, va_AO.of (ht nw_aC), va_AO.of (ht nw_aW), ?_⟩
  · exact List.forall_mem_cons.mpr ⟨va_Nc.of (hn nw_cui), List.forall_mem_cons.mpr ⟨va_Nc.of (hn nw_cno), List.forall_mem_cons.mpr ⟨va_Nc.of (hn nw_cio), List.forall_mem_cons.mpr ⟨va_Nc.of (hn nw_cni), fun _ h => absurd h List.not_mem_nil⟩⟩⟩⟩
  · refine ⟨fun j hj => ?_, fun i j hi hj e => ?_, ?_, ?_, ⟨fun i hi => ?_, fun i j hi hj e => ?_⟩, fun q hq => ?_, ?_, ?_⟩
    · unfold KWj
      rw [eW j hj, eS j hj]
      exact ⟨va_Zref (ht (nw_la j hj)) (ht nw_iW) (haw j hj).1 hA, (haw j hj).2, vk_OFof (haw j hj).1 (va_eqv (hn (nw_le j hj)) (has j hj).1) hA, vk_OFof (haw j hj).1 (va_eqt (hn (nw_fa j hj))) hA⟩
    · rw [eW i hi, eW j hj] at e
      rcases Nat.lt_trichotomy i j with h | h | h
      · exact absurd e (dne i j hi hj h)
      · exact h
      · exact absurd e.symm (dne j i hj hi h)
    · rw [eA3]
      exact va_Zref (ht nw_tA) (ht nw_iW) eA hA
    · rw [eA3]
      obtain ⟨cell, t1, t2, t3, t4, t5, t6, t7⟩ := hTA
      exact ⟨cell, t1, t2, t3, t4, t5, fun j hj => by rw [t6 j hj]; show some (Value.ref (aw j)) = some (Value.ref (ad0 (CST + j))); rw [eW j hj], t7⟩
    · dsimp only
      rw [eS i hi, eV i hi]
      exact (has i hi).2
    · dsimp only at e
      rw [eS i hi, eS j hj] at e
      obtain ⟨-, -, -, v1, t1⟩ := has i hi
      obtain ⟨-, -, -, v2, t2⟩ := has j hj
      rw [e] at v1
      have e2 : (as i).2 = (as j).2 := by
        have := v1.same v2
        injection this
      rw [e2] at t1
      obtain ⟨u1, u2⟩ := t1.same t2 (hl31 i hi) (hl31 j hj)
      exact st_ne i hi j hj u1 (fun k hk => by
        have := u2 k hk
        injection this)
    · obtain ⟨t, htl, et⟩ := List.getElem_of_mem hq
      have h22 : t < 22 := htl
      have eq : mStr.getD t (0, 0) = q := by rw [← et]; show (mStr[t]?).getD (0, 0) = _; rw [List.getElem?_eq_getElem htl]; rfl
      have a1 := ht (nw_sr t h22)
      have a2 := hn (nw_ms t h22)
      have a3 := ms_lt t h22
      rw [eq] at a1 a2 a3
      rw [eS q.2 a3]
      exact vk_R.of a1 (va_eqv a2 (has q.2 a3).1)
    · exact va_Zof (ht nw_tC) (ht nw_iS) (va_eqi (hn nw_cs)) hA
    · rw [eF]; exact hF
