
/-! the JDK's Math over ints: a class of which some methods are not run as bytecode; these are (plainFor) -/
theorem vx_ofWF {l : Launch} {y : MethodName} {ws ws' : List Cond} {rm : Room} {Pc : Array Value → State → Prop} {Qc : Array Value → State → Outcome → State → Prop} {XC : String → State → State → Prop} {mc ms : Nat} {free : Addr → Prop} {cc : ByteArray} {maxL : Nat} {ret : Option FieldType}
    (hy : plainFor y = true) (hw : ws = Cond.code y cc maxL ret :: ws')
    (body : ∀ p e s m args below meth c s₁, BodyLoose p l y (headSpec ws rm) cc maxL ret e s m args below meth c s₁ → c.maxLocals = maxL → (∀ x ∈ c.exceptionTable.toList, False) → Pc args s →
      W p l e (headSpec ws rm).room s m args below meth c s.heap [] 0 0 (vx_MQ below Qc XC args s mc ms free) (entryFrame m args maxL)) : vx_Met l y ws rm Pc Qc XC mc ms free := by
  refine MetFree.of_bodySF (code := cc) (maxLocals := maxL) (ret := ret) hy ?_ ?_
  · intro args s m h hn
    obtain ⟨meth, c, h1, h2, h3, h4, h5, h6, -, -⟩ := Cond.code_spec hn (atoms_spec (ws := ws) h _ (by rw [hw]; exact List.mem_cons_self))
    exact ⟨meth, c, h1, h2, h3, h4, h5, h6⟩
  · intro p e s m args below meth c s₁ B hml hP _
    have hh0 : s₁.heap = s.heap := by rw [B.state]; rfl
    have ht : ∀ x ∈ c.exceptionTable.toList, False := by
      obtain ⟨meth9, c9, h1, h2, -, -, -, -, h7, -⟩ := Cond.code_spec B.named (atoms_spec (ws := ws) B.pre _ (by rw [hw]; exact List.mem_cons_self))
      cases Option.some.inj (h1.symm.trans B.method)
      cases Option.some.inj (h2.symm.trans (Stand.of_body B).code)
      intro x hx
      rw [Array.isEmpty_iff.mp h7] at hx
      cases hx
    obtain ⟨t, a1, o, b1, b2, b3⟩ := body p e s m args below meth c s₁ B hml ht hP s₁ hh0 (Stand.of_body B)
    exact ⟨t, o, a1, b1, b2, b3⟩
theorem Ct.ofF {M : MI} {R : Room} {args : List Value} {es : List ME} {Q : Res → List ME → Prop} (hy : plainFor M.1 = true) (hn : (iL args).length ≤ M.2.2.1)
    (h : J M R Q es.length 0 (iL args ++ List.replicate (M.2.2.1 - (iL args).length) none) [] es 0 0) : Ct M R args es Q := by
  intro ha he hc l hl ad D cA B0 sz
  refine vx_ofWF (cc := M.2.1) (maxL := M.2.2.1) (ret := M.2.2.2) hy rfl ?_
  intro p e s m args' below meth c s₁ B hml hex hv
  obtain ⟨rfl, hsz, hB0, hP, hK, hD0, hKC⟩ := hv
  subst hsz
  have hts := atoms_spec (ws := wsA M) B.pre
  have hE := lv_entry (args.map (rv ad)) (n := M.2.2.1) (by rw [iL_len]; exact hn)
  rw [lg_entry_eq]
  refine h p l e s m _ below meth c D cA ad (va_A (rW cA ad es) s.heap.size) B0 s.heap [] _ ad ⟨⟨B.exec, B.bytes, hml, B.returns, findClass_of_methodNamed B.named, fun w hw => hts w (List.mem_cons_of_mem _ hw)⟩, ⟨B.notSynchronized, (name_of_methodNamed B.named B.method).1, hex⟩, ⟨fun q hq => Or.inr hq, ?_, hB0⟩, hK, hKC, hl⟩
    ⟨⟨fun k _ => rfl, Nat.le_refl _, hc, he, hP, hD0.self⟩, va_S.rf, ⟨hE.1, hE.2.1, ?_⟩, fun v hv => (by cases hv), ?_⟩
  · rintro q (⟨k, e, hk⟩ | hq)
    · exact hD0.2 k _ hk
    · exact Nat.le_trans hB0 hq
  · intro i v hi
    have := hE.2.2 _ (iL_args ad args 0 i v (iL_pad hi))
    rwa [Nat.zero_add] at this
  · intro i v hi
    exact iL_ok args ha i v (iL_pad hi)
def fdI (a b : Int32) : Int32 := if 0 ≤ a ^^^ b then a / b else if a / b * b = a then a / b else a / b - 1
def mxI (a b : Int32) : Int32 := if a < b then b else a
def mnI (a b : Int32) : Int32 := if b < a then b else a
def itN {α : Type} (f : Nat → α → α) : Nat → α → α
  | 0, a => a
  | n + 1, a => f n (itN f n a)
/-! Ways -/
def mxR (g : GS) (n : Nat) (f : Nat → Int32) (base : Int32) : Nat → Int32 → Int32 → Int32
  | 0, _, a => a
  | k + 1, i, a => mxR g n f base k (i + Int32.ofInt 1) (a + rAt 144 (gA g 43) i * rAt n f (base + rAt 144 (gA g 42) i))
def wyN (g : GS) (s : Int32) : Nat := ((rAt 33 (gA g 44) (s + 1)).toInt - (rAt 33 (gA g 44) s).toInt).toNat
def mixI (g : GS) (n : Nat) (f : Nat → Int32) (s base ig il : Int32) : Int32 :=
  fdI (mxR g n f base (wyN g s) (rAt 33 (gA g 44) s) (rAt 32 (gA g 45) s * ig + rAt 32 (gA g 46) s * il + rAt 32 (gA g 47) s * rAt n f (base + s))) 100
def drT (g : GS) (s dr a : Int32) : Int32 :=
  if a + rAt 32 (gA g 45) s ≤ dr then (if a + rAt 32 (gA g 45) s + rAt 32 (gA g 46) s ≤ dr then s else 33) else 32
def drR (g : GS) (s dr : Int32) : Nat → Int32 → Int32 → Int32
  | 0, _, a => drT g s dr a
  | k + 1, i, a => if a + rAt 144 (gA g 43) i ≤ dr then drR g s dr k (i + Int32.ofInt 1) (a + rAt 144 (gA g 43) i) else rAt 144 (gA g 42) i
def drawnI (g : GS) (s dr : Int32) : Int32 := drR g s dr (wyN g s) (rAt 33 (gA g 44) s) 0
def wrStep (s o : Nat) (q : GS × Int32) : GS × Int32 :=
  if bk_ch q.1 20 (nI s) (nI o) ≤ 0 then q else (sA (sA q.1 42 (rPut 144 (gA q.1 42) q.2 (nI o))) 43 (rPut 144 (gA q.1 43) q.2 (bk_ch q.1 20 (nI s) (nI o))), q.2 + Int32.ofInt 1)
def wrP1 (g : GS) (s : Nat) : GS := sA g 45 (rPut 32 (gA g 45) (nI s) (bk_ch g 20 (nI s) 32))
def wrP2 (g : GS) (s : Nat) : GS := sA g 46 (rPut 32 (gA g 46) (nI s) (bk_ch g 20 (nI s) 33))
def wrP3 (g : GS) (s : Nat) : GS := sA g 47 (rPut 32 (gA g 47) (nI s) (100 - bk_ct g 20 (nI s)))
def wrS0 (s : Nat) (q : GS × Int32) : GS × Int32 := (sA q.1 44 (rPut 33 (gA q.1 44) (nI s) q.2), q.2)
def wrS1 (s : Nat) (q : GS × Int32) : GS × Int32 := (wrP3 (wrP2 (wrP1 q.1 s) s) s, q.2)
def wrS (s : Nat) (q : GS × Int32) : GS × Int32 := wrS1 s (itN (wrStep s) 32 (wrS0 s q))
def wrEnd (q : GS × Int32) : GS := sA q.1 44 (rPut 33 (gA q.1 44) 32 q.2)
def wrAll (g : GS) : GS := wrEnd (itN wrS 32 (g, 0))

set_option maxRecDepth 100000 in
set_option maxHeartbeats 4000000 in
theorem ct_floorDiv (g : GS) (a b : Int32) (hb : ¬ b = 0) : Ct mJ9_floorDiv_7cf53 (rm 0 0 0) [.int a, .int b] (Wd g) (RR (.inl (some (.int (fdI a b)))) g) := by
  refine Ct.ofF (by decide +kernel) (Nat.le_of_ble_eq_true rfl) ?_
  show J _ _ _ _ 0 [some (.int a), some (.int b), none] [] _ 0 0
  refine J_iload_n (nx := 1) dJ9_floorDiv_7cf53_0 rfl rfl ?_
  refine J_iload_n (nx := 2) dJ9_floorDiv_7cf53_1 rfl rfl ?_
  refine J_idiv (nx := 3) hb dJ9_floorDiv_7cf53_2 rfl ?_
  refine J_istore_n (nx := 4) dJ9_floorDiv_7cf53_3 rfl rfl (Nat.le_of_ble_eq_true rfl) ?_
  refine J_iload_n (nx := 5) dJ9_floorDiv_7cf53_4 rfl rfl ?_
  refine J_iload_n (nx := 6) dJ9_floorDiv_7cf53_5 rfl rfl ?_
  refine J_ixor (nx := 7) dJ9_floorDiv_7cf53_6 rfl ?_
  refine J_if_ge (nx := 10) (tgt := 21) dJ9_floorDiv_7cf53_7 rfl (by decide) (fun c_7 => ?_) (fun c_7 => ?_)
  · refine J_iload_n (nx := 22) dJ9_floorDiv_7cf53_21 rfl rfl ?_
    exact Jri dJ9_floorDiv_7cf53_22 rfl (Nat.zero_le _) (Nat.zero_le _) (RR.i (by unfold fdI; first | rw [if_pos c_7] | rw [if_neg c_7, if_pos c_14] | rw [if_neg c_7, if_neg c_14]) rfl)
  · refine J_iload_n (nx := 11) dJ9_floorDiv_7cf53_10 rfl rfl ?_
    refine J_iload_n (nx := 12) dJ9_floorDiv_7cf53_11 rfl rfl ?_
    refine J_imul (nx := 13) dJ9_floorDiv_7cf53_12 rfl ?_
    refine J_iload_n (nx := 14) dJ9_floorDiv_7cf53_13 rfl rfl ?_
    refine J_icmp_eq (nx := 17) (tgt := 21) dJ9_floorDiv_7cf53_14 rfl (by decide) (fun c_14 => ?_) (fun c_14 => ?_)
    · refine J_iload_n (nx := 22) dJ9_floorDiv_7cf53_21 rfl rfl ?_
      exact Jri dJ9_floorDiv_7cf53_22 rfl (Nat.zero_le _) (Nat.zero_le _) (RR.i (by unfold fdI; first | rw [if_pos c_7] | rw [if_neg c_7, if_pos c_14] | rw [if_neg c_7, if_neg c_14]) rfl)
    · refine J_iload_n (nx := 18) dJ9_floorDiv_7cf53_17 rfl rfl ?_
      refine J_iconst (nx := 19) (i := 1) (v := 1) (by decide) dJ9_floorDiv_7cf53_18 rfl ?_
      refine J_isub (nx := 20) dJ9_floorDiv_7cf53_19 rfl ?_
      exact Jri dJ9_floorDiv_7cf53_20 rfl (Nat.zero_le _) (Nat.zero_le _) (RR.i (by unfold fdI; first | rw [if_pos c_7] | rw [if_neg c_7, if_pos c_14] | rw [if_neg c_7, if_neg c_14]) rfl)

set_option maxRecDepth 100000 in
set_option maxHeartbeats 4000000 in
theorem ct_max (g : GS) (a b : Int32) : Ct mJ9_max_7cf53 (rm 0 0 0) [.int a, .int b] (Wd g) (RR (.inl (some (.int (mxI a b)))) g) := by
  refine Ct.ofF (by decide +kernel) (Nat.le_of_ble_eq_true rfl) ?_
  show J _ _ _ _ 0 [some (.int a), some (.int b)] [] _ 0 0
  refine J_iload_n (nx := 1) dJ9_max_7cf53_0 rfl rfl ?_
  refine J_iload_n (nx := 2) dJ9_max_7cf53_1 rfl rfl ?_
  refine J_icmp_lt (nx := 5) (tgt := 9) dJ9_max_7cf53_2 rfl (by decide) (fun c_2 => ?_) (fun c_2 => ?_)
  · refine J_iload_n (nx := 10) dJ9_max_7cf53_9 rfl rfl ?_
    exact Jri dJ9_max_7cf53_10 rfl (Nat.zero_le _) (Nat.zero_le _) (RR.i (by unfold mxI; first | rw [if_pos c_2] | rw [if_neg c_2]) rfl)
  · refine J_iload_n (nx := 6) dJ9_max_7cf53_5 rfl rfl ?_
    refine J_goto (nx := 10) dJ9_max_7cf53_6 (by decide) ?_
    exact Jri dJ9_max_7cf53_10 rfl (Nat.zero_le _) (Nat.zero_le _) (RR.i (by unfold mxI; first | rw [if_pos c_2] | rw [if_neg c_2]) rfl)

set_option maxRecDepth 100000 in
set_option maxHeartbeats 4000000 in
theorem ct_min (g : GS) (a b : Int32) : Ct mJ9_min_7cf53 (rm 0 0 0) [.int a, .int b] (Wd g) (RR (.inl (some (.int (mnI a b)))) g) := by
  refine Ct.ofF (by decide +kernel) (Nat.le_of_ble_eq_true rfl) ?_
  show J _ _ _ _ 0 [some (.int a), some (.int b)] [] _ 0 0
  refine J_iload_n (nx := 1) dJ9_min_7cf53_0 rfl rfl ?_
  refine J_iload_n (nx := 2) dJ9_min_7cf53_1 rfl rfl ?_
  refine J_icmp_gt (nx := 5) (tgt := 9) dJ9_min_7cf53_2 rfl (by decide) (fun c_2 => ?_) (fun c_2 => ?_)
  · refine J_iload_n (nx := 10) dJ9_min_7cf53_9 rfl rfl ?_
    exact Jri dJ9_min_7cf53_10 rfl (Nat.zero_le _) (Nat.zero_le _) (RR.i (by unfold mnI; first | rw [if_pos c_2] | rw [if_neg c_2]) rfl)
  · refine J_iload_n (nx := 6) dJ9_min_7cf53_5 rfl rfl ?_
    refine J_goto (nx := 10) dJ9_min_7cf53_6 (by decide) ?_
    exact Jri dJ9_min_7cf53_10 rfl (Nat.zero_le _) (Nat.zero_le _) (RR.i (by unfold mnI; first | rw [if_pos c_2] | rw [if_neg c_2]) rfl)

set_option maxRecDepth 100000 in
set_option maxHeartbeats 4000000 in
theorem lp_mix (g : GS) (a n : Nat) (f : Nat → Int32) (s base ig il : Int32) (hr : (Wd g)[a]? = some (.inl (0, n, .inl f))) (hn : n < 2 ^ 31) (e : Int32) (n0 : Nat) : ∀ (k : Nat) (i acc r : Int32), (e.toInt - i.toInt).toNat = k → r = fdI (mxR g n f base k i acc) 100 → J mX9_mix (rm 1 0 0) (RR (.inl (some (.int r))) g) n0 64 [some (.ref 41), some (.int s), some (.ref a), some (.int base), some (.int ig), some (.int il), some (.int acc), some (.int e), some (.int i)] [] (Wd g) 0 0 := by
  intro k
  induction k with
  | zero =>
    intro i acc r hk hx
    refine J_iload (nx := 66) dX9_mix_64 rfl rfl ?_
    refine J_iload (nx := 68) dX9_mix_66 rfl rfl ?_
    refine J_icmp_ge (nx := 71) (tgt := 107) dX9_mix_68 rfl (by decide) (fun c_68 => ?_) (fun c_68 => ?_)
    · refine J_iload (nx := 109) dX9_mix_107 rfl rfl ?_
      refine J_bipush (nx := 111) (i := 100) (v := 100) (by decide) dX9_mix_109 rfl ?_
      refine JcS2 (R' := rm 0 0 0) (nx := 114) dX9_mix_111 rfl ml_J9_floorDiv_7cf53 lk_X9_49 st_J9_floorDiv_7cf53 ⟨(Nat.le_of_ble_eq_true rfl), (Nat.le_of_ble_eq_true rfl)⟩ (Nat.le_of_ble_eq_true rfl) ⟨rfl, rfl⟩ (ct_floorDiv _ _ _ (by decide)) ?_
      exact Jri dX9_mix_114 rfl (Nat.zero_le _) (Nat.zero_le _) (RR.i (by rw [hx]; rfl) rfl)
    · exact absurd hk (by rw [Int32.le_iff_toInt_le] at c_68; omega)
  | succ k ih =>
    intro i acc r hk hx
    refine J_iload (nx := 66) dX9_mix_64 rfl rfl ?_
    refine J_iload (nx := 68) dX9_mix_66 rfl rfl ?_
    refine J_icmp_ge (nx := 71) (tgt := 107) dX9_mix_68 rfl (by decide) (fun c_68 => ?_) (fun c_68 => ?_)
    · exact absurd hk (by rw [Int32.le_iff_toInt_le] at c_68; omega)
    · refine J_iload (nx := 73) dX9_mix_71 rfl rfl ?_
      refine J_aload_n (nx := 74) dX9_mix_73 rfl rfl ?_
      refine Jg_41_1 (nx := 77) dX9_mix_74 rfl fl_X9_15 ?_
      refine J_iload (nx := 79) dX9_mix_77 rfl rfl ?_
      refine JcS2 (R' := rm 0 0 0) (nx := 82) dX9_mix_79 rfl ml_X6_at lk_X9_45 st_X6_at ⟨(Nat.le_of_ble_eq_true rfl), (Nat.le_of_ble_eq_true rfl)⟩ (Nat.le_of_ble_eq_true rfl) ⟨rfl, rfl⟩ (ct_at _ 43 144 _ _ rfl (by decide)) ?_
      refine J_aload_n (nx := 83) dX9_mix_82 rfl rfl ?_
      refine J_iload_n (nx := 84) dX9_mix_83 rfl rfl ?_
      refine J_aload_n (nx := 85) dX9_mix_84 rfl rfl ?_
      refine Jg_41_0 (nx := 88) dX9_mix_85 rfl fl_X9_9 ?_
      refine J_iload (nx := 90) dX9_mix_88 rfl rfl ?_
      refine JcS2 (R' := rm 0 0 0) (nx := 93) dX9_mix_90 rfl ml_X6_at lk_X9_45 st_X6_at ⟨(Nat.le_of_ble_eq_true rfl), (Nat.le_of_ble_eq_true rfl)⟩ (Nat.le_of_ble_eq_true rfl) ⟨rfl, rfl⟩ (ct_at _ 42 144 _ _ rfl (by decide)) ?_
      refine J_iadd (nx := 94) dX9_mix_93 rfl ?_
      refine JcS2 (R' := rm 0 0 0) (nx := 97) dX9_mix_94 rfl ml_X6_at lk_X9_45 st_X6_at ⟨(Nat.le_of_ble_eq_true rfl), (Nat.le_of_ble_eq_true rfl)⟩ (Nat.le_of_ble_eq_true rfl) ⟨rfl, rfl⟩ (ct_at _ a n _ _ hr hn) ?_
      refine J_imul (nx := 98) dX9_mix_97 rfl ?_
      refine J_iadd (nx := 99) dX9_mix_98 rfl ?_
      refine J_istore (nx := 101) dX9_mix_99 rfl rfl (Nat.le_of_ble_eq_true rfl) ?_
      refine J_iinc (nx := 104) dX9_mix_101 rfl rfl rfl (Nat.le_of_ble_eq_true rfl) ?_
      refine J_goto (nx := 64) dX9_mix_104 (by decide) ?_
      have hm := inc_toInt c_68
      exact ih (i + Int32.ofInt 1) _ r (by rw [Int32.le_iff_toInt_le] at c_68; omega) hx

set_option maxRecDepth 100000 in
set_option maxHeartbeats 4000000 in
theorem ct_mix (g : GS) (a n : Nat) (f : Nat → Int32) (s base ig il : Int32) (hr : (Wd g)[a]? = some (.inl (0, n, .inl f))) (hn : n < 2 ^ 31) : Ct mX9_mix (rm 1 0 0) [.ref 41, .int s, .ref a, .int base, .int ig, .int il] (Wd g) (RR (.inl (some (.int (mixI g n f s base ig il)))) g) := by
  refine Ct.of (by decide +kernel) (Nat.le_of_ble_eq_true rfl) ?_
  show J _ _ _ _ 0 [some (.ref 41), some (.int s), some (.ref a), some (.int base), some (.int ig), some (.int il), none, none, none] [] _ 0 0
  refine J_aload_n (nx := 1) dX9_mix_0 rfl rfl ?_
  refine Jg_41_3 (nx := 4) dX9_mix_1 rfl fl_X9_21 ?_
  refine J_iload_n (nx := 5) dX9_mix_4 rfl rfl ?_
  refine JcS2 (R' := rm 0 0 0) (nx := 8) dX9_mix_5 rfl ml_X6_at lk_X9_45 st_X6_at ⟨(Nat.le_of_ble_eq_true rfl), (Nat.le_of_ble_eq_true rfl)⟩ (Nat.le_of_ble_eq_true rfl) ⟨rfl, rfl⟩ (ct_at _ 45 32 _ _ rfl (by decide)) ?_
  refine J_iload (nx := 10) dX9_mix_8 rfl rfl ?_
  refine J_imul (nx := 11) dX9_mix_10 rfl ?_
  refine J_aload_n (nx := 12) dX9_mix_11 rfl rfl ?_
  refine Jg_41_4 (nx := 15) dX9_mix_12 rfl fl_X9_24 ?_
  refine J_iload_n (nx := 16) dX9_mix_15 rfl rfl ?_
  refine JcS2 (R' := rm 0 0 0) (nx := 19) dX9_mix_16 rfl ml_X6_at lk_X9_45 st_X6_at ⟨(Nat.le_of_ble_eq_true rfl), (Nat.le_of_ble_eq_true rfl)⟩ (Nat.le_of_ble_eq_true rfl) ⟨rfl, rfl⟩ (ct_at _ 46 32 _ _ rfl (by decide)) ?_
  refine J_iload (nx := 21) dX9_mix_19 rfl rfl ?_
  refine J_imul (nx := 22) dX9_mix_21 rfl ?_
  refine J_iadd (nx := 23) dX9_mix_22 rfl ?_
  refine J_aload_n (nx := 24) dX9_mix_23 rfl rfl ?_
  refine Jg_41_5 (nx := 27) dX9_mix_24 rfl fl_X9_27 ?_
  refine J_iload_n (nx := 28) dX9_mix_27 rfl rfl ?_
  refine JcS2 (R' := rm 0 0 0) (nx := 31) dX9_mix_28 rfl ml_X6_at lk_X9_45 st_X6_at ⟨(Nat.le_of_ble_eq_true rfl), (Nat.le_of_ble_eq_true rfl)⟩ (Nat.le_of_ble_eq_true rfl) ⟨rfl, rfl⟩ (ct_at _ 47 32 _ _ rfl (by decide)) ?_
  refine J_aload_n (nx := 32) dX9_mix_31 rfl rfl ?_
  refine J_iload_n (nx := 33) dX9_mix_32 rfl rfl ?_
  refine J_iload_n (nx := 34) dX9_mix_33 rfl rfl ?_
  refine J_iadd (nx := 35) dX9_mix_34 rfl ?_
  refine JcS2 (R' := rm 0 0 0) (nx := 38) dX9_mix_35 rfl ml_X6_at lk_X9_45 st_X6_at ⟨(Nat.le_of_ble_eq_true rfl), (Nat.le_of_ble_eq_true rfl)⟩ (Nat.le_of_ble_eq_true rfl) ⟨rfl, rfl⟩ (ct_at _ a n _ _ hr hn) ?_
  refine J_imul (nx := 39) dX9_mix_38 rfl ?_
  refine J_iadd (nx := 40) dX9_mix_39 rfl ?_
  refine J_istore (nx := 42) dX9_mix_40 rfl rfl (Nat.le_of_ble_eq_true rfl) ?_
  refine J_aload_n (nx := 43) dX9_mix_42 rfl rfl ?_
  refine Jg_41_2 (nx := 46) dX9_mix_43 rfl fl_X9_18 ?_
  refine J_iload_n (nx := 47) dX9_mix_46 rfl rfl ?_
  refine J_iconst (nx := 48) (i := 1) (v := 1) (by decide) dX9_mix_47 rfl ?_
  refine J_iadd (nx := 49) dX9_mix_48 rfl ?_
  refine JcS2 (R' := rm 0 0 0) (nx := 52) dX9_mix_49 rfl ml_X6_at lk_X9_45 st_X6_at ⟨(Nat.le_of_ble_eq_true rfl), (Nat.le_of_ble_eq_true rfl)⟩ (Nat.le_of_ble_eq_true rfl) ⟨rfl, rfl⟩ (ct_at _ 44 33 _ _ rfl (by decide)) ?_
  refine J_istore (nx := 54) dX9_mix_52 rfl rfl (Nat.le_of_ble_eq_true rfl) ?_
  refine J_aload_n (nx := 55) dX9_mix_54 rfl rfl ?_
  refine Jg_41_2 (nx := 58) dX9_mix_55 rfl fl_X9_18 ?_
  refine J_iload_n (nx := 59) dX9_mix_58 rfl rfl ?_
  refine JcS2 (R' := rm 0 0 0) (nx := 62) dX9_mix_59 rfl ml_X6_at lk_X9_45 st_X6_at ⟨(Nat.le_of_ble_eq_true rfl), (Nat.le_of_ble_eq_true rfl)⟩ (Nat.le_of_ble_eq_true rfl) ⟨rfl, rfl⟩ (ct_at _ 44 33 _ _ rfl (by decide)) ?_
  refine J_istore (nx := 64) dX9_mix_62 rfl rfl (Nat.le_of_ble_eq_true rfl) ?_
  exact lp_mix g a n f s base ig il hr hn _ _ (wyN g s) _ _ _ rfl rfl

set_option maxRecDepth 100000 in
set_option maxHeartbeats 4000000 in
theorem lp_drawn (g : GS) (s dr e : Int32) (n0 : Nat) : ∀ (k : Nat) (i acc r : Int32), (e.toInt - i.toInt).toNat = k → r = drR g s dr k i acc → J mX9_drawn (rm 1 0 0) (RR (.inl (some (.int r))) g) n0 24 [some (.ref 41), some (.int s), some (.int dr), some (.int acc), some (.int e), some (.int i)] [] (Wd g) 0 0 := by
  intro k
  induction k with
  | zero =>
    intro i acc r hk hx
    refine J_iload (nx := 26) dX9_drawn_24 rfl rfl ?_
    refine J_iload (nx := 28) dX9_drawn_26 rfl rfl ?_
    refine J_icmp_ge (nx := 31) (tgt := 64) dX9_drawn_28 rfl (by decide) (fun c_28 => ?_) (fun c_28 => ?_)
    · refine J_iload_n (nx := 65) dX9_drawn_64 rfl rfl ?_
      refine J_aload_n (nx := 66) dX9_drawn_65 rfl rfl ?_
      refine Jg_41_3 (nx := 69) dX9_drawn_66 rfl fl_X9_21 ?_
      refine J_iload_n (nx := 70) dX9_drawn_69 rfl rfl ?_
      refine JcS2 (R' := rm 0 0 0) (nx := 73) dX9_drawn_70 rfl ml_X6_at lk_X9_45 st_X6_at ⟨(Nat.le_of_ble_eq_true rfl), (Nat.le_of_ble_eq_true rfl)⟩ (Nat.le_of_ble_eq_true rfl) ⟨rfl, rfl⟩ (ct_at _ 45 32 _ _ rfl (by decide)) ?_
      refine J_iadd (nx := 74) dX9_drawn_73 rfl ?_
      refine J_istore_n (nx := 75) dX9_drawn_74 rfl rfl (Nat.le_of_ble_eq_true rfl) ?_
      refine J_iload_n (nx := 76) dX9_drawn_75 rfl rfl ?_
      refine J_iload_n (nx := 77) dX9_drawn_76 rfl rfl ?_
      refine J_icmp_ge (nx := 80) (tgt := 83) dX9_drawn_77 rfl (by decide) (fun c_77 => ?_) (fun c_77 => ?_)
      · refine J_iload_n (nx := 84) dX9_drawn_83 rfl rfl ?_
        refine J_iload_n (nx := 85) dX9_drawn_84 rfl rfl ?_
        refine J_aload_n (nx := 86) dX9_drawn_85 rfl rfl ?_
        refine Jg_41_4 (nx := 89) dX9_drawn_86 rfl fl_X9_24 ?_
        refine J_iload_n (nx := 90) dX9_drawn_89 rfl rfl ?_
        refine JcS2 (R' := rm 0 0 0) (nx := 93) dX9_drawn_90 rfl ml_X6_at lk_X9_45 st_X6_at ⟨(Nat.le_of_ble_eq_true rfl), (Nat.le_of_ble_eq_true rfl)⟩ (Nat.le_of_ble_eq_true rfl) ⟨rfl, rfl⟩ (ct_at _ 46 32 _ _ rfl (by decide)) ?_
        refine J_iadd (nx := 94) dX9_drawn_93 rfl ?_
        refine J_icmp_ge (nx := 97) (tgt := 102) dX9_drawn_94 rfl (by decide) (fun c_94 => ?_) (fun c_94 => ?_)
        · refine J_iload_n (nx := 103) dX9_drawn_102 rfl rfl ?_
          exact Jri dX9_drawn_103 rfl (Nat.zero_le _) (Nat.zero_le _) (RR.i (by rw [hx]; unfold drR drT; rw [if_pos c_77]; first | rw [if_pos c_94] | rw [if_neg c_94]) rfl)
        · refine J_bipush (nx := 99) (i := 33) (v := 33) (by decide) dX9_drawn_97 rfl ?_
          refine J_goto (nx := 103) dX9_drawn_99 (by decide) ?_
          exact Jri dX9_drawn_103 rfl (Nat.zero_le _) (Nat.zero_le _) (RR.i (by rw [hx]; unfold drR drT; rw [if_pos c_77]; first | rw [if_pos c_94] | rw [if_neg c_94]) rfl)
      · refine J_bipush (nx := 82) (i := 32) (v := 32) (by decide) dX9_drawn_80 rfl ?_
        exact Jri dX9_drawn_82 rfl (Nat.zero_le _) (Nat.zero_le _) (RR.i (by rw [hx]; unfold drR drT; rw [if_neg c_77]) rfl)
    · exact absurd hk (by rw [Int32.le_iff_toInt_le] at c_28; omega)
  | succ k ih =>
    intro i acc r hk hx
    refine J_iload (nx := 26) dX9_drawn_24 rfl rfl ?_
    refine J_iload (nx := 28) dX9_drawn_26 rfl rfl ?_
    refine J_icmp_ge (nx := 31) (tgt := 64) dX9_drawn_28 rfl (by decide) (fun c_28 => ?_) (fun c_28 => ?_)
    · exact absurd hk (by rw [Int32.le_iff_toInt_le] at c_28; omega)
    · refine J_iload_n (nx := 32) dX9_drawn_31 rfl rfl ?_
      refine J_aload_n (nx := 33) dX9_drawn_32 rfl rfl ?_
      refine Jg_41_1 (nx := 36) dX9_drawn_33 rfl fl_X9_15 ?_
      refine J_iload (nx := 38) dX9_drawn_36 rfl rfl ?_
      refine JcS2 (R' := rm 0 0 0) (nx := 41) dX9_drawn_38 rfl ml_X6_at lk_X9_45 st_X6_at ⟨(Nat.le_of_ble_eq_true rfl), (Nat.le_of_ble_eq_true rfl)⟩ (Nat.le_of_ble_eq_true rfl) ⟨rfl, rfl⟩ (ct_at _ 43 144 _ _ rfl (by decide)) ?_
      refine J_iadd (nx := 42) dX9_drawn_41 rfl ?_
      refine J_istore_n (nx := 43) dX9_drawn_42 rfl rfl (Nat.le_of_ble_eq_true rfl) ?_
      refine J_iload_n (nx := 44) dX9_drawn_43 rfl rfl ?_
      refine J_iload_n (nx := 45) dX9_drawn_44 rfl rfl ?_
      refine J_icmp_ge (nx := 48) (tgt := 58) dX9_drawn_45 rfl (by decide) (fun c_45 => ?_) (fun c_45 => ?_)
      · refine J_iinc (nx := 61) dX9_drawn_58 rfl rfl rfl (Nat.le_of_ble_eq_true rfl) ?_
        refine J_goto (nx := 24) dX9_drawn_61 (by decide) ?_
        have hm := inc_toInt c_28
        exact ih (i + Int32.ofInt 1) _ r (by rw [Int32.le_iff_toInt_le] at c_28; omega) (hx.trans (if_pos c_45))
      · refine J_aload_n (nx := 49) dX9_drawn_48 rfl rfl ?_
        refine Jg_41_0 (nx := 52) dX9_drawn_49 rfl fl_X9_9 ?_
        refine J_iload (nx := 54) dX9_drawn_52 rfl rfl ?_
        refine JcS2 (R' := rm 0 0 0) (nx := 57) dX9_drawn_54 rfl ml_X6_at lk_X9_45 st_X6_at ⟨(Nat.le_of_ble_eq_true rfl), (Nat.le_of_ble_eq_true rfl)⟩ (Nat.le_of_ble_eq_true rfl) ⟨rfl, rfl⟩ (ct_at _ 42 144 _ _ rfl (by decide)) ?_
        exact Jri dX9_drawn_57 rfl (Nat.zero_le _) (Nat.zero_le _) (RR.i (hx.trans (if_neg c_45)).symm rfl)

set_option maxRecDepth 100000 in
set_option maxHeartbeats 4000000 in
theorem ct_drawn (g : GS) (s dr : Int32) : Ct mX9_drawn (rm 1 0 0) [.ref 41, .int s, .int dr] (Wd g) (RR (.inl (some (.int (drawnI g s dr)))) g) := by
  refine Ct.of (by decide +kernel) (Nat.le_of_ble_eq_true rfl) ?_
  show J _ _ _ _ 0 [some (.ref 41), some (.int s), some (.int dr), none, none, none] [] _ 0 0
  refine J_iconst (nx := 1) (i := 0) (v := 0) (by decide) dX9_drawn_0 rfl ?_
  refine J_istore_n (nx := 2) dX9_drawn_1 rfl rfl (Nat.le_of_ble_eq_true rfl) ?_
  refine J_aload_n (nx := 3) dX9_drawn_2 rfl rfl ?_
  refine Jg_41_2 (nx := 6) dX9_drawn_3 rfl fl_X9_18 ?_
  refine J_iload_n (nx := 7) dX9_drawn_6 rfl rfl ?_
  refine J_iconst (nx := 8) (i := 1) (v := 1) (by decide) dX9_drawn_7 rfl ?_
  refine J_iadd (nx := 9) dX9_drawn_8 rfl ?_
  refine JcS2 (R' := rm 0 0 0) (nx := 12) dX9_drawn_9 rfl ml_X6_at lk_X9_45 st_X6_at ⟨(Nat.le_of_ble_eq_true rfl), (Nat.le_of_ble_eq_true rfl)⟩ (Nat.le_of_ble_eq_true rfl) ⟨rfl, rfl⟩ (ct_at _ 44 33 _ _ rfl (by decide)) ?_
  refine J_istore (nx := 14) dX9_drawn_12 rfl rfl (Nat.le_of_ble_eq_true rfl) ?_
  refine J_aload_n (nx := 15) dX9_drawn_14 rfl rfl ?_
  refine Jg_41_2 (nx := 18) dX9_drawn_15 rfl fl_X9_18 ?_
  refine J_iload_n (nx := 19) dX9_drawn_18 rfl rfl ?_
  refine JcS2 (R' := rm 0 0 0) (nx := 22) dX9_drawn_19 rfl ml_X6_at lk_X9_45 st_X6_at ⟨(Nat.le_of_ble_eq_true rfl), (Nat.le_of_ble_eq_true rfl)⟩ (Nat.le_of_ble_eq_true rfl) ⟨rfl, rfl⟩ (ct_at _ 44 33 _ _ rfl (by decide)) ?_
  refine J_istore (nx := 24) dX9_drawn_22 rfl rfl (Nat.le_of_ble_eq_true rfl) ?_
  exact lp_drawn g s dr _ _ (wyN g s) _ _ _ rfl rfl

