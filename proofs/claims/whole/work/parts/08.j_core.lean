/-! the constants: Word j stands at place CST + j, ALL at CST + 23, Word j's letters at CST + 24 + j, their bytes at CST + 47 + j -/
def wNm : List String := ["NO_WORD", "AT", "TO", "GOAL", "LOST", "EVEN", "ADD", "LESS", "IF", "STOP", "PLAY", "WAIT", "OR", "AND", "NOT", "LATE", "ZONE", "FREE", "SECOND", "KICK", "MINUTE", "AHEAD", "BEHIND"]
def wFact : List Int32 := [(-1), (-1), (-1), (-1), (-1), (-1), (-1), (-1), (-1), (-1), (-1), (-1), (-1), (-1), (-1), (-1), 0, 1, 2, 3, 4, 5, 6]
def wLen : List Nat := [0, 2, 2, 4, 4, 4, 3, 4, 2, 4, 4, 4, 2, 3, 3, 4, 4, 4, 6, 4, 6, 5, 6]
def wByt : List (List Int32) := [[], [97, 116], [116, 111], [103, 111, 97, 108], [108, 111, 115, 116], [101, 118, 101, 110], [97, 100, 100], [108, 101, 115, 115], [105, 102], [115, 116, 111, 112], [112, 108, 97, 121], [119, 97, 105, 116], [111, 114], [97, 110, 100], [110, 111, 116], [108, 97, 116, 101], [122, 111, 110, 101], [102, 114, 101, 101], [115, 101, 99, 111, 110, 100], [107, 105, 99, 107], [109, 105, 110, 117, 116, 101], [97, 104, 101, 97, 100], [98, 101, 104, 105, 110, 100]]
def wLet : List Nat := [126, 132, 134, 137, 140, 143, 146, 149, 152, 155, 158, 161, 164, 167, 170, 173, 176, 179, 182, 185, 188, 191, 194]
def wTx : List String := ["", "at", "to", "goal", "lost", "even", "add", "less", "if", "stop", "play", "wait", "or", "and", "not", "late", "zone", "free", "second", "kick", "minute", "ahead", "behind"]
def mStr : List (Nat × Nat) := [(124, 20), (126, 21), (128, 22), (133, 16), (135, 17), (137, 18), (139, 19), (165, 14), (173, 15), (178, 13), (183, 12), (185, 5), (189, 1), (194, 2), (196, 3), (198, 4), (200, 6), (202, 7), (207, 8), (209, 9), (211, 10), (213, 11)]
/-- Word j, its letters, its fact -/
def KWj (B0 : Nat) (ad : Nat → Nat) (U : State) (H : Heap) (j : Nat) : Prop :=
  va_Z "WhistleBook$Word" (wNm.getD j "") "LWhistleBook$Word;" (.ref (ad (CST + j))) (fun q : Nat => B0 ≤ q) U H ∧ va_O "WhistleBook$Word" (ad (CST + j)) (fun q : Nat => B0 ≤ q) U H ∧
  va_OF "WhistleBook$Word" "letters" "Ljava/lang/String;" (.ref (ad (CST + 24 + j))) (ad (CST + j)) (fun q : Nat => B0 ≤ q) U H ∧ va_OF "WhistleBook$Word" "fact" "I" (.int (wFact.getD j 0)) (ad (CST + j)) (fun q : Nat => B0 ≤ q) U H
theorem KWj.moved {B0 : Nat} {ad ad' : Nat → Nat} {s U : State} {H H1 : Heap} {j : Nat} (h : KWj B0 ad s H j) (hvm : s.vm.Alike U.vm) (hk : ∀ a : Nat, a < H.size → ¬ B0 ≤ a → H1[a]? = H[a]?) (had : ∀ k, CST ≤ k → ad' k = ad k) : KWj B0 ad' U H1 j := by
  unfold KWj
  rw [had (CST + j) (by omega), had (CST + 24 + j) (by omega)]
  exact ⟨(va_Z.moved hvm h.1).kept hk, (va_O.moved hvm h.2.1).kept hk, (va_OF.moved hvm h.2.2.1).kept hk, (va_OF.moved hvm h.2.2.2).kept hk⟩
def KW (B0 : Nat) (ad : Nat → Nat) (U : State) (H : Heap) : Prop :=
  (∀ j, j < 23 → KWj B0 ad U H j) ∧ (∀ i j, i < 23 → j < 23 → ad (CST + i) = ad (CST + j) → i = j) ∧
  va_Z "WhistleBook$Word" "ALL" "[LWhistleBook$Word;" (.ref (ad (CST + 23))) (fun q : Nat => B0 ≤ q) U H ∧ va_T (.object "WhistleBook$Word") (ad (CST + 23)) 23 (fun j => .ref (ad (CST + j))) (fun q : Nat => B0 ≤ q) U H ∧
  vk_S 23 wLen wByt (fun i => ad (CST + 24 + i)) (fun i => ad (CST + 47 + i)) (fun q : Nat => B0 ≤ q) U H ∧
  (∀ q ∈ mStr, vk_R "WhistleBookModel" q.1 (wTx.getD q.2 "") (ad (CST + 24 + q.2)) U) ∧
  va_Z "java/lang/String" "COMPACT_STRINGS" "Z" (.int 1) (fun q : Nat => B0 ≤ q) U H ∧ (va_Z "jdk/internal/util/Preconditions" "SIOOBE_FORMATTER" "Ljava/util/function/BiFunction;" .null (fun q : Nat => B0 ≤ q) U H ∨ va_Z "jdk/internal/util/Preconditions" "SIOOBE_FORMATTER" "Ljava/util/function/BiFunction;" (.ref (ad (CST + 70))) (fun q : Nat => B0 ≤ q) U H)
theorem KW.moved {B0 : Nat} {ad ad' : Nat → Nat} {s U : State} {H H1 : Heap} (h : KW B0 ad s H) (hW : s.WarmedH U.vm) (hk : ∀ a : Nat, a < H.size → ¬ B0 ≤ a → H1[a]? = H[a]?) (had : ∀ k, CST ≤ k → ad' k = ad k) : KW B0 ad' U H1 := by
  have e1 : (fun j => Value.ref (ad' (CST + j))) = fun j => Value.ref (ad (CST + j)) := funext (fun j => by rw [had (CST + j) (by omega)])
  have e2 : (fun i => ad' (CST + 24 + i)) = fun i => ad (CST + 24 + i) := funext (fun j => had _ (by omega))
  have e3 : (fun i => ad' (CST + 47 + i)) = fun i => ad (CST + 47 + i) := funext (fun j => had _ (by omega))
  unfold KW
  rw [e1, e2, e3, had (CST + 23) (by omega), had (CST + 70) (by omega)]
  refine ⟨fun j hj => (h.1 j hj).moved hW.alike hk had, fun i j hi hj e => h.2.1 i j hi hj (by rwa [had (CST + i) (by omega), had (CST + j) (by omega)] at e), (va_Z.moved hW.alike h.2.2.1).kept hk, (va_T.moved hW.alike h.2.2.2.1).kept hk, (vk_S.moved hW.alike h.2.2.2.2.1).kept hk, fun q hq => ?_, (va_Z.moved hW.alike h.2.2.2.2.2.2.1).kept hk, h.2.2.2.2.2.2.2.imp (fun z => (va_Z.moved hW.alike z).kept hk) (fun z => (va_Z.moved hW.alike z).kept hk)⟩
  rw [had (CST + 24 + q.2) (by omega)]
  exact vk_R.warm hW (h.2.2.2.2.2.1 q hq)
/-- what is thrown, and not caught as another -/
def nCast : List (String × String) := [("java/lang/UnsupportedOperationException", "java/lang/IllegalArgumentException"), ("java/util/NoSuchElementException", "java/lang/IndexOutOfBoundsException"), ("java/lang/IllegalArgumentException", "java/lang/IndexOutOfBoundsException"), ("java/util/NoSuchElementException", "java/lang/IllegalArgumentException")]
/-- what the constants' part of the heap holds (places from B0 on are the world's) -/
def KC (B0 : Nat) (ad : Nat → Nat) (U : State) (H : Heap) : Prop :=
  vx_Zq Bundle.tN "UNASSIGNED_STACK" Bundle.steD (fun q : Nat => B0 ≤ q) U H ∧ vx_Zq Bundle.tN "SUPPRESSED_SENTINEL" Bundle.listD (fun q : Nat => B0 ≤ q) U H ∧
  (∀ (a : String) (i : Nat) (b n d h : String), Cond.fieldLinkNest a i b n d h ∈ lw_tbl → va_Nw (.fieldLinkNest a i b n d h) U) ∧ ((∀ (a : String) (i : Nat) (x : MethodName) (h : String), Cond.methodLinkNest a i x h ∈ lw_tbl → va_Nw (.methodLinkNest a i x h) U) ∧ (∀ x : MethodName, Cond.declares x ∈ lw_tbl → va_Nw (.declares x) U) ∧ (∀ C T : String, Cond.castable C T ∈ lw_tbl → va_Nw (.castable C T) U) ∧ (∀ q ∈ nCast, va_Nc q.1 q.2 U)) ∧
  va_AO "WhistleBook$Code" U ∧ va_AO "WhistleBook$Word" U ∧ KW B0 ad U H
theorem KC.moved {B0 : Nat} {ad ad' : Nat → Nat} {s U : State} {H H1 : Heap} (h : KC B0 ad s H) (hW : s.WarmedH U.vm) (hk : ∀ a : Nat, a < H.size → ¬ B0 ≤ a → H1[a]? = H[a]?) (had : ∀ k, CST ≤ k → ad' k = ad k) : KC B0 ad' U H1 :=
  ⟨(vx_Zq.moved hW.alike h.1).kept hk, (vx_Zq.moved hW.alike h.2.1).kept hk, fun a i b n d z hm => va_Nw.warmF hW (h.2.2.1 a i b n d z hm), ⟨fun a i x z hm => va_Nw.warmM hW (h.2.2.2.1.1 a i x z hm), fun x hm => va_Nw.warmD hW (h.2.2.2.1.2.1 x hm), fun C T hm => va_Nw.warmC hW (h.2.2.2.1.2.2.1 C T hm), fun q hq => va_Nc.moved hW.alike (h.2.2.2.1.2.2.2 q hq)⟩, va_AO.moved hW.alike h.2.2.2.2.1, va_AO.moved hW.alike h.2.2.2.2.2.1, h.2.2.2.2.2.2.moved hW hk had⟩
abbrev wsA (M : MI) : List Cond := Cond.code M.1 M.2.1 M.2.2.1 M.2.2.2 :: TT
/-- the frame that a walk stands in -/
def jC (M : MI) (p : Program) (l : Launch) (s : State) (m : MethodId) (args : Array Value) (meth : Method) (c : Code) (D : va_G) (cA : Nat → ClassId) (ad0 : Nat → Nat) (A : Nat → Prop) (B0 : Nat) : Prop :=
  (p.tables.exec = Jvm.exec ∧ c.code = M.2.1 ∧ c.maxLocals = M.2.2.1 ∧ meth.sig.returnType = M.2.2.2 ∧ s.vm.findClass M.1.cls = some m.cls ∧ (∀ w ∈ TT, w.before args s = true)) ∧
  (meth.locks = false ∧ meth.name = M.1.name ∧ ∀ x ∈ c.exceptionTable.toList, False) ∧
  ((∀ q, s.heap.size ≤ q → A q) ∧ (∀ q, A q → B0 ≤ q) ∧ B0 ≤ s.heap.size) ∧ va_K D vwCl (tysA cA) s ∧ KC B0 ad0 s s.heap ∧ l.stackTraces = false
/-- a world stands in the heap -/
def jE (n0 : Nat) (ad0 : Nat → Nat) (D : va_G) (cA : Nat → ClassId) (A : Nat → Prop) (ad : Nat → Nat) (es : List ME) (H : Heap) : Prop :=
  (∀ k, (k < n0 ∨ CST ≤ k) → ad k = ad0 k) ∧ n0 ≤ es.length ∧ es.length ≤ CST ∧ (∀ e ∈ es, okE es.length e) ∧ va_P D vwCl (rW cA ad es) H ∧ va_D A (rW cA ad es)
def jR (M : MI) (n0 : Nat) (ad0 : Nat → Nat) (D : va_G) (cA : Nat → ClassId) (A : Nat → Prop) (s : State) (H : Heap) (locs : List Loc) (ls : Array Slot) (ad : Nat → Nat) (L : List (Option Value)) (st : List Value) (es : List ME) : Prop :=
  jE n0 ad0 D cA A ad es H ∧ va_S A s.heap H locs ∧ jL ls M.2.2.1 ad L ∧ (∀ v ∈ st, okV es.length v) ∧ (∀ (i : Nat) (v : Value), L[i]? = some (some v) → okV es.length v)
def jQ (Q : Res → List ME → Prop) (n0 : Nat) (ad0 : Nat → Nat) (D : va_G) (cA : Nat → ClassId) (A : Nat → Prop) : Array Value → State → Outcome → State → Prop := fun _ st oc t =>
  (∃ (v : Option Value) (es : List ME) (ad : Nat → Nat), oc = .returned (v.map (rv ad)) ∧ Q (.inl v) es ∧ jE n0 ad0 D cA A ad es t.heap ∧ va_K D vwCl (tysA cA) t ∧ ∀ w, v = some w → okV es.length w) ∧ va_F A st t
def jX (Q : Res → List ME → Prop) (n0 : Nat) (ad0 : Nat → Nat) (D : va_G) (cA : Nat → ClassId) (A : Nat → Prop) : String → State → State → Prop := fun E st t =>
  (∃ (es : List ME) (ad : Nat → Nat), Q (.inr E) es ∧ jE n0 ad0 D cA A ad es t.heap ∧ va_K D vwCl (tysA cA) t) ∧ va_F A st t
def J (M : MI) (R : Room) (Q : Res → List ME → Prop) (n0 pc : Nat) (L : List (Option Value)) (st : List Value) (es : List ME) (k ks : Nat) : Prop :=
  ∀ (p : Program) (l : Launch) (e : Env) (s : State) (m : MethodId) (args : Array Value) (below : List Frame) (meth : Method) (c : Code) (D : va_G) (cA : Nat → ClassId) (ad0 : Nat → Nat) (A : Nat → Prop) (B0 : Nat) (H : Heap) (locs : List Loc) (ls : Array Slot) (ad : Nat → Nat),
    jC M p l s m args meth c D cA ad0 A B0 → jR M n0 ad0 D cA A s H locs ls ad L st es →
    W p l e R s m args below meth c H locs k ks (vx_MQ below (jQ Q n0 ad0 D cA A) (jX Q n0 ad0 D cA A) args s R.cells R.slots A) (F0 m pc ls (st.map (rv ad)))
/-- a method's contract -/
def Ct (M : MI) (R : Room) (args : List Value) (es : List ME) (Q : Res → List ME → Prop) : Prop :=
  (∀ v ∈ args, okV es.length v) → (∀ e ∈ es, okE es.length e) → es.length ≤ CST → ∀ (l : Launch), l.stackTraces = false → ∀ (ad : Nat → Nat) (D : va_G) (cA : Nat → ClassId) (B0 sz : Nat),
    vx_Met l M.1 (wsA M) R (va_Pc (args.map (rv ad)) (fun U => U.heap.size = sz ∧ B0 ≤ sz ∧ va_P D vwCl (rW cA ad es) U.heap ∧ va_K D vwCl (tysA cA) U ∧ va_D (fun q : Nat => B0 ≤ q) (rW cA ad es) ∧ KC B0 ad U U.heap))
      (jQ Q es.length ad D cA (va_A (rW cA ad es) sz)) (jX Q es.length ad D cA (va_A (rW cA ad es) sz)) R.cells R.slots (va_A (rW cA ad es) sz)
/-- the locals at a method's start -/
def iL : List Value → List (Option Value)
  | [] => []
  | v :: vs => if v.category = 2 then some v :: none :: iL vs else some v :: iL vs
theorem iL_len (ad : Nat → Nat) (vs : List Value) : (lg_sl (vs.map (rv ad))).length = (iL vs).length := by
  induction vs with
  | nil => rfl
  | cons v vs ih =>
    show (((rv ad v) :: vs.map (rv ad)).flatMap _).length = _
    rw [List.flatMap_cons, List.length_append]
    have ih' : ((vs.map (rv ad)).flatMap fun v => if v.category = 2 then [Slot.val v, Slot.second] else [Slot.val v]).length = (iL vs).length := ih
    rw [ih', rv_cat, show iL (v :: vs) = if v.category = 2 then some v :: none :: iL vs else some v :: iL vs from rfl]
    by_cases h : v.category = 2
    · rw [if_pos h, if_pos h, List.length_cons, List.length_cons, List.length_cons, List.length_cons, List.length_nil]; omega
    · rw [if_neg h, if_neg h, List.length_cons, List.length_cons, List.length_nil]; omega
theorem iL_args (ad : Nat → Nat) : ∀ (vs : List Value) (k i : Nat) (v : Value), (iL vs)[i]? = some (some v) → (k + i, rv ad v) ∈ lv_args k (vs.map (rv ad))
  | [], k, i, v, h => by cases h
  | w :: vs, k, i, v, h => by
    unfold iL at h
    show (k + i, rv ad v) ∈ (k, rv ad w) :: lv_args (if (rv ad w).category = 2 then k + 2 else k + 1) (vs.map (rv ad))
    rw [rv_cat]
    by_cases hc : w.category = 2
    · rw [if_pos hc] at h ⊢
      match i, h with
      | 0, h => cases h; exact List.mem_cons_self
      | 1, h => cases h
      | i + 2, h =>
        have := iL_args ad vs (k + 2) i v h
        rw [show k + 2 + i = k + (i + 2) by omega] at this
        exact List.mem_cons_of_mem _ this
    · rw [if_neg hc] at h ⊢
      match i, h with
      | 0, h => cases h; exact List.mem_cons_self
      | i + 1, h =>
        have := iL_args ad vs (k + 1) i v h
        rw [show k + 1 + i = k + (i + 1) by omega] at this
        exact List.mem_cons_of_mem _ this
theorem iL_ok {n : Nat} : ∀ (vs : List Value), (∀ v ∈ vs, okV n v) → ∀ (i : Nat) (v : Value), (iL vs)[i]? = some (some v) → okV n v
  | [], _, i, v, h => by cases h
  | w :: vs, hv, i, v, h => by
    unfold iL at h
    by_cases hc : w.category = 2
    · rw [if_pos hc] at h
      match i, h with
      | 0, h => cases h; exact hv _ List.mem_cons_self
      | 1, h => cases h
      | i + 2, h => exact iL_ok vs (fun v h => hv v (List.mem_cons_of_mem _ h)) i v h
    · rw [if_neg hc] at h
      match i, h with
      | 0, h => cases h; exact hv _ List.mem_cons_self
      | i + 1, h => exact iL_ok vs (fun v h => hv v (List.mem_cons_of_mem _ h)) i v h
theorem iL_pad {vs : List Value} {n i : Nat} {v : Value} (h : (iL vs ++ List.replicate n (none : Option Value))[i]? = some (some v)) : (iL vs)[i]? = some (some v) := by
  by_cases hl : i < (iL vs).length
  · rwa [List.getElem?_append_left hl] at h
  · rw [List.getElem?_append_right (by omega)] at h
    have := List.eq_of_mem_replicate (List.mem_of_getElem? h)
    cases this
theorem Ct.of {M : MI} {R : Room} {args : List Value} {es : List ME} {Q : Res → List ME → Prop} (hy : plainName M.1.cls = true) (hn : (iL args).length ≤ M.2.2.1)
    (h : J M R Q es.length 0 (iL args ++ List.replicate (M.2.2.1 - (iL args).length) none) [] es 0 0) : Ct M R args es Q := by
  intro ha he hc l hl ad D cA B0 sz
  refine vx_ofW (cc := M.2.1) (maxL := M.2.2.1) (ret := M.2.2.2) hy rfl ?_
  intro p e s m args' below meth c s₁ B hml hex hv
  obtain ⟨rfl, hsz, hB0, hP, hK, hD0, hKC⟩ := hv
  subst hsz
  have hts := atoms_spec (ws := wsA M) B.pre
  have hE := lv_entry (args.map (rv ad)) (n := M.2.2.1) (by rw [iL_len]; exact hn)
  rw [lg_entry_eq]
  refine h p l e s m _ below meth c D cA ad (va_A (rW cA ad es) s.heap.size) B0 s.heap [] _ ad ⟨⟨B.exec, B.bytes, hml, B.returns, findClass_of_methodNamed B.named, fun w hw => hts w (List.mem_cons_of_mem _ hw)⟩, ⟨B.notSynchronized, (name_of_methodNamed B.named B.method).1, hex⟩, ⟨fun q hq => Or.inr hq, ?_, hB0⟩, hK, hKC, hl⟩
    ⟨⟨fun k _ => rfl, Nat.le_refl _, hc, he, hP, hD0.self⟩, va_S.rf, ⟨hE.1, hE.2.1, ?_⟩, fun v hv => (by cases hv), ?_⟩
  · rintro q (⟨k, e, hk⟩ | hq)
    · exact hD0.2 k _ hk
    · exact Nat.le_trans hB0 hq
  · intro i v hi
    have := hE.2.2 _ (iL_args ad args 0 i v (iL_pad hi))
    rwa [Nat.zero_add] at this
  · intro i v hi
    exact iL_ok args ha i v (iL_pad hi)
theorem J.widen {M : MI} {R : Room} {Q : Res → List ME → Prop} {n0 pc : Nat} {L : List (Option Value)} {st : List Value} {es : List ME} {k ks : Nat} (k' ks' : Nat) (h1 : k ≤ k') (h2 : ks ≤ ks') (h : J M R Q n0 pc L st es k' ks') : J M R Q n0 pc L st es k ks :=
  fun p l e s m args below meth c D cA ad0 A B0 H locs ls ad hC hR => W.widen h1 h2 (h p l e s m args below meth c D cA ad0 A B0 H locs ls ad hC hR)
/-- a step that moves the stack alone -/
theorem J.stk {M : MI} {R : Room} {Q : Res → List ME → Prop} {n0 pc nx : Nat} {L : List (Option Value)} {st st' : List Value} {es : List ME} {k ks : Nat}
    (h : ∀ {p : Program} {l : Launch} {e : Env} {s : State} {m : MethodId} {args : Array Value} {below : List Frame} {meth : Method} {c : Code} {H : Heap} {locs : List Loc} {ls : Array Slot} {Qf : State → Prop} (ad : Nat → Nat), p.tables.exec = Jvm.exec → c.code = M.2.1 → s.vm.findClass M.1.cls = some m.cls → (∀ w ∈ TT, w.before args s = true) → W p l e R s m args below meth c H locs k ks Qf (F0 m nx ls (st'.map (rv ad))) → W p l e R s m args below meth c H locs k ks Qf (F0 m pc ls (st.map (rv ad))))
    (hw : ∀ n, (∀ v ∈ st, okV n v) → ∀ v ∈ st', okV n v) (hk : J M R Q n0 nx L st' es k ks) : J M R Q n0 pc L st es k ks :=
  fun p l e s m args below meth c D cA ad0 A B0 H locs ls ad hC hR => h ad hC.1.1 hC.1.2.1 hC.1.2.2.2.2.1 hC.1.2.2.2.2.2 (hk p l e s m args below meth c D cA ad0 A B0 H locs ls ad hC ⟨hR.1, hR.2.1, hR.2.2.1, hw _ hR.2.2.2.1, hR.2.2.2.2⟩)
/-- a branch -/
theorem J.br {M : MI} {R : Room} {Q : Res → List ME → Prop} {n0 pc nx tgt : Nat} {L : List (Option Value)} {st st' : List Value} {es : List ME} {k ks : Nat} (C : Prop)
    (h : ∀ {p : Program} {l : Launch} {e : Env} {s : State} {m : MethodId} {args : Array Value} {below : List Frame} {meth : Method} {c : Code} {H : Heap} {locs : List Loc} {ls : Array Slot} {Qf : State → Prop} (ad : Nat → Nat), p.tables.exec = Jvm.exec → c.code = M.2.1 → (C → W p l e R s m args below meth c H locs k ks Qf (F0 m tgt ls (st'.map (rv ad)))) → (¬ C → W p l e R s m args below meth c H locs k ks Qf (F0 m nx ls (st'.map (rv ad)))) → W p l e R s m args below meth c H locs k ks Qf (F0 m pc ls (st.map (rv ad))))
    (hw : ∀ n, (∀ v ∈ st, okV n v) → ∀ v ∈ st', okV n v) (ht : C → J M R Q n0 tgt L st' es k ks) (hf : ¬ C → J M R Q n0 nx L st' es k ks) : J M R Q n0 pc L st es k ks :=
  fun p l e s m args below meth c D cA ad0 A B0 H locs ls ad hC hR => h ad hC.1.1 hC.1.2.1 (fun z => ht z p l e s m args below meth c D cA ad0 A B0 H locs ls ad hC ⟨hR.1, hR.2.1, hR.2.2.1, hw _ hR.2.2.2.1, hR.2.2.2.2⟩) (fun z => hf z p l e s m args below meth c D cA ad0 A B0 H locs ls ad hC ⟨hR.1, hR.2.1, hR.2.2.1, hw _ hR.2.2.2.1, hR.2.2.2.2⟩)
theorem ws_tl {n : Nat} {a : Value} {st : List Value} (h : ∀ v ∈ a :: st, okV n v) : ∀ v ∈ st, okV n v := fun v hv => h v (List.mem_cons_of_mem _ hv)
theorem ws_cons {n : Nat} {a : Value} {st : List Value} (h1 : okV n a) (h : ∀ v ∈ st, okV n v) : ∀ v ∈ a :: st, okV n v := fun v hv => (List.mem_cons.mp hv).elim (fun e => by rw [e]; exact h1) (h v)
