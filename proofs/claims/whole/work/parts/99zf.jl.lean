/-! the law's own judgement: the script stands beside the world, at place CST + 200 -/
def jCl (Ls : Nat) (xs : Nat → Int32) (M : MI) (p : Program) (l : Launch) (s : State) (m : MethodId) (args : Array Value) (meth : Method) (c : Code) (D : va_G) (cA : Nat → ClassId) (ad0 : Nat → Nat) (A : Nat → Prop) (B0 : Nat) : Prop :=
  (p.tables.exec = Jvm.exec ∧ c.code = M.2.1 ∧ c.maxLocals = M.2.2.1 ∧ meth.sig.returnType = M.2.2.2 ∧ s.vm.findClass M.1.cls = some m.cls ∧ (∀ w ∈ TT, w.before args s = true)) ∧
  (meth.locks = false ∧ meth.name = M.1.name ∧ ∀ x ∈ c.exceptionTable.toList, False) ∧
  ((∀ q, s.heap.size ≤ q → A q) ∧ (∀ q, A q → B0 ≤ q) ∧ B0 ≤ s.heap.size) ∧ va_K D vwCl (tysA cA) s ∧ KC B0 ad0 s s.heap ∧ l.stackTraces = false ∧
  va_X (ad0 (CST + 200)) Ls xs s s.heap ∧ ad0 (CST + 200) < s.heap.size ∧ ¬ A (ad0 (CST + 200))
def Jl (Ls : Nat) (xs : Nat → Int32) (M : MI) (R : Room) (Q : Res → List ME → Prop) (n0 pc : Nat) (L : List (Option Value)) (st : List Value) (es : List ME) (k ks : Nat) : Prop :=
  ∀ (p : Program) (l : Launch) (e : Env) (s : State) (m : MethodId) (args : Array Value) (below : List Frame) (meth : Method) (c : Code) (D : va_G) (cA : Nat → ClassId) (ad0 : Nat → Nat) (A : Nat → Prop) (B0 : Nat) (H : Heap) (locs : List Loc) (ls : Array Slot) (ad : Nat → Nat),
    jCl Ls xs M p l s m args meth c D cA ad0 A B0 → jR M n0 ad0 D cA A s H locs ls ad L st es →
    W p l e R s m args below meth c H locs k ks (vx_MQ below (jQ Q n0 ad0 D cA A) (jX Q n0 ad0 D cA A) args s R.cells R.slots A) (F0 m pc ls (st.map (rv ad)))
theorem Jl.widen {Ls : Nat} {xs : Nat → Int32} {M : MI} {R : Room} {Q : Res → List ME → Prop} {n0 pc : Nat} {L : List (Option Value)} {st : List Value} {es : List ME} {k ks : Nat} (k' ks' : Nat) (h1 : k ≤ k') (h2 : ks ≤ ks') (h : Jl Ls xs M R Q n0 pc L st es k' ks') : Jl Ls xs M R Q n0 pc L st es k ks :=
  fun p l e s m args below meth c D cA ad0 A B0 H locs ls ad hC hR => W.widen h1 h2 (h p l e s m args below meth c D cA ad0 A B0 H locs ls ad hC hR)
theorem Jl.stk {Ls : Nat} {xs : Nat → Int32} {M : MI} {R : Room} {Q : Res → List ME → Prop} {n0 pc nx : Nat} {L : List (Option Value)} {st st' : List Value} {es : List ME} {k ks : Nat}
    (h : ∀ {p : Program} {l : Launch} {e : Env} {s : State} {m : MethodId} {args : Array Value} {below : List Frame} {meth : Method} {c : Code} {H : Heap} {locs : List Loc} {ls : Array Slot} {Qf : State → Prop} (ad : Nat → Nat), p.tables.exec = Jvm.exec → c.code = M.2.1 → s.vm.findClass M.1.cls = some m.cls → (∀ w ∈ TT, w.before args s = true) → W p l e R s m args below meth c H locs k ks Qf (F0 m nx ls (st'.map (rv ad))) → W p l e R s m args below meth c H locs k ks Qf (F0 m pc ls (st.map (rv ad))))
    (hw : ∀ n, (∀ v ∈ st, okV n v) → ∀ v ∈ st', okV n v) (hk : Jl Ls xs M R Q n0 nx L st' es k ks) : Jl Ls xs M R Q n0 pc L st es k ks :=
  fun p l e s m args below meth c D cA ad0 A B0 H locs ls ad hC hR => h ad hC.1.1 hC.1.2.1 hC.1.2.2.2.2.1 hC.1.2.2.2.2.2 (hk p l e s m args below meth c D cA ad0 A B0 H locs ls ad hC ⟨hR.1, hR.2.1, hR.2.2.1, hw _ hR.2.2.2.1, hR.2.2.2.2⟩)
theorem Jl.br {Ls : Nat} {xs : Nat → Int32} {M : MI} {R : Room} {Q : Res → List ME → Prop} {n0 pc nx tgt : Nat} {L : List (Option Value)} {st st' : List Value} {es : List ME} {k ks : Nat} (C : Prop)
    (h : ∀ {p : Program} {l : Launch} {e : Env} {s : State} {m : MethodId} {args : Array Value} {below : List Frame} {meth : Method} {c : Code} {H : Heap} {locs : List Loc} {ls : Array Slot} {Qf : State → Prop} (ad : Nat → Nat), p.tables.exec = Jvm.exec → c.code = M.2.1 → (C → W p l e R s m args below meth c H locs k ks Qf (F0 m tgt ls (st'.map (rv ad)))) → (¬ C → W p l e R s m args below meth c H locs k ks Qf (F0 m nx ls (st'.map (rv ad)))) → W p l e R s m args below meth c H locs k ks Qf (F0 m pc ls (st.map (rv ad))))
    (hw : ∀ n, (∀ v ∈ st, okV n v) → ∀ v ∈ st', okV n v) (ht : C → Jl Ls xs M R Q n0 tgt L st' es k ks) (hf : ¬ C → Jl Ls xs M R Q n0 nx L st' es k ks) : Jl Ls xs M R Q n0 pc L st es k ks :=
  fun p l e s m args below meth c D cA ad0 A B0 H locs ls ad hC hR => h ad hC.1.1 hC.1.2.1 (fun z => ht z p l e s m args below meth c D cA ad0 A B0 H locs ls ad hC ⟨hR.1, hR.2.1, hR.2.2.1, hw _ hR.2.2.2.1, hR.2.2.2.2⟩) (fun z => hf z p l e s m args below meth c D cA ad0 A B0 H locs ls ad hC ⟨hR.1, hR.2.1, hR.2.2.1, hw _ hR.2.2.2.1, hR.2.2.2.2⟩)
theorem Jl_iadd {Ls : Nat} {xs : Nat → Int32} {M : MI} {R : Room} {Q : Res → List ME → Prop} {n0 pc nx : Nat} {L : List (Option Value)} {rest : List Value} {es : List ME} {k ks : Nat} {x y : Int32} (d : decode M.2.1 pc = .ok (.iadd, 1)) (hn : pc + 1 = nx) (h : Jl Ls xs M R Q n0 nx L (.int (x + y) :: rest) es k ks) : Jl Ls xs M R Q n0 pc L (.int y :: .int x :: rest) es k ks := by
  subst hn
  exact Jl.stk (st' := .int (x + y) :: rest) (fun ad hx hb ho ht hw => lv_iadd hx hb d hw) (fun n h => ws_cons (okV_int _ _) (ws_tl (ws_tl h))) h
theorem Jl_isub {Ls : Nat} {xs : Nat → Int32} {M : MI} {R : Room} {Q : Res → List ME → Prop} {n0 pc nx : Nat} {L : List (Option Value)} {rest : List Value} {es : List ME} {k ks : Nat} {x y : Int32} (d : decode M.2.1 pc = .ok (.isub, 1)) (hn : pc + 1 = nx) (h : Jl Ls xs M R Q n0 nx L (.int (x - y) :: rest) es k ks) : Jl Ls xs M R Q n0 pc L (.int y :: .int x :: rest) es k ks := by
  subst hn
  exact Jl.stk (st' := .int (x - y) :: rest) (fun ad hx hb ho ht hw => lv_isub hx hb d hw) (fun n h => ws_cons (okV_int _ _) (ws_tl (ws_tl h))) h
theorem Jl_imul {Ls : Nat} {xs : Nat → Int32} {M : MI} {R : Room} {Q : Res → List ME → Prop} {n0 pc nx : Nat} {L : List (Option Value)} {rest : List Value} {es : List ME} {k ks : Nat} {x y : Int32} (d : decode M.2.1 pc = .ok (.imul, 1)) (hn : pc + 1 = nx) (h : Jl Ls xs M R Q n0 nx L (.int (x * y) :: rest) es k ks) : Jl Ls xs M R Q n0 pc L (.int y :: .int x :: rest) es k ks := by
  subst hn
  exact Jl.stk (st' := .int (x * y) :: rest) (fun ad hx hb ho ht hw => lv_imul hx hb d hw) (fun n h => ws_cons (okV_int _ _) (ws_tl (ws_tl h))) h
theorem Jl_iand {Ls : Nat} {xs : Nat → Int32} {M : MI} {R : Room} {Q : Res → List ME → Prop} {n0 pc nx : Nat} {L : List (Option Value)} {rest : List Value} {es : List ME} {k ks : Nat} {x y : Int32} (d : decode M.2.1 pc = .ok (.iand, 1)) (hn : pc + 1 = nx) (h : Jl Ls xs M R Q n0 nx L (.int (x &&& y) :: rest) es k ks) : Jl Ls xs M R Q n0 pc L (.int y :: .int x :: rest) es k ks := by
  subst hn
  exact Jl.stk (st' := .int (x &&& y) :: rest) (fun ad hx hb ho ht hw => lv_iand hx hb d hw) (fun n h => ws_cons (okV_int _ _) (ws_tl (ws_tl h))) h
theorem Jl_ior {Ls : Nat} {xs : Nat → Int32} {M : MI} {R : Room} {Q : Res → List ME → Prop} {n0 pc nx : Nat} {L : List (Option Value)} {rest : List Value} {es : List ME} {k ks : Nat} {x y : Int32} (d : decode M.2.1 pc = .ok (.ior, 1)) (hn : pc + 1 = nx) (h : Jl Ls xs M R Q n0 nx L (.int (x ||| y) :: rest) es k ks) : Jl Ls xs M R Q n0 pc L (.int y :: .int x :: rest) es k ks := by
  subst hn
  exact Jl.stk (st' := .int (x ||| y) :: rest) (fun ad hx hb ho ht hw => lv_ior hx hb d hw) (fun n h => ws_cons (okV_int _ _) (ws_tl (ws_tl h))) h
theorem Jl_ixor {Ls : Nat} {xs : Nat → Int32} {M : MI} {R : Room} {Q : Res → List ME → Prop} {n0 pc nx : Nat} {L : List (Option Value)} {rest : List Value} {es : List ME} {k ks : Nat} {x y : Int32} (d : decode M.2.1 pc = .ok (.ixor, 1)) (hn : pc + 1 = nx) (h : Jl Ls xs M R Q n0 nx L (.int (x ^^^ y) :: rest) es k ks) : Jl Ls xs M R Q n0 pc L (.int y :: .int x :: rest) es k ks := by
  subst hn
  exact Jl.stk (st' := .int (x ^^^ y) :: rest) (fun ad hx hb ho ht hw => lv_ixor hx hb d hw) (fun n h => ws_cons (okV_int _ _) (ws_tl (ws_tl h))) h
theorem Jl_ishl {Ls : Nat} {xs : Nat → Int32} {M : MI} {R : Room} {Q : Res → List ME → Prop} {n0 pc nx : Nat} {L : List (Option Value)} {rest : List Value} {es : List ME} {k ks : Nat} {x y : Int32} (d : decode M.2.1 pc = .ok (.ishl, 1)) (hn : pc + 1 = nx) (h : Jl Ls xs M R Q n0 nx L (.int (x <<< (y &&& 31)) :: rest) es k ks) : Jl Ls xs M R Q n0 pc L (.int y :: .int x :: rest) es k ks := by
  subst hn
  exact Jl.stk (st' := .int (x <<< (y &&& 31)) :: rest) (fun ad hx hb ho ht hw => lv_ishl hx hb d hw) (fun n h => ws_cons (okV_int _ _) (ws_tl (ws_tl h))) h
theorem Jl_ishr {Ls : Nat} {xs : Nat → Int32} {M : MI} {R : Room} {Q : Res → List ME → Prop} {n0 pc nx : Nat} {L : List (Option Value)} {rest : List Value} {es : List ME} {k ks : Nat} {x y : Int32} (d : decode M.2.1 pc = .ok (.ishr, 1)) (hn : pc + 1 = nx) (h : Jl Ls xs M R Q n0 nx L (.int (x >>> (y &&& 31)) :: rest) es k ks) : Jl Ls xs M R Q n0 pc L (.int y :: .int x :: rest) es k ks := by
  subst hn
  exact Jl.stk (st' := .int (x >>> (y &&& 31)) :: rest) (fun ad hx hb ho ht hw => lv_ishr hx hb d hw) (fun n h => ws_cons (okV_int _ _) (ws_tl (ws_tl h))) h
theorem Jl_iushr {Ls : Nat} {xs : Nat → Int32} {M : MI} {R : Room} {Q : Res → List ME → Prop} {n0 pc nx : Nat} {L : List (Option Value)} {rest : List Value} {es : List ME} {k ks : Nat} {x y : Int32} (d : decode M.2.1 pc = .ok (.iushr, 1)) (hn : pc + 1 = nx) (h : Jl Ls xs M R Q n0 nx L (.int ((x.toUInt32 >>> (y.toUInt32 &&& Int32.toUInt32 31)).toInt32) :: rest) es k ks) : Jl Ls xs M R Q n0 pc L (.int y :: .int x :: rest) es k ks := by
  subst hn
  exact Jl.stk (st' := .int ((x.toUInt32 >>> (y.toUInt32 &&& Int32.toUInt32 31)).toInt32) :: rest) (fun ad hx hb ho ht hw => lv_iushr hx hb d rfl hw) (fun n h => ws_cons (okV_int _ _) (ws_tl (ws_tl h))) h
theorem Jl_ineg {Ls : Nat} {xs : Nat → Int32} {M : MI} {R : Room} {Q : Res → List ME → Prop} {n0 pc nx : Nat} {L : List (Option Value)} {rest : List Value} {es : List ME} {k ks : Nat} {x : Int32} (d : decode M.2.1 pc = .ok (.ineg, 1)) (hn : pc + 1 = nx) (h : Jl Ls xs M R Q n0 nx L (.int (-x) :: rest) es k ks) : Jl Ls xs M R Q n0 pc L (.int x :: rest) es k ks := by
  subst hn
  exact Jl.stk (st' := .int (-x) :: rest) (fun ad hx hb ho ht hw => lv_ineg hx hb d hw) (fun n h => ws_cons (okV_int _ _) (ws_tl h)) h
theorem Jl_idiv {Ls : Nat} {xs : Nat → Int32} {M : MI} {R : Room} {Q : Res → List ME → Prop} {n0 pc nx : Nat} {L : List (Option Value)} {rest : List Value} {es : List ME} {k ks : Nat} {x y : Int32} (hne : ¬ y = 0) (d : decode M.2.1 pc = .ok (.idiv, 1)) (hn : pc + 1 = nx) (h : Jl Ls xs M R Q n0 nx L (.int (x / y) :: rest) es k ks) : Jl Ls xs M R Q n0 pc L (.int y :: .int x :: rest) es k ks := by
  subst hn
  exact Jl.stk (st' := .int (x / y) :: rest) (fun ad hx hb ho ht hw => lv_idiv hx hb d hne hw) (fun n h => ws_cons (okV_int _ _) (ws_tl (ws_tl h))) h
theorem Jl_irem {Ls : Nat} {xs : Nat → Int32} {M : MI} {R : Room} {Q : Res → List ME → Prop} {n0 pc nx : Nat} {L : List (Option Value)} {rest : List Value} {es : List ME} {k ks : Nat} {x y : Int32} (hne : ¬ y = 0) (d : decode M.2.1 pc = .ok (.irem, 1)) (hn : pc + 1 = nx) (h : Jl Ls xs M R Q n0 nx L (.int (x - x / y * y) :: rest) es k ks) : Jl Ls xs M R Q n0 pc L (.int y :: .int x :: rest) es k ks := by
  subst hn
  exact Jl.stk (st' := .int (x - x / y * y) :: rest) (fun ad hx hb ho ht hw => lv_irem hx hb d hne hw) (fun n h => ws_cons (okV_int _ _) (ws_tl (ws_tl h))) h
theorem Jl_ladd {Ls : Nat} {xs : Nat → Int32} {M : MI} {R : Room} {Q : Res → List ME → Prop} {n0 pc nx : Nat} {L : List (Option Value)} {rest : List Value} {es : List ME} {k ks : Nat} {x y : Int64} (d : decode M.2.1 pc = .ok (.ladd, 1)) (hn : pc + 1 = nx) (h : Jl Ls xs M R Q n0 nx L (.long (x + y) :: rest) es k ks) : Jl Ls xs M R Q n0 pc L (.long y :: .long x :: rest) es k ks := by
  subst hn
  exact Jl.stk (st' := .long (x + y) :: rest) (fun ad hx hb ho ht hw => lv_ladd hx hb d hw) (fun n h => ws_cons (okV_long _ _) (ws_tl (ws_tl h))) h
theorem Jl_lsub {Ls : Nat} {xs : Nat → Int32} {M : MI} {R : Room} {Q : Res → List ME → Prop} {n0 pc nx : Nat} {L : List (Option Value)} {rest : List Value} {es : List ME} {k ks : Nat} {x y : Int64} (d : decode M.2.1 pc = .ok (.lsub, 1)) (hn : pc + 1 = nx) (h : Jl Ls xs M R Q n0 nx L (.long (x - y) :: rest) es k ks) : Jl Ls xs M R Q n0 pc L (.long y :: .long x :: rest) es k ks := by
  subst hn
  exact Jl.stk (st' := .long (x - y) :: rest) (fun ad hx hb ho ht hw => lv_lsub hx hb d hw) (fun n h => ws_cons (okV_long _ _) (ws_tl (ws_tl h))) h
theorem Jl_lmul {Ls : Nat} {xs : Nat → Int32} {M : MI} {R : Room} {Q : Res → List ME → Prop} {n0 pc nx : Nat} {L : List (Option Value)} {rest : List Value} {es : List ME} {k ks : Nat} {x y : Int64} (d : decode M.2.1 pc = .ok (.lmul, 1)) (hn : pc + 1 = nx) (h : Jl Ls xs M R Q n0 nx L (.long (x * y) :: rest) es k ks) : Jl Ls xs M R Q n0 pc L (.long y :: .long x :: rest) es k ks := by
  subst hn
  exact Jl.stk (st' := .long (x * y) :: rest) (fun ad hx hb ho ht hw => lv_lmul hx hb d hw) (fun n h => ws_cons (okV_long _ _) (ws_tl (ws_tl h))) h
theorem Jl_lxor {Ls : Nat} {xs : Nat → Int32} {M : MI} {R : Room} {Q : Res → List ME → Prop} {n0 pc nx : Nat} {L : List (Option Value)} {rest : List Value} {es : List ME} {k ks : Nat} {x y : Int64} (d : decode M.2.1 pc = .ok (.lxor, 1)) (hn : pc + 1 = nx) (h : Jl Ls xs M R Q n0 nx L (.long (x ^^^ y) :: rest) es k ks) : Jl Ls xs M R Q n0 pc L (.long y :: .long x :: rest) es k ks := by
  subst hn
  exact Jl.stk (st' := .long (x ^^^ y) :: rest) (fun ad hx hb ho ht hw => lv_lxor hx hb d hw) (fun n h => ws_cons (okV_long _ _) (ws_tl (ws_tl h))) h
theorem Jl_ldiv {Ls : Nat} {xs : Nat → Int32} {M : MI} {R : Room} {Q : Res → List ME → Prop} {n0 pc nx : Nat} {L : List (Option Value)} {rest : List Value} {es : List ME} {k ks : Nat} {x y : Int64} (hne : ¬ y = 0) (d : decode M.2.1 pc = .ok (.ldiv, 1)) (hn : pc + 1 = nx) (h : Jl Ls xs M R Q n0 nx L (.long (x / y) :: rest) es k ks) : Jl Ls xs M R Q n0 pc L (.long y :: .long x :: rest) es k ks := by
  subst hn
  exact Jl.stk (st' := .long (x / y) :: rest) (fun ad hx hb ho ht hw => lv_ldiv hx hb d hne hw) (fun n h => ws_cons (okV_long _ _) (ws_tl (ws_tl h))) h
theorem Jl_lneg {Ls : Nat} {xs : Nat → Int32} {M : MI} {R : Room} {Q : Res → List ME → Prop} {n0 pc nx : Nat} {L : List (Option Value)} {rest : List Value} {es : List ME} {k ks : Nat} {x : Int64} (d : decode M.2.1 pc = .ok (.lneg, 1)) (hn : pc + 1 = nx) (h : Jl Ls xs M R Q n0 nx L (.long (-x) :: rest) es k ks) : Jl Ls xs M R Q n0 pc L (.long x :: rest) es k ks := by
  subst hn
  exact Jl.stk (st' := .long (-x) :: rest) (fun ad hx hb ho ht hw => lv_lneg hx hb d hw) (fun n h => ws_cons (okV_long _ _) (ws_tl h)) h
theorem Jl_lcmp {Ls : Nat} {xs : Nat → Int32} {M : MI} {R : Room} {Q : Res → List ME → Prop} {n0 pc nx : Nat} {L : List (Option Value)} {rest : List Value} {es : List ME} {k ks : Nat} {x y : Int64} (d : decode M.2.1 pc = .ok (.lcmp, 1)) (hn : pc + 1 = nx) (h : Jl Ls xs M R Q n0 nx L (.int (lg_cmp x y) :: rest) es k ks) : Jl Ls xs M R Q n0 pc L (.long y :: .long x :: rest) es k ks := by
  subst hn
  exact Jl.stk (st' := .int (lg_cmp x y) :: rest) (fun ad hx hb ho ht hw => W.lcmp hx hb d hw) (fun n h => ws_cons (okV_int _ _) (ws_tl (ws_tl h))) h
theorem Jl_i2l {Ls : Nat} {xs : Nat → Int32} {M : MI} {R : Room} {Q : Res → List ME → Prop} {n0 pc nx : Nat} {L : List (Option Value)} {rest : List Value} {es : List ME} {k ks : Nat} {x : Int32} (d : decode M.2.1 pc = .ok (.i2l, 1)) (hn : pc + 1 = nx) (h : Jl Ls xs M R Q n0 nx L (.long x.toInt64 :: rest) es k ks) : Jl Ls xs M R Q n0 pc L (.int x :: rest) es k ks := by
  subst hn
  exact Jl.stk (st' := .long x.toInt64 :: rest) (fun ad hx hb ho ht hw => lv_i2l hx hb d rfl hw) (fun n h => ws_cons (okV_long _ _) (ws_tl h)) h
theorem Jl_l2i {Ls : Nat} {xs : Nat → Int32} {M : MI} {R : Room} {Q : Res → List ME → Prop} {n0 pc nx : Nat} {L : List (Option Value)} {rest : List Value} {es : List ME} {k ks : Nat} {x : Int64} (d : decode M.2.1 pc = .ok (.l2i, 1)) (hn : pc + 1 = nx) (h : Jl Ls xs M R Q n0 nx L (.int x.toInt32 :: rest) es k ks) : Jl Ls xs M R Q n0 pc L (.long x :: rest) es k ks := by
  subst hn
  exact Jl.stk (st' := .int x.toInt32 :: rest) (fun ad hx hb ho ht hw => lv_l2i hx hb d rfl hw) (fun n h => ws_cons (okV_int _ _) (ws_tl h)) h
theorem Jl_i2b {Ls : Nat} {xs : Nat → Int32} {M : MI} {R : Room} {Q : Res → List ME → Prop} {n0 pc nx : Nat} {L : List (Option Value)} {rest : List Value} {es : List ME} {k ks : Nat} {x : Int32} (d : decode M.2.1 pc = .ok (.i2b, 1)) (hn : pc + 1 = nx) (h : Jl Ls xs M R Q n0 nx L (.int x.toInt8.toInt32 :: rest) es k ks) : Jl Ls xs M R Q n0 pc L (.int x :: rest) es k ks := by
  subst hn
  exact Jl.stk (st' := .int x.toInt8.toInt32 :: rest) (fun ad hx hb ho ht hw => lv_i2b hx hb d rfl hw) (fun n h => ws_cons (okV_int _ _) (ws_tl h)) h
theorem Jl_iconst {Ls : Nat} {xs : Nat → Int32} {M : MI} {R : Room} {Q : Res → List ME → Prop} {n0 pc nx : Nat} {L : List (Option Value)} {rest : List Value} {es : List ME} {k ks : Nat} {i : Int} {v : Int32} (hv : Int32.ofInt i = v) (d : decode M.2.1 pc = .ok (.iconst i, 1)) (hn : pc + 1 = nx) (h : Jl Ls xs M R Q n0 nx L (.int v :: rest) es k ks) : Jl Ls xs M R Q n0 pc L (rest) es k ks := by
  subst hn
  exact Jl.stk (st' := .int v :: rest) (fun ad hx hb ho ht hw => lv_iconst hx hb d hv hw) (fun n h => ws_cons (okV_int _ _) h) h
theorem Jl_bipush {Ls : Nat} {xs : Nat → Int32} {M : MI} {R : Room} {Q : Res → List ME → Prop} {n0 pc nx : Nat} {L : List (Option Value)} {rest : List Value} {es : List ME} {k ks : Nat} {i : Int} {v : Int32} (hv : (Int8.ofInt i).toInt32 = v) (d : decode M.2.1 pc = .ok (.bipush i, 2)) (hn : pc + 2 = nx) (h : Jl Ls xs M R Q n0 nx L (.int v :: rest) es k ks) : Jl Ls xs M R Q n0 pc L (rest) es k ks := by
  subst hn
  exact Jl.stk (st' := .int v :: rest) (fun ad hx hb ho ht hw => lv_bipush hx hb d hv hw) (fun n h => ws_cons (okV_int _ _) h) h
theorem Jl_sipush {Ls : Nat} {xs : Nat → Int32} {M : MI} {R : Room} {Q : Res → List ME → Prop} {n0 pc nx : Nat} {L : List (Option Value)} {rest : List Value} {es : List ME} {k ks : Nat} {i : Int} {v : Int32} (hv : (Int16.ofInt i).toInt32 = v) (d : decode M.2.1 pc = .ok (.sipush i, 3)) (hn : pc + 3 = nx) (h : Jl Ls xs M R Q n0 nx L (.int v :: rest) es k ks) : Jl Ls xs M R Q n0 pc L (rest) es k ks := by
  subst hn
  exact Jl.stk (st' := .int v :: rest) (fun ad hx hb ho ht hw => lv_sipush hx hb d hv hw) (fun n h => ws_cons (okV_int _ _) h) h
theorem Jl_lconst {Ls : Nat} {xs : Nat → Int32} {M : MI} {R : Room} {Q : Res → List ME → Prop} {n0 pc nx : Nat} {L : List (Option Value)} {rest : List Value} {es : List ME} {k ks : Nat} {i : Fin 2} {v : Int64} (hv : Int64.ofNat (i : Nat) = v) (d : decode M.2.1 pc = .ok (.lconst i, 1)) (hn : pc + 1 = nx) (h : Jl Ls xs M R Q n0 nx L (.long v :: rest) es k ks) : Jl Ls xs M R Q n0 pc L (rest) es k ks := by
  subst hn
  exact Jl.stk (st' := .long v :: rest) (fun ad hx hb ho ht hw => lv_lconst hx hb d hv hw) (fun n h => ws_cons (okV_long _ _) h) h
theorem Jl_ldc {Ls : Nat} {xs : Nat → Int32} {M : MI} {R : Room} {Q : Res → List ME → Prop} {n0 pc nx : Nat} {L : List (Option Value)} {rest : List Value} {es : List ME} {k ks : Nat} {i : Nat} {v : Int32} (lk : Cond.constant M.1.cls i v ∈ TT) (d : decode M.2.1 pc = .ok (.ldc i, 2)) (hn : pc + 2 = nx) (h : Jl Ls xs M R Q n0 nx L (.int v :: rest) es k ks) : Jl Ls xs M R Q n0 pc L (rest) es k ks := by
  subst hn
  exact Jl.stk (st' := .int v :: rest) (fun ad hx hb ho ht hw => lv_ldc hx hb ho (ht _ lk) d hw) (fun n h => ws_cons (okV_int _ _) h) h
theorem Jl_ldcw {Ls : Nat} {xs : Nat → Int32} {M : MI} {R : Room} {Q : Res → List ME → Prop} {n0 pc nx : Nat} {L : List (Option Value)} {rest : List Value} {es : List ME} {k ks : Nat} {i : Nat} {v : Int32} (lk : Cond.constant M.1.cls i v ∈ TT) (d : decode M.2.1 pc = .ok (.ldc_w i, 3)) (hn : pc + 3 = nx) (h : Jl Ls xs M R Q n0 nx L (.int v :: rest) es k ks) : Jl Ls xs M R Q n0 pc L (rest) es k ks := by
  subst hn
  exact Jl.stk (st' := .int v :: rest) (fun ad hx hb ho ht hw => lv_ldcw hx hb ho (ht _ lk) d hw) (fun n h => ws_cons (okV_int _ _) h) h
theorem Jl_ldc2 {Ls : Nat} {xs : Nat → Int32} {M : MI} {R : Room} {Q : Res → List ME → Prop} {n0 pc nx : Nat} {L : List (Option Value)} {rest : List Value} {es : List ME} {k ks : Nat} {i : Nat} {v : Int64} (lk : Cond.constantLong M.1.cls i v ∈ TT) (d : decode M.2.1 pc = .ok (.ldc2_w i, 3)) (hn : pc + 3 = nx) (h : Jl Ls xs M R Q n0 nx L (.long v :: rest) es k ks) : Jl Ls xs M R Q n0 pc L (rest) es k ks := by
  subst hn
  exact Jl.stk (st' := .long v :: rest) (fun ad hx hb ho ht hw => lv_ldc2 hx hb ho (ht _ lk) d hw) (fun n h => ws_cons (okV_long _ _) h) h
theorem Jl_null {Ls : Nat} {xs : Nat → Int32} {M : MI} {R : Room} {Q : Res → List ME → Prop} {n0 pc nx : Nat} {L : List (Option Value)} {rest : List Value} {es : List ME} {k ks : Nat}  (d : decode M.2.1 pc = .ok (.aconst_null, 1)) (hn : pc + 1 = nx) (h : Jl Ls xs M R Q n0 nx L (.null :: rest) es k ks) : Jl Ls xs M R Q n0 pc L (rest) es k ks := by
  subst hn
  exact Jl.stk (st' := .null :: rest) (fun ad hx hb ho ht hw => lv_null hx hb d hw) (fun n h => ws_cons (okV_null _) h) h
theorem Jl_dup {Ls : Nat} {xs : Nat → Int32} {M : MI} {R : Room} {Q : Res → List ME → Prop} {n0 pc nx : Nat} {L : List (Option Value)} {rest : List Value} {es : List ME} {k ks : Nat} {v : Value} (hv : v.category = 1) (d : decode M.2.1 pc = .ok (.dup, 1)) (hn : pc + 1 = nx) (h : Jl Ls xs M R Q n0 nx L (v :: v :: rest) es k ks) : Jl Ls xs M R Q n0 pc L (v :: rest) es k ks := by
  subst hn
  exact Jl.stk (st' := v :: v :: rest) (fun ad hx hb ho ht hw => lv_dup hx hb d ((rv_cat ad v).trans hv) hw) (fun n h => ws_cons (h _ List.mem_cons_self) h) h
theorem Jl_dup2 {Ls : Nat} {xs : Nat → Int32} {M : MI} {R : Room} {Q : Res → List ME → Prop} {n0 pc nx : Nat} {L : List (Option Value)} {rest : List Value} {es : List ME} {k ks : Nat} {v w : Value} (hv : v.category = 1) (hw2 : w.category = 1) (d : decode M.2.1 pc = .ok (.dup2, 1)) (hn : pc + 1 = nx) (h : Jl Ls xs M R Q n0 nx L (v :: w :: v :: w :: rest) es k ks) : Jl Ls xs M R Q n0 pc L (v :: w :: rest) es k ks := by
  subst hn
  exact Jl.stk (st' := v :: w :: v :: w :: rest) (fun ad hx hb ho ht hw => lv_dup2_11 hx hb d ((rv_cat ad v).trans hv) ((rv_cat ad w).trans hw2) hw) (fun n h => ws_cons (h _ List.mem_cons_self) (ws_cons (h _ (List.mem_cons_of_mem _ List.mem_cons_self)) h)) h
theorem Jl_pop {Ls : Nat} {xs : Nat → Int32} {M : MI} {R : Room} {Q : Res → List ME → Prop} {n0 pc nx : Nat} {L : List (Option Value)} {rest : List Value} {es : List ME} {k ks : Nat} {v : Value} (hv : v.category = 1) (d : decode M.2.1 pc = .ok (.pop, 1)) (hn : pc + 1 = nx) (h : Jl Ls xs M R Q n0 nx L (rest) es k ks) : Jl Ls xs M R Q n0 pc L (v :: rest) es k ks := by
  subst hn
  exact Jl.stk (st' := rest) (fun ad hx hb ho ht hw => lv_pop hx hb d ((rv_cat ad v).trans hv) hw) (fun n h => (ws_tl h)) h
theorem Jl_pop2 {Ls : Nat} {xs : Nat → Int32} {M : MI} {R : Room} {Q : Res → List ME → Prop} {n0 pc nx : Nat} {L : List (Option Value)} {rest : List Value} {es : List ME} {k ks : Nat} {v : Value} (hv : v.category = 2) (d : decode M.2.1 pc = .ok (.pop2, 1)) (hn : pc + 1 = nx) (h : Jl Ls xs M R Q n0 nx L (rest) es k ks) : Jl Ls xs M R Q n0 pc L (v :: rest) es k ks := by
  subst hn
  exact Jl.stk (st' := rest) (fun ad hx hb ho ht hw => lv_pop2_2 hx hb d ((rv_cat ad v).trans hv) hw) (fun n h => (ws_tl h)) h
theorem Jl_goto {Ls : Nat} {xs : Nat → Int32} {M : MI} {R : Room} {Q : Res → List ME → Prop} {n0 pc nx : Nat} {L : List (Option Value)} {rest : List Value} {es : List ME} {k ks : Nat} {off : Int} (d : decode M.2.1 pc = .ok (.goto off, 3)) (hn : (pc : Int) + off = (nx : Int)) (h : Jl Ls xs M R Q n0 nx L (rest) es k ks) : Jl Ls xs M R Q n0 pc L (rest) es k ks :=
  Jl.stk (fun ad hx hb ho ht hw => lv_goto hx hb d hn hw) (fun n h => h) h
theorem Jl_icmp_eq {Ls : Nat} {xs : Nat → Int32} {M : MI} {R : Room} {Q : Res → List ME → Prop} {n0 pc nx : Nat} {L : List (Option Value)} {rest : List Value} {es : List ME} {k ks : Nat} {tgt : Nat} {x y : Int32} {off : Int} (d : decode M.2.1 pc = .ok (.if_icmp .eq off, 3)) (hn : pc + 3 = nx) (hj : (pc : Int) + off = (tgt : Int)) (ht : (x = y) → Jl Ls xs M R Q n0 tgt L (rest) es k ks) (hf : ¬ (x = y) → Jl Ls xs M R Q n0 nx L (rest) es k ks) : Jl Ls xs M R Q n0 pc L (.int y :: .int x :: rest) es k ks := by
  subst hn
  exact Jl.br (st' := rest) ((x = y)) (fun ad hx hb kt kf => lv_icmp_eq hx hb d hj kt kf) (fun n h => (ws_tl (ws_tl h))) ht hf
theorem Jl_if_eq {Ls : Nat} {xs : Nat → Int32} {M : MI} {R : Room} {Q : Res → List ME → Prop} {n0 pc nx : Nat} {L : List (Option Value)} {rest : List Value} {es : List ME} {k ks : Nat} {tgt : Nat} {x : Int32} {off : Int} (d : decode M.2.1 pc = .ok (.ifCond .eq off, 3)) (hn : pc + 3 = nx) (hj : (pc : Int) + off = (tgt : Int)) (ht : (x = 0) → Jl Ls xs M R Q n0 tgt L (rest) es k ks) (hf : ¬ (x = 0) → Jl Ls xs M R Q n0 nx L (rest) es k ks) : Jl Ls xs M R Q n0 pc L (.int x :: rest) es k ks := by
  subst hn
  exact Jl.br (st' := rest) ((x = 0)) (fun ad hx hb kt kf => lv_if_eq hx hb d hj kt kf) (fun n h => (ws_tl h)) ht hf
theorem Jl_icmp_ne {Ls : Nat} {xs : Nat → Int32} {M : MI} {R : Room} {Q : Res → List ME → Prop} {n0 pc nx : Nat} {L : List (Option Value)} {rest : List Value} {es : List ME} {k ks : Nat} {tgt : Nat} {x y : Int32} {off : Int} (d : decode M.2.1 pc = .ok (.if_icmp .ne off, 3)) (hn : pc + 3 = nx) (hj : (pc : Int) + off = (tgt : Int)) (ht : (¬ x = y) → Jl Ls xs M R Q n0 tgt L (rest) es k ks) (hf : (x = y) → Jl Ls xs M R Q n0 nx L (rest) es k ks) : Jl Ls xs M R Q n0 pc L (.int y :: .int x :: rest) es k ks := by
  subst hn
  exact Jl.br (st' := rest) ((¬ x = y)) (fun ad hx hb kt kf => lv_icmp_ne hx hb d hj kt (fun z => kf (fun w => w z))) (fun n h => (ws_tl (ws_tl h))) ht (fun z => hf (Decidable.not_not.mp z))
theorem Jl_if_ne {Ls : Nat} {xs : Nat → Int32} {M : MI} {R : Room} {Q : Res → List ME → Prop} {n0 pc nx : Nat} {L : List (Option Value)} {rest : List Value} {es : List ME} {k ks : Nat} {tgt : Nat} {x : Int32} {off : Int} (d : decode M.2.1 pc = .ok (.ifCond .ne off, 3)) (hn : pc + 3 = nx) (hj : (pc : Int) + off = (tgt : Int)) (ht : (¬ x = 0) → Jl Ls xs M R Q n0 tgt L (rest) es k ks) (hf : (x = 0) → Jl Ls xs M R Q n0 nx L (rest) es k ks) : Jl Ls xs M R Q n0 pc L (.int x :: rest) es k ks := by
  subst hn
  exact Jl.br (st' := rest) ((¬ x = 0)) (fun ad hx hb kt kf => lv_if_ne hx hb d hj kt (fun z => kf (fun w => w z))) (fun n h => (ws_tl h)) ht (fun z => hf (Decidable.not_not.mp z))
theorem Jl_icmp_lt {Ls : Nat} {xs : Nat → Int32} {M : MI} {R : Room} {Q : Res → List ME → Prop} {n0 pc nx : Nat} {L : List (Option Value)} {rest : List Value} {es : List ME} {k ks : Nat} {tgt : Nat} {x y : Int32} {off : Int} (d : decode M.2.1 pc = .ok (.if_icmp .lt off, 3)) (hn : pc + 3 = nx) (hj : (pc : Int) + off = (tgt : Int)) (ht : (x < y) → Jl Ls xs M R Q n0 tgt L (rest) es k ks) (hf : ¬ (x < y) → Jl Ls xs M R Q n0 nx L (rest) es k ks) : Jl Ls xs M R Q n0 pc L (.int y :: .int x :: rest) es k ks := by
  subst hn
  exact Jl.br (st' := rest) ((x < y)) (fun ad hx hb kt kf => lv_icmp_lt hx hb d hj kt kf) (fun n h => (ws_tl (ws_tl h))) ht hf
theorem Jl_if_lt {Ls : Nat} {xs : Nat → Int32} {M : MI} {R : Room} {Q : Res → List ME → Prop} {n0 pc nx : Nat} {L : List (Option Value)} {rest : List Value} {es : List ME} {k ks : Nat} {tgt : Nat} {x : Int32} {off : Int} (d : decode M.2.1 pc = .ok (.ifCond .lt off, 3)) (hn : pc + 3 = nx) (hj : (pc : Int) + off = (tgt : Int)) (ht : (x < 0) → Jl Ls xs M R Q n0 tgt L (rest) es k ks) (hf : ¬ (x < 0) → Jl Ls xs M R Q n0 nx L (rest) es k ks) : Jl Ls xs M R Q n0 pc L (.int x :: rest) es k ks := by
  subst hn
  exact Jl.br (st' := rest) ((x < 0)) (fun ad hx hb kt kf => lv_if_lt hx hb d hj kt kf) (fun n h => (ws_tl h)) ht hf
theorem Jl_icmp_ge {Ls : Nat} {xs : Nat → Int32} {M : MI} {R : Room} {Q : Res → List ME → Prop} {n0 pc nx : Nat} {L : List (Option Value)} {rest : List Value} {es : List ME} {k ks : Nat} {tgt : Nat} {x y : Int32} {off : Int} (d : decode M.2.1 pc = .ok (.if_icmp .ge off, 3)) (hn : pc + 3 = nx) (hj : (pc : Int) + off = (tgt : Int)) (ht : (y ≤ x) → Jl Ls xs M R Q n0 tgt L (rest) es k ks) (hf : ¬ (y ≤ x) → Jl Ls xs M R Q n0 nx L (rest) es k ks) : Jl Ls xs M R Q n0 pc L (.int y :: .int x :: rest) es k ks := by
  subst hn
  exact Jl.br (st' := rest) ((y ≤ x)) (fun ad hx hb kt kf => lv_icmp_ge hx hb d hj kt kf) (fun n h => (ws_tl (ws_tl h))) ht hf
theorem Jl_if_ge {Ls : Nat} {xs : Nat → Int32} {M : MI} {R : Room} {Q : Res → List ME → Prop} {n0 pc nx : Nat} {L : List (Option Value)} {rest : List Value} {es : List ME} {k ks : Nat} {tgt : Nat} {x : Int32} {off : Int} (d : decode M.2.1 pc = .ok (.ifCond .ge off, 3)) (hn : pc + 3 = nx) (hj : (pc : Int) + off = (tgt : Int)) (ht : (0 ≤ x) → Jl Ls xs M R Q n0 tgt L (rest) es k ks) (hf : ¬ (0 ≤ x) → Jl Ls xs M R Q n0 nx L (rest) es k ks) : Jl Ls xs M R Q n0 pc L (.int x :: rest) es k ks := by
  subst hn
  exact Jl.br (st' := rest) ((0 ≤ x)) (fun ad hx hb kt kf => lv_if_ge hx hb d hj kt kf) (fun n h => (ws_tl h)) ht hf
theorem Jl_icmp_gt {Ls : Nat} {xs : Nat → Int32} {M : MI} {R : Room} {Q : Res → List ME → Prop} {n0 pc nx : Nat} {L : List (Option Value)} {rest : List Value} {es : List ME} {k ks : Nat} {tgt : Nat} {x y : Int32} {off : Int} (d : decode M.2.1 pc = .ok (.if_icmp .gt off, 3)) (hn : pc + 3 = nx) (hj : (pc : Int) + off = (tgt : Int)) (ht : (y < x) → Jl Ls xs M R Q n0 tgt L (rest) es k ks) (hf : ¬ (y < x) → Jl Ls xs M R Q n0 nx L (rest) es k ks) : Jl Ls xs M R Q n0 pc L (.int y :: .int x :: rest) es k ks := by
  subst hn
  exact Jl.br (st' := rest) ((y < x)) (fun ad hx hb kt kf => lv_icmp_gt hx hb d hj kt kf) (fun n h => (ws_tl (ws_tl h))) ht hf
theorem Jl_if_gt {Ls : Nat} {xs : Nat → Int32} {M : MI} {R : Room} {Q : Res → List ME → Prop} {n0 pc nx : Nat} {L : List (Option Value)} {rest : List Value} {es : List ME} {k ks : Nat} {tgt : Nat} {x : Int32} {off : Int} (d : decode M.2.1 pc = .ok (.ifCond .gt off, 3)) (hn : pc + 3 = nx) (hj : (pc : Int) + off = (tgt : Int)) (ht : (0 < x) → Jl Ls xs M R Q n0 tgt L (rest) es k ks) (hf : ¬ (0 < x) → Jl Ls xs M R Q n0 nx L (rest) es k ks) : Jl Ls xs M R Q n0 pc L (.int x :: rest) es k ks := by
  subst hn
  exact Jl.br (st' := rest) ((0 < x)) (fun ad hx hb kt kf => lv_if_gt hx hb d hj kt kf) (fun n h => (ws_tl h)) ht hf
theorem Jl_icmp_le {Ls : Nat} {xs : Nat → Int32} {M : MI} {R : Room} {Q : Res → List ME → Prop} {n0 pc nx : Nat} {L : List (Option Value)} {rest : List Value} {es : List ME} {k ks : Nat} {tgt : Nat} {x y : Int32} {off : Int} (d : decode M.2.1 pc = .ok (.if_icmp .le off, 3)) (hn : pc + 3 = nx) (hj : (pc : Int) + off = (tgt : Int)) (ht : (x ≤ y) → Jl Ls xs M R Q n0 tgt L (rest) es k ks) (hf : ¬ (x ≤ y) → Jl Ls xs M R Q n0 nx L (rest) es k ks) : Jl Ls xs M R Q n0 pc L (.int y :: .int x :: rest) es k ks := by
  subst hn
  exact Jl.br (st' := rest) ((x ≤ y)) (fun ad hx hb kt kf => lv_icmp_le hx hb d hj kt kf) (fun n h => (ws_tl (ws_tl h))) ht hf
theorem Jl_if_le {Ls : Nat} {xs : Nat → Int32} {M : MI} {R : Room} {Q : Res → List ME → Prop} {n0 pc nx : Nat} {L : List (Option Value)} {rest : List Value} {es : List ME} {k ks : Nat} {tgt : Nat} {x : Int32} {off : Int} (d : decode M.2.1 pc = .ok (.ifCond .le off, 3)) (hn : pc + 3 = nx) (hj : (pc : Int) + off = (tgt : Int)) (ht : (x ≤ 0) → Jl Ls xs M R Q n0 tgt L (rest) es k ks) (hf : ¬ (x ≤ 0) → Jl Ls xs M R Q n0 nx L (rest) es k ks) : Jl Ls xs M R Q n0 pc L (.int x :: rest) es k ks := by
  subst hn
  exact Jl.br (st' := rest) ((x ≤ 0)) (fun ad hx hb kt kf => lv_if_le hx hb d hj kt kf) (fun n h => (ws_tl h)) ht hf
theorem Jl.ld {Ls : Nat} {xs : Nat → Int32} {M : MI} {R : Room} {Q : Res → List ME → Prop} {n0 pc nx : Nat} {L : List (Option Value)} {rest : List Value} {es : List ME} {k ks : Nat} {i : Nat} {v : Value} (hv : L[i]? = some (some v))
    (h : ∀ {p : Program} {l : Launch} {e : Env} {s : State} {m : MethodId} {args : Array Value} {below : List Frame} {meth : Method} {c : Code} {H : Heap} {locs : List Loc} {ls : Array Slot} {Qf : State → Prop} (ad : Nat → Nat), p.tables.exec = Jvm.exec → c.code = M.2.1 → ls[i]? = some (.val (rv ad v)) → W p l e R s m args below meth c H locs k ks Qf (F0 m nx ls (rv ad v :: rest.map (rv ad))) → W p l e R s m args below meth c H locs k ks Qf (F0 m pc ls (rest.map (rv ad))))
    (hk : Jl Ls xs M R Q n0 nx L (v :: rest) es k ks) : Jl Ls xs M R Q n0 pc L (rest) es k ks :=
  fun p l e s m args below meth c D cA ad0 A B0 H locs ls ad hC hR => h ad hC.1.1 hC.1.2.1 (hR.2.2.1.2.2 i v hv) (hk p l e s m args below meth c D cA ad0 A B0 H locs ls ad hC ⟨hR.1, hR.2.1, hR.2.2.1, ws_cons (hR.2.2.2.2 i v hv) hR.2.2.2.1, hR.2.2.2.2⟩)
theorem Jl_iload_n {Ls : Nat} {xs : Nat → Int32} {M : MI} {R : Room} {Q : Res → List ME → Prop} {n0 pc nx : Nat} {L : List (Option Value)} {rest : List Value} {es : List ME} {k ks : Nat} {q : Fin 4} {x : Int32} (d : decode M.2.1 pc = .ok (.iload_n q, 1)) (hn : pc + 1 = nx) (hv : L[(q : Nat)]? = some (some (.int x))) (h : Jl Ls xs M R Q n0 nx L (.int x :: rest) es k ks) : Jl Ls xs M R Q n0 pc L (rest) es k ks := by
  subst hn
  exact Jl.ld hv (fun ad hx hb hl hw => lv_iload_n hx hb d rfl hl hw) h
theorem Jl_iload {Ls : Nat} {xs : Nat → Int32} {M : MI} {R : Room} {Q : Res → List ME → Prop} {n0 pc nx : Nat} {L : List (Option Value)} {rest : List Value} {es : List ME} {k ks : Nat} {i : Nat} {x : Int32} (d : decode M.2.1 pc = .ok (.iload i, 2)) (hn : pc + 2 = nx) (hv : L[i]? = some (some (.int x))) (h : Jl Ls xs M R Q n0 nx L (.int x :: rest) es k ks) : Jl Ls xs M R Q n0 pc L (rest) es k ks := by
  subst hn
  exact Jl.ld hv (fun ad hx hb hl hw => lv_iload hx hb d hl hw) h
theorem Jl_lload_n {Ls : Nat} {xs : Nat → Int32} {M : MI} {R : Room} {Q : Res → List ME → Prop} {n0 pc nx : Nat} {L : List (Option Value)} {rest : List Value} {es : List ME} {k ks : Nat} {q : Fin 4} {x : Int64} (d : decode M.2.1 pc = .ok (.lload_n q, 1)) (hn : pc + 1 = nx) (hv : L[(q : Nat)]? = some (some (.long x))) (h : Jl Ls xs M R Q n0 nx L (.long x :: rest) es k ks) : Jl Ls xs M R Q n0 pc L (rest) es k ks := by
  subst hn
  exact Jl.ld hv (fun ad hx hb hl hw => lv_lload_n hx hb d rfl hl hw) h
theorem Jl_lload {Ls : Nat} {xs : Nat → Int32} {M : MI} {R : Room} {Q : Res → List ME → Prop} {n0 pc nx : Nat} {L : List (Option Value)} {rest : List Value} {es : List ME} {k ks : Nat} {i : Nat} {x : Int64} (d : decode M.2.1 pc = .ok (.lload i, 2)) (hn : pc + 2 = nx) (hv : L[i]? = some (some (.long x))) (h : Jl Ls xs M R Q n0 nx L (.long x :: rest) es k ks) : Jl Ls xs M R Q n0 pc L (rest) es k ks := by
  subst hn
  exact Jl.ld hv (fun ad hx hb hl hw => lv_lload hx hb d hl hw) h
theorem Jl_aload_n {Ls : Nat} {xs : Nat → Int32} {M : MI} {R : Room} {Q : Res → List ME → Prop} {n0 pc nx : Nat} {L : List (Option Value)} {rest : List Value} {es : List ME} {k ks : Nat} {q : Fin 4} {x : Nat} (d : decode M.2.1 pc = .ok (.aload_n q, 1)) (hn : pc + 1 = nx) (hv : L[(q : Nat)]? = some (some (.ref x))) (h : Jl Ls xs M R Q n0 nx L (.ref x :: rest) es k ks) : Jl Ls xs M R Q n0 pc L (rest) es k ks := by
  subst hn
  exact Jl.ld hv (fun ad hx hb hl hw => lv_aload_n hx hb d rfl hl hw) h
theorem Jl_aload {Ls : Nat} {xs : Nat → Int32} {M : MI} {R : Room} {Q : Res → List ME → Prop} {n0 pc nx : Nat} {L : List (Option Value)} {rest : List Value} {es : List ME} {k ks : Nat} {i : Nat} {x : Nat} (d : decode M.2.1 pc = .ok (.aload i, 2)) (hn : pc + 2 = nx) (hv : L[i]? = some (some (.ref x))) (h : Jl Ls xs M R Q n0 nx L (.ref x :: rest) es k ks) : Jl Ls xs M R Q n0 pc L (rest) es k ks := by
  subst hn
  exact Jl.ld hv (fun ad hx hb hl hw => lv_aload hx hb d hl hw) h
theorem Jl.st1 {Ls : Nat} {xs : Nat → Int32} {M : MI} {R : Room} {Q : Res → List ME → Prop} {n0 pc nx : Nat} {L : List (Option Value)} {rest : List Value} {es : List ME} {k ks : Nat} {i : Nat} {v : Value} (hc : c2 L i = true)
    (h : ∀ {p : Program} {l : Launch} {e : Env} {s : State} {m : MethodId} {args : Array Value} {below : List Frame} {meth : Method} {c : Code} {H : Heap} {locs : List Loc} {ls : Array Slot} {Qf : State → Prop} (ad : Nat → Nat), p.tables.exec = Jvm.exec → c.code = M.2.1 → lv_has ls M.2.2.1 (lvs ad L) → (∀ ls' : Array Slot, lv_has ls' M.2.2.1 ((i, rv ad v) :: (lvs ad L).filter (fun q => !(q.1 == i) && !(q.1 + 1 == i && q.2.category == 2))) → W p l e R s m args below meth c H locs k ks Qf (F0 m nx ls' (rest.map (rv ad)))) → W p l e R s m args below meth c H locs k ks Qf (F0 m pc ls (rv ad v :: rest.map (rv ad))))
    (hk : Jl Ls xs M R Q n0 nx (L.set i (some v)) (rest) es k ks) : Jl Ls xs M R Q n0 pc L (v :: rest) es k ks := by
  intro p l e s m args below meth c D cA ad0 A B0 H locs ls ad hC hR
  refine h ad hC.1.1 hC.1.2.1 hR.2.2.1.has (fun ls' hl' => hk p l e s m args below meth c D cA ad0 A B0 H locs ls' ad hC ⟨hR.1, hR.2.1, jL.set1 rfl hc hl', ws_tl hR.2.2.2.1, ?_⟩)
  exact fun j w hj => by
    by_cases hi : i = j
    · subst hi
      have hl : i < L.length := by
        have := (List.getElem?_eq_some_iff.mp hj).1
        rwa [List.length_set] at this
      rw [List.getElem?_set_self hl] at hj
      cases hj
      exact hR.2.2.2.1 _ List.mem_cons_self
    · rw [List.getElem?_set_ne hi] at hj
      exact hR.2.2.2.2 j w hj
theorem Jl.st2 {Ls : Nat} {xs : Nat → Int32} {M : MI} {R : Room} {Q : Res → List ME → Prop} {n0 pc nx : Nat} {L : List (Option Value)} {rest : List Value} {es : List ME} {k ks : Nat} {i : Nat} {v : Value} (hc : c2 L i = true)
    (h : ∀ {p : Program} {l : Launch} {e : Env} {s : State} {m : MethodId} {args : Array Value} {below : List Frame} {meth : Method} {c : Code} {H : Heap} {locs : List Loc} {ls : Array Slot} {Qf : State → Prop} (ad : Nat → Nat), p.tables.exec = Jvm.exec → c.code = M.2.1 → lv_has ls M.2.2.1 (lvs ad L) → (∀ ls' : Array Slot, lv_has ls' M.2.2.1 ((i, rv ad v) :: (lvs ad L).filter (fun q => !(q.1 == i) && (!(q.1 == i + 1) && !(q.1 + 1 == i && q.2.category == 2)))) → W p l e R s m args below meth c H locs k ks Qf (F0 m nx ls' (rest.map (rv ad)))) → W p l e R s m args below meth c H locs k ks Qf (F0 m pc ls (rv ad v :: rest.map (rv ad))))
    (hk : Jl Ls xs M R Q n0 nx ((L.set i (some v)).set (i + 1) none) (rest) es k ks) : Jl Ls xs M R Q n0 pc L (v :: rest) es k ks := by
  intro p l e s m args below meth c D cA ad0 A B0 H locs ls ad hC hR
  refine h ad hC.1.1 hC.1.2.1 hR.2.2.1.has (fun ls' hl' => hk p l e s m args below meth c D cA ad0 A B0 H locs ls' ad hC ⟨hR.1, hR.2.1, jL.set2 rfl hc hl', ws_tl hR.2.2.2.1, ?_⟩)
  exact fun j w hj => by
    by_cases hi1 : i + 1 = j
    · subst hi1
      have hl : i + 1 < ((L.set i (some v)).length) := by
        have := (List.getElem?_eq_some_iff.mp hj).1
        rwa [List.length_set] at this
      rw [List.getElem?_set_self hl] at hj
      cases hj
    · rw [List.getElem?_set_ne hi1] at hj
      by_cases hi : i = j
      · subst hi
        have hl : i < L.length := by
          have := (List.getElem?_eq_some_iff.mp hj).1
          rwa [List.length_set] at this
        rw [List.getElem?_set_self hl] at hj
        cases hj
        exact hR.2.2.2.1 _ List.mem_cons_self
      · rw [List.getElem?_set_ne hi] at hj
        exact hR.2.2.2.2 j w hj
theorem Jl_istore_n {Ls : Nat} {xs : Nat → Int32} {M : MI} {R : Room} {Q : Res → List ME → Prop} {n0 pc nx : Nat} {L : List (Option Value)} {rest : List Value} {es : List ME} {k ks : Nat} {q : Fin 4} {x : Int32} (d : decode M.2.1 pc = .ok (.istore_n q, 1)) (hn : pc + 1 = nx) (hc : c2 L (q : Nat) = true) (hi : (q : Nat) < M.2.2.1) (h : Jl Ls xs M R Q n0 nx (L.set (q : Nat) (some (.int x))) (rest) es k ks) : Jl Ls xs M R Q n0 pc L (.int x :: rest) es k ks := by
  subst hn
  exact Jl.st1 hc (fun ad hx hb hl hw => lv_istore_n hx hb d rfl hl hi rfl hw) h
theorem Jl_istore {Ls : Nat} {xs : Nat → Int32} {M : MI} {R : Room} {Q : Res → List ME → Prop} {n0 pc nx : Nat} {L : List (Option Value)} {rest : List Value} {es : List ME} {k ks : Nat} {i : Nat} {x : Int32} (d : decode M.2.1 pc = .ok (.istore i, 2)) (hn : pc + 2 = nx) (hc : c2 L i = true) (hi : i < M.2.2.1) (h : Jl Ls xs M R Q n0 nx (L.set i (some (.int x))) (rest) es k ks) : Jl Ls xs M R Q n0 pc L (.int x :: rest) es k ks := by
  subst hn
  exact Jl.st1 hc (fun ad hx hb hl hw => lv_istore hx hb d hl hi rfl hw) h
theorem Jl_lstore_n {Ls : Nat} {xs : Nat → Int32} {M : MI} {R : Room} {Q : Res → List ME → Prop} {n0 pc nx : Nat} {L : List (Option Value)} {rest : List Value} {es : List ME} {k ks : Nat} {q : Fin 4} {x : Int64} (d : decode M.2.1 pc = .ok (.lstore_n q, 1)) (hn : pc + 1 = nx) (hc : c2 L (q : Nat) = true) (hi : (q : Nat) + 1 < M.2.2.1) (h : Jl Ls xs M R Q n0 nx ((L.set (q : Nat) (some (.long x))).set ((q : Nat) + 1) none) (rest) es k ks) : Jl Ls xs M R Q n0 pc L (.long x :: rest) es k ks := by
  subst hn
  exact Jl.st2 hc (fun ad hx hb hl hw => lv_lstore_n hx hb d rfl hl hi rfl hw) h
theorem Jl_lstore {Ls : Nat} {xs : Nat → Int32} {M : MI} {R : Room} {Q : Res → List ME → Prop} {n0 pc nx : Nat} {L : List (Option Value)} {rest : List Value} {es : List ME} {k ks : Nat} {i : Nat} {x : Int64} (d : decode M.2.1 pc = .ok (.lstore i, 2)) (hn : pc + 2 = nx) (hc : c2 L i = true) (hi : i + 1 < M.2.2.1) (h : Jl Ls xs M R Q n0 nx ((L.set i (some (.long x))).set (i + 1) none) (rest) es k ks) : Jl Ls xs M R Q n0 pc L (.long x :: rest) es k ks := by
  subst hn
  exact Jl.st2 hc (fun ad hx hb hl hw => lv_lstore hx hb d hl hi rfl hw) h
theorem Jl_astore_n {Ls : Nat} {xs : Nat → Int32} {M : MI} {R : Room} {Q : Res → List ME → Prop} {n0 pc nx : Nat} {L : List (Option Value)} {rest : List Value} {es : List ME} {k ks : Nat} {q : Fin 4} {x : Nat} (d : decode M.2.1 pc = .ok (.astore_n q, 1)) (hn : pc + 1 = nx) (hc : c2 L (q : Nat) = true) (hi : (q : Nat) < M.2.2.1) (h : Jl Ls xs M R Q n0 nx (L.set (q : Nat) (some (.ref x))) (rest) es k ks) : Jl Ls xs M R Q n0 pc L (.ref x :: rest) es k ks := by
  subst hn
  exact Jl.st1 hc (fun ad hx hb hl hw => lv_astore_n hx hb d rfl hl hi rfl hw) h
theorem Jl_astore {Ls : Nat} {xs : Nat → Int32} {M : MI} {R : Room} {Q : Res → List ME → Prop} {n0 pc nx : Nat} {L : List (Option Value)} {rest : List Value} {es : List ME} {k ks : Nat} {i : Nat} {x : Nat} (d : decode M.2.1 pc = .ok (.astore i, 2)) (hn : pc + 2 = nx) (hc : c2 L i = true) (hi : i < M.2.2.1) (h : Jl Ls xs M R Q n0 nx (L.set i (some (.ref x))) (rest) es k ks) : Jl Ls xs M R Q n0 pc L (.ref x :: rest) es k ks := by
  subst hn
  exact Jl.st1 hc (fun ad hx hb hl hw => lv_astore hx hb d hl hi rfl hw) h
theorem Jl_iinc {Ls : Nat} {xs : Nat → Int32} {M : MI} {R : Room} {Q : Res → List ME → Prop} {n0 pc nx : Nat} {L : List (Option Value)} {rest : List Value} {es : List ME} {k ks : Nat} {i : Nat} {n : Int} {x : Int32} (d : decode M.2.1 pc = .ok (.iinc i n, 3)) (hn : pc + 3 = nx) (hv : L[i]? = some (some (.int x))) (hc : c2 L i = true) (hi : i < M.2.2.1) (h : Jl Ls xs M R Q n0 nx (L.set i (some (.int (x + Int32.ofInt n)))) (rest) es k ks) : Jl Ls xs M R Q n0 pc L (rest) es k ks := by
  subst hn
  intro p l e s m args below meth c D cA ad0 A B0 H locs ls ad hC hR
  have h0 : lv_has ls M.2.2.1 ((i, .int x) :: lvs ad L) := ⟨hR.2.2.1.1, hR.2.2.1.2.1, fun q hq => by
    rcases List.mem_cons.mp hq with rfl | hq
    · exact hR.2.2.1.2.2 i _ hv
    · exact hR.2.2.1.has.2.2 q hq⟩
  refine lv_iinc (v := x + Int32.ofInt n) hC.1.1 hC.1.2.1 d h0 (k := 0) rfl rfl hi rfl (fun ls' hl' => ?_)
  have hl2 : lv_has ls' M.2.2.1 ((i, .int (x + Int32.ofInt n)) :: (lvs ad L).filter (fun q => !(q.1 == i) && !(q.1 + 1 == i && q.2.category == 2))) := ⟨hl'.1, hl'.2.1, fun q hq => hl'.2.2 q (by
    rcases List.mem_cons.mp hq with rfl | hq
    · exact List.mem_cons_self
    · refine List.mem_cons_of_mem _ ?_
      obtain ⟨g1, g2⟩ := List.mem_filter.mp hq
      exact List.mem_filter.mpr ⟨List.mem_cons_of_mem _ g1, g2⟩)⟩
  refine h p l e s m args below meth c D cA ad0 A B0 H locs ls' ad hC ⟨hR.1, hR.2.1, jL.set1 (v := .int (x + Int32.ofInt n)) rfl hc hl2, hR.2.2.2.1, fun j w hj => ?_⟩
  by_cases hij : i = j
  · subst hij
    have hl : i < L.length := by
      have := (List.getElem?_eq_some_iff.mp hj).1
      rwa [List.length_set] at this
    rw [List.getElem?_set_self hl] at hj
    cases hj
    exact okV_int _ _
  · rw [List.getElem?_set_ne hij] at hj
    exact hR.2.2.2.2 j w hj
theorem Jl_kill {Ls : Nat} {xs : Nat → Int32} {M : MI} {R : Room} {Q : Res → List ME → Prop} {n0 pc nx : Nat} {L : List (Option Value)} {rest : List Value} {es : List ME} {k ks : Nat} (i : Nat) (h : Jl Ls xs M R Q n0 pc (L.set i none) (rest) es k ks) : Jl Ls xs M R Q n0 pc L (rest) es k ks := by
  intro p l e s m args below meth c D cA ad0 A B0 H locs ls ad hC hR
  refine h p l e s m args below meth c D cA ad0 A B0 H locs ls ad hC ⟨hR.1, hR.2.1, jL.kill hR.2.2.1, hR.2.2.2.1, fun j w hj => ?_⟩
  by_cases hij : i = j
  · subst hij
    have hl : i < L.length := by
      have := (List.getElem?_eq_some_iff.mp hj).1
      rwa [List.length_set] at this
    rw [List.getElem?_set_self hl] at hj
    cases hj
  · rw [List.getElem?_set_ne hij] at hj
    exact hR.2.2.2.2 j w hj
theorem Jl_iret {Ls : Nat} {xs : Nat → Int32} {M : MI} {R : Room} {Q : Res → List ME → Prop} {n0 pc nx : Nat} {L : List (Option Value)} {rest : List Value} {es : List ME} {k ks : Nat} {v : Int32} (d : decode M.2.1 pc = .ok (.ireturn, 1)) (hr : M.2.2.2 = some .int) (hk : k ≤ R.cells) (hks : ks ≤ R.slots) (hq : Q (.inl (some (.int v))) es) : Jl Ls xs M R Q n0 pc L ([.int v]) es k ks := by
  intro p l e s m args below meth c D cA ad0 A B0 H locs ls ad hC hR
  have hlocks := hC.2.1.1
  refine W.widen hk hks (vx_ret ?_)
  exact W.iret (v := v) hC.1.1 hC.1.2.1 (hC.1.2.2.2.1.trans hr) (fun t ht hW => ⟨⟨some (.int v), es, ad, rfl, hq, by rw [ht]; exact hR.1, va_K.moved hW.alike hC.2.2.2.1, fun w hw => by cases hw; exact okV_int _ _⟩, hR.2.1.F ht⟩) hR.2.1.2.2 d
theorem Jl_lret {Ls : Nat} {xs : Nat → Int32} {M : MI} {R : Room} {Q : Res → List ME → Prop} {n0 pc nx : Nat} {L : List (Option Value)} {rest : List Value} {es : List ME} {k ks : Nat} {v : Int64} (d : decode M.2.1 pc = .ok (.lreturn, 1)) (hr : M.2.2.2 = some .long) (hk : k ≤ R.cells) (hks : ks ≤ R.slots) (hq : Q (.inl (some (.long v))) es) : Jl Ls xs M R Q n0 pc L ([.long v]) es k ks := by
  intro p l e s m args below meth c D cA ad0 A B0 H locs ls ad hC hR
  have hlocks := hC.2.1.1
  refine W.widen hk hks (vx_ret ?_)
  exact W.lret (v := v) hC.1.1 hC.1.2.1 (hC.1.2.2.2.1.trans hr) (fun t ht hW => ⟨⟨some (.long v), es, ad, rfl, hq, by rw [ht]; exact hR.1, va_K.moved hW.alike hC.2.2.2.1, fun w hw => by cases hw; exact okV_long _ _⟩, hR.2.1.F ht⟩) hR.2.1.2.2 d
theorem Jl_zret {Ls : Nat} {xs : Nat → Int32} {M : MI} {R : Room} {Q : Res → List ME → Prop} {n0 pc nx : Nat} {L : List (Option Value)} {rest : List Value} {es : List ME} {k ks : Nat} {v : Int32} {ty : FieldType} (d : decode M.2.1 pc = .ok (.ireturn, 1)) (hr : M.2.2.2 = some ty) (hnr : narrow ty (.int v) = .int v) (hk : k ≤ R.cells) (hks : ks ≤ R.slots) (hq : Q (.inl (some (.int v))) es) : Jl Ls xs M R Q n0 pc L ([.int v]) es k ks := by
  intro p l e s m args below meth c D cA ad0 A B0 H locs ls ad hC hR
  have hlocks := hC.2.1.1
  refine W.widen hk hks (vx_ret ?_)
  exact W.zret (v := v) hC.1.1 hC.1.2.1 (hC.1.2.2.2.1.trans hr) hnr (fun t ht hW => ⟨⟨some (.int v), es, ad, rfl, hq, by rw [ht]; exact hR.1, va_K.moved hW.alike hC.2.2.2.1, fun w hw => by cases hw; exact okV_int _ _⟩, hR.2.1.F ht⟩) hR.2.1.2.2 d
theorem Jl_vret {Ls : Nat} {xs : Nat → Int32} {M : MI} {R : Room} {Q : Res → List ME → Prop} {n0 pc nx : Nat} {L : List (Option Value)} {rest : List Value} {es : List ME} {k ks : Nat} (d : decode M.2.1 pc = .ok (.return_, 1)) (hr : M.2.2.2 = none) (hk : k ≤ R.cells) (hks : ks ≤ R.slots) (hq : Q (.inl none) es) : Jl Ls xs M R Q n0 pc L ([]) es k ks := by
  intro p l e s m args below meth c D cA ad0 A B0 H locs ls ad hC hR
  have hlocks := hC.2.1.1
  refine W.widen hk hks (vx_ret ?_)
  exact W.vret hC.1.1 hC.1.2.1 (hC.1.2.2.2.1.trans hr) (fun t ht hW => ⟨⟨none, es, ad, rfl, hq, by rw [ht]; exact hR.1, va_K.moved hW.alike hC.2.2.2.1, fun w hw => by cases hw⟩, hR.2.1.F ht⟩) hR.2.1.2.2 d
theorem Jl_aret {Ls : Nat} {xs : Nat → Int32} {M : MI} {R : Room} {Q : Res → List ME → Prop} {n0 pc nx : Nat} {L : List (Option Value)} {rest : List Value} {es : List ME} {k ks : Nat} {v : Value} {rt : FieldType} (d : decode M.2.1 pc = .ok (.areturn, 1)) (hr : M.2.2.2 = some rt) (hrt : (∃ n, rt = .object n) ∨ ∃ t, rt = .array t) (hv : v = .null ∨ ∃ a, v = .ref a) (hk : k ≤ R.cells) (hks : ks ≤ R.slots) (hq : Q (.inl (some v)) es) : Jl Ls xs M R Q n0 pc L ([v]) es k ks := by
  intro p l e s m args below meth c D cA ad0 A B0 H locs ls ad hC hR
  have hlocks := hC.2.1.1
  refine W.widen hk hks (vx_ret ?_)
  exact W.aret (v := rv ad v) hC.1.1 hC.1.2.1 (hC.1.2.2.2.1.trans hr) hrt (by rcases hv with rfl | ⟨a, rfl⟩; exact Or.inl rfl; exact Or.inr ⟨_, rfl⟩) (fun t ht hW => ⟨⟨some v, es, ad, rfl, hq, by rw [ht]; exact hR.1, va_K.moved hW.alike hC.2.2.2.1, fun w hw => by cases hw; exact hR.2.2.2.1 _ List.mem_cons_self⟩, hR.2.1.F ht⟩) hR.2.1.2.2 d
section
variable {M : MI} {R : Room} {Q : Res → List ME → Prop} {n0 pc nx : Nat} {L : List (Option Value)} {rest : List Value} {es : List ME} {k ks : Nat}
theorem Jl_get {Ls : Nat} {xs : Nat → Int32} {a ci kf idx : Nat} {fty : FieldType} {fin : Bool} {fs : List Value} {v : Value} (d : decode M.2.1 pc = .ok (.getfield idx, 3)) (hn : pc + 3 = nx) (lk : FL M.1.cls idx ci kf fty fin) (he : es[a]? = some (.inr (ci, fs))) (hv : fs[kf]? = some v)
    (h : Jl Ls xs M R Q n0 nx L (v :: rest) es k ks) : Jl Ls xs M R Q n0 pc L (.ref a :: rest) es k ks := by
  subst hn
  intro p l e s m args below meth c D cA ad0 A B0 H locs ls ad hC hR
  obtain ⟨C, T, N, ty, ⟨hc, hin, hty, hnm⟩, hkf, -, -, hl⟩ := lk
  have hok : okV es.length v := hR.1.2.2.2.1 _ (List.mem_of_getElem? he) v (List.mem_of_getElem? hv)
  have hw := h p l e s m args below meth c D cA ad0 A B0 H locs ls ad hC ⟨hR.1, hR.2.1, hR.2.2.1, ws_cons hok (ws_tl hR.2.2.2.1), hR.2.2.2.2⟩
  have he' : (rW cA ad es)[a]? = some (ad a, .inr (ci, fs.map (rv ad))) := rW_get he
  have hv' : (fs.map (rv ad))[kf]? = some (rv ad v) := by rw [List.getElem?_map, hv]; rfl
  rcases hl with hl | ⟨host, hl⟩
  · exact va_get (D := D) (ci := ci) (v := rv ad v) hC.1.1 hC.1.2.1 hC.1.2.2.2.2.2 hin hC.1.2.2.2.2.1 hC.2.2.2.1 hR.1.2.2.2.2.1 a he' hc kf hkf (hC.1.2.2.2.2.2 _ hl) (fun _ h9 => h9) hv' d hw
  · exact va_getN (D := D) (ci := ci) (v := rv ad v) hC.1.1 hC.1.2.1 hC.1.2.2.2.2.2 hin hC.1.2.2.2.2.1 hC.2.2.2.1 hR.1.2.2.2.2.1 a he' hc kf hkf (va_Nw.use rfl (hC.2.2.2.2.1.2.2.1 _ _ _ _ _ _ hl)) (fun _ h9 => h9) hv' d hw
theorem Jl.hset {Ls : Nat} {xs : Nat → Int32} {A' : Prop} {a : Nat} {e : ME} {st : List Value} {p : Program} {l : Launch} {E : Env} {s : State} {m : MethodId} {args : Array Value} {below : List Frame} {meth : Method} {c : Code} {D : va_G} {cA : Nat → ClassId} {ad0 : Nat → Nat} {A : Nat → Prop} {B0 : Nat} {H : Heap} {locs : List Loc} {ls : Array Slot} {ad : Nat → Nat}
    (h : Jl Ls xs M R Q n0 nx L rest (es.set a e) k ks) (hC : jCl Ls xs M p l s m args meth c D cA ad0 A B0) (hR : jR M n0 ad0 D cA A s H locs ls ad L st es) (he : okE es.length e) (hst : ∀ v ∈ rest, okV es.length v) (H1 : Heap) (locs1 : List Loc)
    (hP : va_P D vwCl ((rW cA ad es).set a (ad a, rE cA ad e)) H1) (hD : va_D A ((rW cA ad es).set a (ad a, rE cA ad e))) (hS : va_S A s.heap H1 locs1) :
    W p l E R s m args below meth c H1 locs1 k ks (vx_MQ below (jQ Q n0 ad0 D cA A) (jX Q n0 ad0 D cA A) args s R.cells R.slots A) (F0 m nx ls (rest.map (rv ad))) :=
  h p l E s m args below meth c D cA ad0 A B0 H1 locs1 ls ad hC ⟨hR.1.upd he hP hD, hS, hR.2.2.1, by rw [List.length_set]; exact hst, by rw [List.length_set]; exact hR.2.2.2.2⟩
theorem Jl_put {Ls : Nat} {xs : Nat → Int32} {a ci kf idx : Nat} {fty : FieldType} {fs : List Value} {v : Value} (d : decode M.2.1 pc = .ok (.putfield idx, 3)) (hn : pc + 3 = nx) (lk : FL M.1.cls idx ci kf fty false) (he : es[a]? = some (.inr (ci, fs))) (hl0 : kf < fs.length) (hnv : ∀ ad, narrow fty (rv ad v) = rv ad v) (hfv : ∀ ad, fits fty (rv ad v) = true)
    (h : Jl Ls xs M R Q n0 nx L rest (es.set a (.inr (ci, fs.set kf v))) k ks) : Jl Ls xs M R Q n0 pc L (v :: .ref a :: rest) es k ks := by
  subst hn
  intro p l e s m args below meth c D cA ad0 A B0 H locs ls ad hC hR
  obtain ⟨C, T, N, ty, ⟨hc, hin, hty, hnm⟩, hkf, hft, hfin, hl⟩ := lk
  have hE : rE cA ad (.inr (ci, fs.set kf v)) = .inr (ci, (fs.map (rv ad)).set kf (rv ad v)) := by show (Sum.inr (ci, (fs.set kf v).map (rv ad)) : va_E) = _; rw [List.map_set]
  have hok : okE es.length (.inr (ci, fs.set kf v)) := okE_put (hR.1.2.2.2.1 _ (List.mem_of_getElem? he)) (hR.2.2.2.1 _ List.mem_cons_self)
  have hw := fun H1 locs1 hP hD hS => Jl.hset (A' := True) (E := e) (below := below) h hC hR hok (ws_tl (ws_tl hR.2.2.2.1)) H1 locs1 hP hD hS
  rw [hE] at hw
  have he' : (rW cA ad es)[a]? = some (ad a, .inr (ci, fs.map (rv ad))) := rW_get he
  have hd : parseFieldDescriptor (T kf).2.2.1 = some fty := by rw [← hft]; exact hty kf hkf
  rcases hl with hl | ⟨host, hl⟩
  · exact va_put (D := D) (ci := ci) (v := rv ad v) hC.1.1 hC.1.2.1 hC.1.2.2.2.2.2 hin ty hty hnm hC.1.2.2.2.2.1 hC.2.2.2.1 hR.1.2.2.2.2.1 hR.1.2.2.2.2.2 hR.2.1 a he' hc kf hkf (hC.1.2.2.2.2.2 _ hl) (fun _ h9 => h9) hfin hd (hnv ad) (hfv ad) (by rw [List.length_map]; exact hl0) d hw
  · exact va_putN (D := D) (ci := ci) (v := rv ad v) hC.1.1 hC.1.2.1 hC.1.2.2.2.2.2 hin ty hty hnm hC.1.2.2.2.2.1 hC.2.2.2.1 hR.1.2.2.2.2.1 hR.1.2.2.2.2.2 hR.2.1 a he' hc kf hkf (va_Nw.use rfl (hC.2.2.2.2.1.2.2.1 _ _ _ _ _ _ hl)) (fun _ h9 => h9) hfin hd (hnv ad) (hfv ad) (by rw [List.length_map]; exact hl0) d hw
theorem Jl_putF {Ls : Nat} {xs : Nat → Int32} {a ci kf idx : Nat} {fty : FieldType} {fs : List Value} {v : Value} (d : decode M.2.1 pc = .ok (.putfield idx, 3)) (hn : pc + 3 = nx) (lk : FLF M.1.cls idx ci kf fty) (hi : M.1.name = "<init>") (he : es[a]? = some (.inr (ci, fs))) (hl0 : kf < fs.length) (hnv : ∀ ad, narrow fty (rv ad v) = rv ad v) (hfv : ∀ ad, fits fty (rv ad v) = true)
    (h : Jl Ls xs M R Q n0 nx L rest (es.set a (.inr (ci, fs.set kf v))) k ks) : Jl Ls xs M R Q n0 pc L (v :: .ref a :: rest) es k ks := by
  subst hn
  intro p l e s m args below meth c D cA ad0 A B0 H locs ls ad hC hR
  obtain ⟨C, T, N, ty, ⟨hc, hin, hty, hnm⟩, hkf, hft, hfin, hl, hdecl⟩ := lk
  have hE : rE cA ad (.inr (ci, fs.set kf v)) = .inr (ci, (fs.map (rv ad)).set kf (rv ad v)) := by show (Sum.inr (ci, (fs.set kf v).map (rv ad)) : va_E) = _; rw [List.map_set]
  have hok : okE es.length (.inr (ci, fs.set kf v)) := okE_put (hR.1.2.2.2.1 _ (List.mem_of_getElem? he)) (hR.2.2.2.1 _ List.mem_cons_self)
  have hw := fun H1 locs1 hP hD hS => Jl.hset (A' := True) (E := e) (below := below) h hC hR hok (ws_tl (ws_tl hR.2.2.2.1)) H1 locs1 hP hD hS
  rw [hE] at hw
  have he' : (rW cA ad es)[a]? = some (ad a, .inr (ci, fs.map (rv ad))) := rW_get he
  have hd : parseFieldDescriptor (T kf).2.2.1 = some fty := by rw [← hft]; exact hty kf hkf
  exact va_putF (D := D) (ci := ci) (v := rv ad v) hC.1.1 hC.1.2.1 hC.1.2.2.2.2.2 hin ty hty hnm hC.1.2.2.2.2.1 hC.2.2.2.1 hR.1.2.2.2.2.1 hR.1.2.2.2.2.2 hR.2.1 a he' hc kf hkf (hC.1.2.2.2.2.2 _ hl) (fun _ h9 => h9) hfin (hC.2.1.2.1.trans hi) hdecl hd (hnv ad) (hfv ad) (by rw [List.length_map]; exact hl0) d hw
theorem Jl_iald {Ls : Nat} {xs : Nat → Int32} {a n : Nat} {f : Nat → Int32} {i : Int32} (d : decode M.2.1 pc = .ok (.iaload, 1)) (hn : pc + 1 = nx) (he : es[a]? = some (.inl (0, n, .inl f))) (hin : vp_in i n) (h : Jl Ls xs M R Q n0 nx L (.int (f i.toNatClampNeg) :: rest) es k ks) : Jl Ls xs M R Q n0 pc L (.int i :: .ref a :: rest) es k ks := by
  subst hn
  intro p l e s m args below meth c D cA ad0 A B0 H locs ls ad hC hR
  exact va_iald (D := D) hC.1.1 hC.1.2.1 hC.2.2.2.1 hR.1.2.2.2.2.1 a 0 (rW_get he) rfl hin d (h p l e s m args below meth c D cA ad0 A B0 H locs ls ad hC ⟨hR.1, hR.2.1, hR.2.2.1, ws_cons (okV_int _ _) (ws_tl (ws_tl hR.2.2.2.1)), hR.2.2.2.2⟩)
theorem Jl_lald {Ls : Nat} {xs : Nat → Int32} {a n : Nat} {f : Nat → Int64} {i : Int32} (d : decode M.2.1 pc = .ok (.laload, 1)) (hn : pc + 1 = nx) (he : es[a]? = some (.inl (1, n, .inr (.inl f)))) (hin : vp_in i n) (h : Jl Ls xs M R Q n0 nx L (.long (f i.toNatClampNeg) :: rest) es k ks) : Jl Ls xs M R Q n0 pc L (.int i :: .ref a :: rest) es k ks := by
  subst hn
  intro p l e s m args below meth c D cA ad0 A B0 H locs ls ad hC hR
  exact va_lald (D := D) hC.1.1 hC.1.2.1 hC.2.2.2.1 hR.1.2.2.2.2.1 a 1 (rW_get he) rfl hin d (h p l e s m args below meth c D cA ad0 A B0 H locs ls ad hC ⟨hR.1, hR.2.1, hR.2.2.1, ws_cons (okV_long _ _) (ws_tl (ws_tl hR.2.2.2.1)), hR.2.2.2.2⟩)
theorem Jl_bald {Ls : Nat} {xs : Nat → Int32} {a n : Nat} {f : Nat → Int32} {i : Int32} (d : decode M.2.1 pc = .ok (.baload, 1)) (hn : pc + 1 = nx) (he : es[a]? = some (.inl (2, n, .inl f))) (hin : vp_in i n) (h : Jl Ls xs M R Q n0 nx L (.int (f i.toNatClampNeg) :: rest) es k ks) : Jl Ls xs M R Q n0 pc L (.int i :: .ref a :: rest) es k ks := by
  subst hn
  intro p l e s m args below meth c D cA ad0 A B0 H locs ls ad hC hR
  exact va_bald (D := D) hC.1.1 hC.1.2.1 hC.2.2.2.1 hR.1.2.2.2.2.1 a 2 (rW_get he) rfl hin d (h p l e s m args below meth c D cA ad0 A B0 H locs ls ad hC ⟨hR.1, hR.2.1, hR.2.2.1, ws_cons (okV_int _ _) (ws_tl (ws_tl hR.2.2.2.1)), hR.2.2.2.2⟩)
theorem Jl_aald {Ls : Nat} {xs : Nat → Int32} {a n t : Nat} {f : Nat → Option Nat} {i : Int32} (d : decode M.2.1 pc = .ok (.aaload, 1)) (hn : pc + 1 = nx) (ht : t = 3 ∨ t = 4) (he : es[a]? = some (.inl (t, n, .inr (.inr (.inr (.inr f)))))) (hin : vp_in i n) (h : Jl Ls xs M R Q n0 nx L (va_rf (f i.toNatClampNeg) :: rest) es k ks) : Jl Ls xs M R Q n0 pc L (.int i :: .ref a :: rest) es k ks := by
  subst hn
  intro p l e s m args below meth c D cA ad0 A B0 H locs ls ad hC hR
  have hok : okV es.length (va_rf (f i.toNatClampNeg)) := by
    cases hf : f i.toNatClampNeg with
    | none => exact okV_null _
    | some r =>
      have h1 : okE es.length (.inl (t, n, .inr (.inr (.inr (.inr f))))) := hR.1.2.2.2.1 _ (List.mem_of_getElem? he)
      exact okV_ref (h1 _ _ hf)
  have hw := h p l e s m args below meth c D cA ad0 A B0 H locs ls ad hC ⟨hR.1, hR.2.1, hR.2.2.1, ws_cons hok (ws_tl (ws_tl hR.2.2.2.1)), hR.2.2.2.2⟩
  rw [List.map_cons, rv_rf] at hw
  rcases ht with rfl | rfl
  · exact va_aldq (D := D) (C := "WhistleBook$Code") hC.1.1 hC.1.2.1 hC.2.2.2.1 hR.1.2.2.2.2.1 a 3 (rW_get he) rfl hin d hw
  · exact va_aldq (D := D) (C := "WhistleBook$Word") hC.1.1 hC.1.2.1 hC.2.2.2.1 hR.1.2.2.2.2.1 a 4 (rW_get he) rfl hin d hw
theorem Jl_alen {Ls : Nat} {xs : Nat → Int32} {a t : Nat} {x : vp_A} (d : decode M.2.1 pc = .ok (.arraylength, 1)) (hn : pc + 1 = nx) (ht : t < 5) (he : es[a]? = some (.inl (t, x))) (h : Jl Ls xs M R Q n0 nx L (.int (Int32.ofNat x.1) :: rest) es k ks) : Jl Ls xs M R Q n0 pc L (.ref a :: rest) es k ks := by
  subst hn
  intro p l e s m args below meth c D cA ad0 A B0 H locs ls ad hC hR
  have hw := h p l e s m args below meth c D cA ad0 A B0 H locs ls ad hC ⟨hR.1, hR.2.1, hR.2.2.1, ws_cons (okV_int _ _) (ws_tl hR.2.2.2.1), hR.2.2.2.2⟩
  have hx : (rA ad x).1 = x.1 := by obtain ⟨n, f | f | f | f | f⟩ := x <;> rfl
  have hty : (tysA cA)[t]? = some (cA t, aty t) := by
    match t, ht with
    | 0, _ => rfl
    | 1, _ => rfl
    | 2, _ => rfl
    | 3, _ => rfl
    | 4, _ => rfl
  exact va_alen (D := D) hC.1.1 hC.1.2.1 hC.2.2.2.1 hR.1.2.2.2.2.1 a t (rW_get he) hty (by rw [hx]) d hw
theorem Jl_iast {Ls : Nat} {xs : Nat → Int32} {a n : Nat} {f : Nat → Int32} {i x : Int32} (d : decode M.2.1 pc = .ok (.iastore, 1)) (hn : pc + 1 = nx) (he : es[a]? = some (.inl (0, n, .inl f))) (hin : vp_in i n) (h : Jl Ls xs M R Q n0 nx L rest (es.set a (.inl (0, n, .inl (upd f i.toNatClampNeg x)))) k ks) : Jl Ls xs M R Q n0 pc L (.int x :: .int i :: .ref a :: rest) es k ks := by
  subst hn
  intro p l e s m args below meth c D cA ad0 A B0 H locs ls ad hC hR
  exact va_iast (D := D) hC.1.1 hC.1.2.1 hC.2.2.2.1 hR.1.2.2.2.2.1 hR.1.2.2.2.2.2 hR.2.1 a 0 (rW_get he) rfl hin d (fun H1 locs1 hP hD hS => Jl.hset (A' := True) h hC hR trivial (ws_tl (ws_tl (ws_tl hR.2.2.2.1))) H1 locs1 hP hD hS)
theorem Jl_last {Ls : Nat} {xs : Nat → Int32} {a n : Nat} {f : Nat → Int64} {i : Int32} {x : Int64} (d : decode M.2.1 pc = .ok (.lastore, 1)) (hn : pc + 1 = nx) (he : es[a]? = some (.inl (1, n, .inr (.inl f)))) (hin : vp_in i n) (h : Jl Ls xs M R Q n0 nx L rest (es.set a (.inl (1, n, .inr (.inl (vp_updL f i.toNatClampNeg x))))) k ks) : Jl Ls xs M R Q n0 pc L (.long x :: .int i :: .ref a :: rest) es k ks := by
  subst hn
  intro p l e s m args below meth c D cA ad0 A B0 H locs ls ad hC hR
  exact va_last (D := D) hC.1.1 hC.1.2.1 hC.2.2.2.1 hR.1.2.2.2.2.1 hR.1.2.2.2.2.2 hR.2.1 a 1 (rW_get he) rfl hin d (fun H1 locs1 hP hD hS => Jl.hset (A' := True) h hC hR trivial (ws_tl (ws_tl (ws_tl hR.2.2.2.1))) H1 locs1 hP hD hS)
theorem Jl_bast {Ls : Nat} {xs : Nat → Int32} {a n : Nat} {f : Nat → Int32} {i x : Int32} (d : decode M.2.1 pc = .ok (.bastore, 1)) (hn : pc + 1 = nx) (he : es[a]? = some (.inl (2, n, .inl f))) (hin : vp_in i n) (h : Jl Ls xs M R Q n0 nx L rest (es.set a (.inl (2, n, .inl (upd f i.toNatClampNeg (vp_nar .byte x))))) k ks) : Jl Ls xs M R Q n0 pc L (.int x :: .int i :: .ref a :: rest) es k ks := by
  subst hn
  intro p l e s m args below meth c D cA ad0 A B0 H locs ls ad hC hR
  exact va_bast (D := D) hC.1.1 hC.1.2.1 hC.2.2.2.1 hR.1.2.2.2.2.1 hR.1.2.2.2.2.2 hR.2.1 a 2 (rW_get he) rfl hin d (fun H1 locs1 hP hD hS => Jl.hset (A' := True) h hC hR trivial (ws_tl (ws_tl (ws_tl hR.2.2.2.1))) H1 locs1 hP hD hS)
theorem Jl_aastC {Ls : Nat} {xs : Nat → Int32} {a n v : Nat} {vs : List Value} {f : Nat → Option Nat} {i : Int32} (d : decode M.2.1 pc = .ok (.aastore, 1)) (hn : pc + 1 = nx) (he : es[a]? = some (.inl (3, n, .inr (.inr (.inr (.inr f)))))) (hv : es[v]? = some (.inr (2, vs))) (hin : vp_in i n)
    (h : Jl Ls xs M R Q n0 nx L rest (es.set a (.inl (3, n, .inr (.inr (.inr (.inr (va_up f i.toNatClampNeg (some v)))))))) k ks) : Jl Ls xs M R Q n0 pc L (.ref v :: .int i :: .ref a :: rest) es k ks := by
  subst hn
  intro p l e s m args below meth c D cA ad0 A B0 H locs ls ad hC hR
  have hok : okE es.length (.inl (3, n, .inr (.inr (.inr (.inr (va_up f i.toNatClampNeg (some v))))))) := okE_up (hR.1.2.2.2.1 _ (List.mem_of_getElem? he)) (fun b hb => by cases hb; exact hR.2.2.2.1 _ List.mem_cons_self v rfl)
  have hw := fun H1 locs1 hP hD hS => Jl.hset (A' := True) (E := e) (below := below) h hC hR hok (ws_tl (ws_tl (ws_tl hR.2.2.2.1))) H1 locs1 hP hD hS
  have hE : rE cA ad (.inl (3, n, .inr (.inr (.inr (.inr (va_up f i.toNatClampNeg (some v))))))) = .inl (cA 3, n, .inr (.inr (.inr (.inr (va_up (fun j => (f j).map ad) i.toNatClampNeg (some (ad v))))))) := by
    show (Sum.inl (cA 3, rA ad _) : va_E) = _
    rw [rA_up]; rfl
  rw [hE] at hw
  exact va_astq (D := D) (r := (RX2, TX2, 3)) hC.1.1 hC.1.2.1 hC.2.2.2.1 hR.1.2.2.2.2.1 hR.1.2.2.2.2.2 hR.2.1 a 3 v 2 (rW_get he) rfl (rW_get hv) rfl hin d hw
theorem Jl_aastN {Ls : Nat} {xs : Nat → Int32} {a n t : Nat} {f : Nat → Option Nat} {i : Int32} (d : decode M.2.1 pc = .ok (.aastore, 1)) (hn : pc + 1 = nx) (ht : t = 3) (he : es[a]? = some (.inl (t, n, .inr (.inr (.inr (.inr f)))))) (hin : vp_in i n)
    (h : Jl Ls xs M R Q n0 nx L rest (es.set a (.inl (t, n, .inr (.inr (.inr (.inr (va_up f i.toNatClampNeg none))))))) k ks) : Jl Ls xs M R Q n0 pc L (.null :: .int i :: .ref a :: rest) es k ks := by
  subst hn
  subst ht
  intro p l e s m args below meth c D cA ad0 A B0 H locs ls ad hC hR
  have hok : okE es.length (.inl (3, n, .inr (.inr (.inr (.inr (va_up f i.toNatClampNeg none)))))) := okE_up (hR.1.2.2.2.1 _ (List.mem_of_getElem? he)) (fun b hb => by cases hb)
  have hw := fun H1 locs1 hP hD hS => Jl.hset (A' := True) (E := e) (below := below) h hC hR hok (ws_tl (ws_tl (ws_tl hR.2.2.2.1))) H1 locs1 hP hD hS
  have hE : rE cA ad (.inl (3, n, .inr (.inr (.inr (.inr (va_up f i.toNatClampNeg none)))))) = .inl (cA 3, n, .inr (.inr (.inr (.inr (va_up (fun j => (f j).map ad) i.toNatClampNeg none))))) := by
    show (Sum.inl (cA 3, rA ad _) : va_E) = _
    rw [rA_up]; rfl
  rw [hE] at hw
  exact va_astqN (D := D) (C := "WhistleBook$Code") hC.1.1 hC.1.2.1 hC.2.2.2.1 hR.1.2.2.2.2.1 hR.1.2.2.2.2.2 hR.2.1 a 3 (rW_get he) rfl hin d hw
end
section
variable {M : MI} {R : Room} {Q : Res → List ME → Prop} {n0 pc nx : Nat} {L : List (Option Value)} {rest : List Value} {es : List ME} {k ks : Nat}
theorem Jl.hnew {Ls : Nat} {xs : Nat → Int32} {e : ME} {p : Program} {l : Launch} {E : Env} {s : State} {m : MethodId} {args : Array Value} {below : List Frame} {meth : Method} {c : Code} {D : va_G} {cA : Nat → ClassId} {ad0 : Nat → Nat} {A : Nat → Prop} {B0 : Nat} {H : Heap} {locs : List Loc} {ls : Array Slot} {ad : Nat → Nat} {st : List Value} {k' ks' : Nat}
    (h : Jl Ls xs M R Q n0 nx L (.ref es.length :: rest) (es ++ [e]) k' ks') (hC : jCl Ls xs M p l s m args meth c D cA ad0 A B0) (hR : jR M n0 ad0 D cA A s H locs ls ad L st es) (he : okE 0 e) (hst : ∀ v ∈ rest, okV es.length v) (hlt : es.length < CST) (q : Nat) (H1 : Heap)
    (hP : va_P D vwCl (rW cA ad es ++ [(q, rE cA ad e)]) H1) (hD : va_D A (rW cA ad es ++ [(q, rE cA ad e)])) (hS : va_S A s.heap H1 locs) :
    W p l E R s m args below meth c H1 locs k' ks' (vx_MQ below (jQ Q n0 ad0 D cA A) (jX Q n0 ad0 D cA A) args s R.cells R.slots A) (F0 m nx ls (.ref q :: rest.map (rv ad))) := by
  have hag : ∀ i, (i < es.length ∨ CST ≤ i) → adU ad es.length q i = ad i := fun i hi => adU_ne _ _ _ (by omega)
  have hlen : (es ++ [e]).length = es.length + 1 := by rw [List.length_append, List.length_singleton]
  have hW : rW cA (adU ad es.length q) (es ++ [e]) = rW cA ad es ++ [(q, rE cA ad e)] := by
    rw [rW_app, adU_at, rW_congr (Nat.le_refl _) hag hR.1.2.2.2.1, rE_congr hag (he.mono (Nat.zero_le _))]
  have hw := h p l E s m args below meth c D cA ad0 A B0 H1 locs ls (adU ad es.length q) hC ⟨⟨fun i hi => ?_, by rw [hlen]; exact Nat.le_succ_of_le hR.1.2.1, by rw [hlen]; exact hlt, fun e1 h1 => ?_, by rw [hW]; exact hP, by rw [hW]; exact hD⟩, hS, hR.2.2.1.congr hag hR.2.2.2.2, ?_, fun i v hi => (hR.2.2.2.2 i v hi).mono (by rw [hlen]; exact Nat.le_succ _)⟩
  · rw [List.map_cons, rvs_congr hag hst] at hw
    have : rv (adU ad es.length q) (.ref es.length) = .ref q := by show Value.ref _ = _; rw [adU_at]
    rw [this] at hw
    exact hw
  · rcases hi with hi | hi
    · rw [hag i (Or.inl (Nat.lt_of_lt_of_le hi hR.1.2.1))]; exact hR.1.1 i (Or.inl hi)
    · rw [hag i (Or.inr hi)]; exact hR.1.1 i (Or.inr hi)
  · rw [hlen]
    rcases List.mem_append.mp h1 with h1 | h1
    · exact (hR.1.2.2.2.1 e1 h1).mono (Nat.le_succ _)
    · rw [List.mem_singleton.mp h1]; exact he.mono (Nat.zero_le _)
  · rw [hlen]
    exact ws_cons (okV_ref (Or.inl (Nat.lt_succ_self _))) (fun v hv => (hst v hv).mono (Nat.le_succ _))
theorem Jl_new {Ls : Nat} {xs : Nat → Int32} {ci N idx : Nat} {fs : List Value} (d : decode M.2.1 pc = .ok (.new idx, 3)) (hn : pc + 3 = nx) (lk : NL M.1.cls idx ci N fs) (hlt : es.length < CST) (hk : k + 1 ≤ R.cells) (hks : ks + N ≤ R.slots)
    (h : Jl Ls xs M R Q n0 nx L (.ref es.length :: rest) (es ++ [.inr (ci, fs)]) (k + 1) (ks + N)) : Jl Ls xs M R Q n0 pc L rest es k ks := by
  subst hn
  intro p l e s m args below meth c D cA ad0 A B0 H locs ls ad hC hR
  obtain ⟨C, T, ty, ⟨hc, hin, hty, hnm⟩, h1, h2, h3, hfs, hnr⟩ := lk
  have hts := hC.1.2.2.2.2.2
  have hE : rE cA ad (.inr (ci, fs)) = .inr (ci, fs) := by
    show (Sum.inr (ci, fs.map (rv ad)) : va_E) = _
    rw [show fs.map (rv ad) = fs from by
      refine (List.map_congr_left (g := id) (fun v hv => ?_)).trans (List.map_id _)
      cases v with
      | ref a => exact absurd rfl (hnr _ hv a)
      | _ => rfl]
  refine va_new (D := D) (ci := ci) (fs := fs) hC.1.1 hC.1.2.1 hts hin ty hty hC.1.2.2.2.2.1 (hts _ h1) (hts _ h2) (hts _ h3) hC.2.2.2.1 hR.1.2.2.2.2.1 hR.1.2.2.2.2.2 hR.2.1 hC.2.2.1.1 hc hfs hk hks d (fun q H1 hP hD hS => ?_)
  exact Jl.hnew h hC hR (fun v hv a ha => absurd ha (hnr v hv a)) hR.2.2.2.1 hlt q H1 (by rw [hE]; exact hP) (by rw [hE]; exact hD) hS
theorem Jl.newa {Ls : Nat} {xs : Nat → Int32} {t N : Nat} {at0 : ArrayType} {n : Int32} {x : vp_A} (hat : newarray.typeOf at0 = aty t) (ht : t < 3) (hx : ∀ cA : ClassId, vp_cell cA x = arrV cA N (fun _ => defaultValue (aty t))) (hxr : ∀ ad, rA ad x = x) (hxo : okE 0 (.inl (t, x))) (harr : Cond.arrayClass (newarray.typeOf at0) ∈ TT) (d : decode M.2.1 pc = .ok (.newarray at0, 2)) (hn : pc + 2 = nx) (hn0 : ¬ n < 0) (hN : n.toNatClampNeg = N) (hb : N ≤ 1000000) (hlt : es.length < CST) (hk : k + 1 ≤ R.cells) (hks : ks + N ≤ R.slots)
    (h : Jl Ls xs M R Q n0 nx L (.ref es.length :: rest) (es ++ [.inl (t, x)]) (k + 1) (ks + N)) : Jl Ls xs M R Q n0 pc L (.int n :: rest) es k ks := by
  subst hn
  intro p l e s m args below meth c D cA ad0 A B0 H locs ls ad hC hR
  have hts := hC.1.2.2.2.2.2
  have hbytes : N * componentBytes (aty t) ≤ 536870912 := by
    match t, ht with
    | 0, _ => show N * 4 ≤ _; omega
    | 1, _ => show N * 8 ≤ _; omega
    | 2, _ => show N * 1 ≤ _; omega
  refine va_newa (D := D) (atype := at0) hC.1.1 hC.1.2.1 (hts _ harr) hat hC.2.2.2.1 hR.1.2.2.2.2.1 hR.1.2.2.2.2.2 hR.2.1 hC.2.2.1.1 (a0 := x) hx hn0 hN hbytes hk hks d (fun q cA1 H1 hK1 hP hD hS => ?_)
  have hcA : cA1 = cA t := by
    have e1 := (hK1.2 5 (cA1, aty t) (by rfl)).2
    have e2 := (hC.2.2.2.1.2 t (cA t, aty t) (by match t, ht with | 0, _ => rfl | 1, _ => rfl | 2, _ => rfl)).2
    match t, ht, e1, e2 with
    | 0, _, e1, e2 => exact Option.some.inj ((show s.vm.findClass _ = some cA1 from e1).symm.trans (show s.vm.findClass _ = some (cA 0) from e2))
    | 1, _, e1, e2 => exact Option.some.inj ((show s.vm.findClass _ = some cA1 from e1).symm.trans (show s.vm.findClass _ = some (cA 1) from e2))
    | 2, _, e1, e2 => exact Option.some.inj ((show s.vm.findClass _ = some cA1 from e1).symm.trans (show s.vm.findClass _ = some (cA 2) from e2))
  subst hcA
  have hE : rE cA ad (.inl (t, x)) = .inl (cA t, x) := by show (Sum.inl (cA t, rA ad x) : va_E) = _; rw [hxr]
  exact Jl.hnew h hC hR hxo (ws_tl hR.2.2.2.1) hlt q H1 (by rw [hE]; exact hP) (by rw [hE]; exact hD) hS
theorem Jl_newi {Ls : Nat} {xs : Nat → Int32} {N : Nat} {n : Int32} (harr : Cond.arrayClass .int ∈ TT) (d : decode M.2.1 pc = .ok (.newarray .int, 2)) (hn : pc + 2 = nx) (hn0 : ¬ n < 0) (hN : n.toNatClampNeg = N) (hb : N ≤ 1000000) (hlt : es.length < CST) (hk : k + 1 ≤ R.cells) (hks : ks + N ≤ R.slots)
    (h : Jl Ls xs M R Q n0 nx L (.ref es.length :: rest) (es ++ [.inl (0, N, .inl (fun _ => 0))]) (k + 1) (ks + N)) : Jl Ls xs M R Q n0 pc L (.int n :: rest) es k ks :=
  Jl.newa (t := 0) (at0 := .int) (x := (N, .inl (fun _ => 0))) rfl (by decide) (fun cA => rfl) (fun _ => rfl) trivial harr d hn hn0 hN hb hlt hk hks h
theorem Jl_newl {Ls : Nat} {xs : Nat → Int32} {N : Nat} {n : Int32} (harr : Cond.arrayClass .long ∈ TT) (d : decode M.2.1 pc = .ok (.newarray .long, 2)) (hn : pc + 2 = nx) (hn0 : ¬ n < 0) (hN : n.toNatClampNeg = N) (hb : N ≤ 1000000) (hlt : es.length < CST) (hk : k + 1 ≤ R.cells) (hks : ks + N ≤ R.slots)
    (h : Jl Ls xs M R Q n0 nx L (.ref es.length :: rest) (es ++ [.inl (1, N, .inr (.inl (fun _ => 0)))]) (k + 1) (ks + N)) : Jl Ls xs M R Q n0 pc L (.int n :: rest) es k ks :=
  Jl.newa (t := 1) (at0 := .long) (x := (N, .inr (.inl (fun _ => 0)))) rfl (by decide) (fun cA => rfl) (fun _ => rfl) trivial harr d hn hn0 hN hb hlt hk hks h
theorem Jl_newb {Ls : Nat} {xs : Nat → Int32} {N : Nat} {n : Int32} (harr : Cond.arrayClass .byte ∈ TT) (d : decode M.2.1 pc = .ok (.newarray .byte, 2)) (hn : pc + 2 = nx) (hn0 : ¬ n < 0) (hN : n.toNatClampNeg = N) (hb : N ≤ 1000000) (hlt : es.length < CST) (hk : k + 1 ≤ R.cells) (hks : ks + N ≤ R.slots)
    (h : Jl Ls xs M R Q n0 nx L (.ref es.length :: rest) (es ++ [.inl (2, N, .inl (fun _ => 0))]) (k + 1) (ks + N)) : Jl Ls xs M R Q n0 pc L (.int n :: rest) es k ks :=
  Jl.newa (t := 2) (at0 := .byte) (x := (N, .inl (fun _ => 0))) rfl (by decide) (fun cA => rfl) (fun _ => rfl) trivial harr d hn hn0 hN hb hlt hk hks h
theorem Jl_newq {Ls : Nat} {xs : Nat → Int32} {t N idx : Nat} {C : String} {n : Int32} (ht : (t = 3 ∧ C = "WhistleBook$Code") ∨ (t = 4 ∧ C = "WhistleBook$Word")) (lk : Cond.classLink M.1.cls idx C ∈ TT) (d : decode M.2.1 pc = .ok (.anewarray idx, 3)) (hn : pc + 3 = nx) (hn0 : ¬ n < 0) (hN : n.toNatClampNeg = N) (hb : N ≤ 1000000) (hlt : es.length < CST) (hk : k + 1 ≤ R.cells) (hks : ks + N ≤ R.slots)
    (h : Jl Ls xs M R Q n0 nx L (.ref es.length :: rest) (es ++ [.inl (t, N, .inr (.inr (.inr (.inr (fun _ => none)))))]) (k + 1) (ks + N)) : Jl Ls xs M R Q n0 pc L (.int n :: rest) es k ks := by
  subst hn
  intro p l e s m args below meth c D cA ad0 A B0 H locs ls ad hC hR
  have hts := hC.1.2.2.2.2.2
  have hAO : va_AO C s := by
    rcases ht with ⟨-, rfl⟩ | ⟨-, rfl⟩
    · exact hC.2.2.2.2.1.2.2.2.2.1
    · exact hC.2.2.2.2.1.2.2.2.2.2.1
  refine va_newq (D := D) hC.1.1 hC.1.2.1 hC.1.2.2.2.2.1 (hts _ lk) hAO hC.2.2.2.1 hR.1.2.2.2.2.1 hR.1.2.2.2.2.2 hR.2.1 hC.2.2.1.1 hn0 hN (by omega) hk hks d (fun q cA1 H1 hK1 hP hD hS => ?_)
  have hcA : cA1 = cA t := by
    have e1 := (hK1.2 5 (cA1, .object C) (by rfl)).2
    obtain ⟨_, _, _, _, _, e1⟩ := e1
    rcases ht with ⟨rfl, rfl⟩ | ⟨rfl, rfl⟩
    · obtain ⟨_, _, _, _, _, e2⟩ := (hC.2.2.2.1.2 3 (cA 3, aty 3) (by rfl)).2
      exact Option.some.inj (e1.symm.trans e2)
    · obtain ⟨_, _, _, _, _, e2⟩ := (hC.2.2.2.1.2 4 (cA 4, aty 4) (by rfl)).2
      exact Option.some.inj (e1.symm.trans e2)
  subst hcA
  exact Jl.hnew h hC hR (fun j a ha => by cases ha) (ws_tl hR.2.2.2.1) hlt q H1 hP hD hS
theorem Jl.after {Ls : Nat} {xs : Nat → Int32} {p : Program} {l : Launch} {E : Env} {s : State} {m : MethodId} {args : Array Value} {below : List Frame} {meth : Method} {c : Code} {D : va_G} {cA : Nat → ClassId} {ad0 : Nat → Nat} {A : Nat → Prop} {B0 : Nat} {H : Heap} {locs : List Loc} {ls : Array Slot} {ad : Nat → Nat} {st : List Value} {st0 : List Value} {Q' : Res → List ME → Prop} {mc ms : Nat} {a : Array Value}
    (hC : jCl Ls xs M p l s m args meth c D cA ad0 A B0) (hR : jR M n0 ad0 D cA A s H locs ls ad L st es) (hst : ∀ v ∈ rest, okV es.length v) (hc : k + mc ≤ R.cells) (hs : ks + ms ≤ R.slots)
    (hx : ∀ E es', Q' (.inr E) es' → Q (.inr E) es') (h : ∀ v es', Q' (.inl v) es' → Jl Ls xs M R Q n0 (pc + 3) L (v.toList ++ rest) es' (k + mc) (ks + ms))
    (hr : vx_Run p l E R s m args below meth c H locs k ks mc ms (F0 m pc ls st0) (rest.map (rv ad)) (jQ Q' es.length ad D cA (va_A (rW cA ad es) H.size) a) (jX Q' es.length ad D cA (va_A (rW cA ad es) H.size)) (va_A (rW cA ad es) H.size)) :
    W p l E R s m args below meth c H locs k ks (vx_MQ below (jQ Q n0 ad0 D cA A) (jX Q n0 ad0 D cA A) args s R.cells R.slots A) (F0 m pc ls st0) := by
  have hA : ∀ q, va_A (rW cA ad es) H.size q → A q := by
    rintro q (⟨i, e, hi⟩ | hq)
    · exact hR.1.2.2.2.2.2.2 i _ hi
    · exact hC.2.2.1.1 q (Nat.le_trans hR.2.1.1 hq)
  have hag0 : ∀ {es' : List ME} {ad' : Nat → Nat} {H1 : Heap}, jE es.length ad D cA (va_A (rW cA ad es) H.size) ad' es' H1 → jE n0 ad0 D cA A ad' es' H1 := by
    intro es' ad' H1 h1
    refine ⟨fun i hi => ?_, Nat.le_trans hR.1.2.1 h1.2.1, h1.2.2.1, h1.2.2.2.1, h1.2.2.2.2.1, h1.2.2.2.2.2.weaken (fun _ q _ hq => hA _ hq)⟩
    rcases hi with hi | hi
    · rw [h1.1 i (Or.inl (Nat.lt_of_lt_of_le hi hR.1.2.1))]; exact hR.1.1 i (Or.inl hi)
    · rw [h1.1 i (Or.inr hi)]; exact hR.1.1 i (Or.inr hi)
  intro T hT X
  rcases hr T hT X with ⟨v, st₀, t, T', Lc, h0, X', hL, e1, e2, ⟨⟨v', es', ad', hv, hq, hE, -, hvo⟩, hF⟩, hgo⟩ | ⟨q, st₀, t, T', Lc, E1, ce, h0, X', hL, e1, e2, ⟨⟨es', ad', hq, hE, -⟩, hF⟩, hce, hcv, hcl, hst1⟩
  · obtain ⟨k1, k2, k3⟩ := vx_keep h0 e1 hR.2.1 (fun q _ h => hA q h) hA hL hF
    have hv' : v = v'.map (rv ad') := by injection hv
    have hw := h v' es' hq p l E s m args below meth c D cA ad0 A B0 T'.heap (locs ++ Lc) ls ad' hC ⟨by rw [e1]; exact hag0 hE, k3, hR.2.2.1.congr hE.1 hR.2.2.2.2, ?_, fun i w hi => (hR.2.2.2.2 i w hi).mono hE.2.1⟩
    · obtain ⟨t2, a1, b1⟩ := hw T' rfl X'
      refine ⟨t2, hgo t2 ?_, b1⟩
      have : (v'.toList ++ rest).map (rv ad') = v.toList ++ rest.map (rv ad) := by
        rw [List.map_append, rvs_congr hE.1 hst, hv']
        cases v' <;> rfl
      rw [this] at a1
      exact a1
    · intro w hw
      rcases List.mem_append.mp hw with hw | hw
      · cases v' with
        | none => cases hw
        | some z => rw [List.mem_singleton.mp hw]; exact hvo z rfl
      · exact (hst w hw).mono hE.2.1
  · obtain ⟨k1, k2, k3⟩ := vx_keep h0 e1 hR.2.1 (fun q _ h => hA q h) hA hL hF
    have hlocks := hC.2.1.1
    have hcl' : T'.heap[q]? = some ce := by rw [e1]; exact hce
    have hout : vx_W p l E R s m args below meth c T'.heap (locs ++ Lc) (k + mc) (ks + ms) (vx_MQ below (jQ Q n0 ad0 D cA A) (jX Q n0 ad0 D cA A) args s R.cells R.slots A) (F0 m pc ls (rest.map (rv ad))) q :=
      vx_out (fun x hx => (hC.2.1.2.2 x hx).elim) hlocks hcl' hcv hcl (fun t1 ht1 hAl => ⟨⟨es', ad', hx _ _ hq, by rw [ht1, e1]; exact hag0 hE, va_K.moved hAl hC.2.2.2.1⟩, k3.F ht1⟩) k3.2.2 hc hs
    obtain ⟨t2, a1, b1⟩ := hout T' rfl X'
    exact ⟨t2, hst1.trans a1, b1⟩
theorem jRl.preB {Ls : Nat} {xs : Nat → Int32} {p : Program} {l : Launch} {s : State} {m : MethodId} {args : Array Value} {meth : Method} {c : Code} {D : va_G} {cA : Nat → ClassId} {ad0 : Nat → Nat} {A : Nat → Prop} {B0 : Nat} {H : Heap} {locs : List Loc} {ls : Array Slot} {ad : Nat → Nat} {st : List Value} (hC : jCl Ls xs M p l s m args meth c D cA ad0 A B0) (hR : jR M n0 ad0 D cA A s H locs ls ad L st es) (U : State) (hU : U.heap = H) (hW : s.WarmedH U.vm) :
    U.heap.size = H.size ∧ B0 ≤ H.size ∧ va_P D vwCl (rW cA ad es) U.heap ∧ va_K D vwCl (tysA cA) U ∧ va_D (fun q : Nat => B0 ≤ q) (rW cA ad es) ∧ KC B0 ad U U.heap :=
  ⟨by rw [hU], Nat.le_trans hC.2.2.1.2.2 hR.2.1.1, by rw [hU]; exact hR.1.2.2.2.2.1, va_K.moved hW.alike hC.2.2.2.1, hR.1.2.2.2.2.2.weaken (fun _ q _ h => hC.2.2.1.2.1 _ h), by rw [hU]; exact KC.moved hC.2.2.2.2.1 hW (fun a h1 h2 => hR.2.1.2.1 a h1 (fun z => h2 (hC.2.2.1.2.1 a z))) (fun i hi => hR.1.1 i (Or.inr hi))⟩
theorem Jl_callS {Ls : Nat} {xs : Nat → Int32} {M' : MI} {R' : Room} {As : List Value} {Q' : Res → List ME → Prop} {idx n : Nat} (d : decode M.2.1 pc = .ok (.invokestatic idx, 3)) (hn : pc + 3 = nx) (hml : ML M' n) (hlk : Cond.methodLink M.1.cls idx M'.1 ∈ TT) (hstat : Cond.static M'.1 ∈ TT) (hA : As.length = n) (hroom : R'.frames + 1 ≤ R.frames ∧ 8 + (M'.2.2.1 + 11) + R'.locals ≤ R.locals) (hcat : (rest.map fun v => v.category).sum ≤ 8) (hk : k + R'.cells ≤ R.cells ∧ ks + R'.slots ≤ R.slots)
    (hct : Ct M' R' As es Q') (hx : ∀ E es', Q' (.inr E) es' → Q (.inr E) es') (h : ∀ v es', Q' (.inl v) es' → Jl Ls xs M R Q n0 nx L (v.toList ++ rest) es' (k + R'.cells) (ks + R'.slots)) : Jl Ls xs M R Q n0 pc L (As.reverse ++ rest) es k ks := by
  subst hn
  intro p l e s m args below meth c D cA ad0 A B0 H locs ls ad hC hR
  have hts := hC.1.2.2.2.2.2
  have hokA : ∀ v ∈ As, okV es.length v := fun v hv => hR.2.2.2.1 v (List.mem_append_left _ (List.mem_reverse.mpr hv))
  have hokr : ∀ v ∈ rest, okV es.length v := fun v hv => hR.2.2.2.1 v (List.mem_append_right _ hv)
  have hM := hct hokA hR.1.2.2.2.1 hR.1.2.2.1 l hC.2.2.2.2.2.1 ad D cA B0 H.size
  refine Jl.after hC hR hokr hk.1 hk.2 hx h (vx_runS (As := As.map (rv ad)) (n := n) (nL := M.2.2.1) (own := M.1.cls) (Ts := TT) ⟨hC.1.1, hC.1.2.1, hC.1.2.2.1, hC.1.2.2.2.2.1, hts⟩ hM ⟨hml.callB hlk hts hroom, hts _ hstat⟩ ⟨jB_blind, fun U hU hW => ⟨rfl, jRl.preB hC hR U hU hW⟩⟩ rfl (by rw [List.length_map]; exact hA) hR.2.2.1.1 ?_ (lv_room ?_) d hk)
  · show (As.reverse ++ rest).map (rv ad) = _
    rw [List.map_append, List.map_reverse]
  · rw [List.map_map]
    have : ((fun v => v.category) ∘ rv ad) = fun v => v.category := by funext v; exact rv_cat ad v
    rw [this]; exact hcat
theorem Jl_callV {Ls : Nat} {xs : Nat → Int32} {M' : MI} {R' : Room} {b ci : Nat} {fs As : List Value} {Q' : Res → List ME → Prop} {idx n : Nat} (d : decode M.2.1 pc = .ok (.invokevirtual idx, 3)) (hn : pc + 3 = nx) (hml : ML M' n) (hlk : Cond.methodLink M.1.cls idx M'.1 ∈ TT) (hins : Cond.instanceMethod M'.1 ∈ TT ∧ Cond.selects M'.1.cls M'.1 M'.1 ∈ TT) {T : u_T} {N : Nat} (hcl : vwCl[ci]? = some (M'.1.cls, T, N)) (he : es[b]? = some (.inr (ci, fs))) (hA : As.length = n) (hroom : R'.frames + 1 ≤ R.frames ∧ 8 + (M'.2.2.1 + 11) + R'.locals ≤ R.locals) (hcat : (rest.map fun v => v.category).sum ≤ 8) (hk : k + R'.cells ≤ R.cells ∧ ks + R'.slots ≤ R.slots)
    (hct : Ct M' R' (.ref b :: As) es Q') (hx : ∀ E es', Q' (.inr E) es' → Q (.inr E) es') (h : ∀ v es', Q' (.inl v) es' → Jl Ls xs M R Q n0 nx L (v.toList ++ rest) es' (k + R'.cells) (ks + R'.slots)) : Jl Ls xs M R Q n0 pc L (As.reverse ++ .ref b :: rest) es k ks := by
  subst hn
  intro p l e s m args below meth c D cA ad0 A B0 H locs ls ad hC hR
  have hts := hC.1.2.2.2.2.2
  have hokA : ∀ v ∈ Value.ref b :: As, okV es.length v := fun v hv => by
    rcases List.mem_cons.mp hv with rfl | hv
    · exact hR.2.2.2.1 _ (List.mem_append_right _ List.mem_cons_self)
    · exact hR.2.2.2.1 v (List.mem_append_left _ (List.mem_reverse.mpr hv))
  have hokr : ∀ v ∈ rest, okV es.length v := fun v hv => hR.2.2.2.1 v (List.mem_append_right _ (List.mem_cons_of_mem _ hv))
  have hM := hct hokA hR.1.2.2.2.1 hR.1.2.2.1 l hC.2.2.2.2.2.1 ad D cA B0 H.size
  refine Jl.after hC hR hokr hk.1 hk.2 hx h (vx_runV (C := M'.1.cls) (b := ad b) (As := As.map (rv ad)) (n := n) (nL := M.2.2.1) (own := M.1.cls) (Ts := TT) ⟨hC.1.1, hC.1.2.1, hC.1.2.2.1, hC.1.2.2.2.2.1, hts⟩ hM ⟨hml.callB hlk hts hroom, hts _ hins.1, hts _ hins.2⟩ ⟨jB_blind, va_recv hC.2.2.2.1 hR.1.2.2.2.2.1 hcl (rW_get he), fun U hU hW => ⟨rfl, jRl.preB hC hR U hU hW⟩⟩ rfl (by rw [List.length_map]; exact hA) hR.2.2.1.1 ?_ (lv_room ?_) d hk)
  · show (As.reverse ++ .ref b :: rest).map (rv ad) = _
    rw [List.map_append, List.map_reverse]; rfl
  · rw [List.map_map]
    have : ((fun v => v.category) ∘ rv ad) = fun v => v.category := by funext v; exact rv_cat ad v
    rw [this]; exact hcat
theorem Jl_callI {Ls : Nat} {xs : Nat → Int32} {M' : MI} {R' : Room} {b : Nat} {As : List Value} {Q' : Res → List ME → Prop} {idx n : Nat} (d : decode M.2.1 pc = .ok (.invokespecial idx, 3)) (hn : pc + 3 = nx) (hml : ML M' n) (hlk : Cond.methodLink M.1.cls idx M'.1 ∈ TT) (hins : Cond.instanceMethod M'.1 ∈ TT) (hin : M'.1.name = "<init>") (hret : M'.2.2.2 = none) (hA : As.length = n) (hroom : R'.frames + 1 ≤ R.frames ∧ 8 + (M'.2.2.1 + 11) + R'.locals ≤ R.locals) (hcat : (rest.map fun v => v.category).sum ≤ 8) (hk : k + R'.cells ≤ R.cells ∧ ks + R'.slots ≤ R.slots)
    (hct : Ct M' R' (.ref b :: As) es Q') (hx : ∀ E es', ¬ Q' (.inr E) es') (h : ∀ v es', Q' (.inl v) es' → Jl Ls xs M R Q n0 nx L (v.toList ++ rest) es' (k + R'.cells) (ks + R'.slots)) : Jl Ls xs M R Q n0 pc L (As.reverse ++ .ref b :: rest) es k ks := by
  subst hn
  intro p l e s m args below meth c D cA ad0 A B0 H locs ls ad hC hR
  have hts := hC.1.2.2.2.2.2
  have hokA : ∀ v ∈ Value.ref b :: As, okV es.length v := fun v hv => by
    rcases List.mem_cons.mp hv with rfl | hv
    · exact hR.2.2.2.1 _ (List.mem_append_right _ List.mem_cons_self)
    · exact hR.2.2.2.1 v (List.mem_append_left _ (List.mem_reverse.mpr hv))
  have hokr : ∀ v ∈ rest, okV es.length v := fun v hv => hR.2.2.2.1 v (List.mem_append_right _ (List.mem_cons_of_mem _ hv))
  have hM := met_of (hct hokA hR.1.2.2.2.1 hR.1.2.2.1 l hC.2.2.2.2.2.1 ad D cA B0 H.size) (fun E st t z => by obtain ⟨⟨es', ad', hq, -⟩, -⟩ := z; exact hx _ _ hq)
  have hcb := hml.callB (own := M.1.cls) hlk hts hroom
  rw [hret] at hcb
  have hr := va_runI (meth := meth) (b := ad b) (As := As.map (rv ad)) (rest := rest.map (rv ad)) (g := F0 m pc ls ((As.reverse ++ .ref b :: rest).map (rv ad))) (n := n) (nL := M.2.2.1) (own := M.1.cls) (Ts := TT) (cells := k) (slots := ks) (locs := locs) (R := R) (below := below) (l := l) (e := e) ⟨hC.1.1, hC.1.2.1, hC.1.2.2.1, hC.1.2.2.2.2.1, hts⟩ hM ⟨hcb, hin, hts _ hins⟩ ⟨jB_blind, fun U hU hW => ⟨rfl, jRl.preB hC hR U hU hW⟩⟩ rfl (by rw [List.length_map]; exact hA) hR.2.2.1.1 (by show (As.reverse ++ .ref b :: rest).map (rv ad) = _; rw [List.map_append, List.map_reverse]; rfl) (lv_room (by
    rw [List.map_map]
    have : ((fun v => v.category) ∘ rv ad) = fun v => v.category := by funext v; exact rv_cat ad v
    rw [this]; exact hcat)) d hk
  exact Jl.after hC hR hokr hk.1 hk.2 (fun E es' z => absurd z (hx _ _)) h (fun T hT X => Or.inl (hr T hT X))
theorem Jl_objInit {Ls : Nat} {xs : Nat → Int32} {b idx : Nat} (d : decode M.2.1 pc = .ok (.invokespecial idx, 3)) (hn : pc + 3 = nx) (hlk : Cond.methodLink M.1.cls idx Lib.objectInit ∈ TT) (hins : Cond.instanceMethod Lib.objectInit ∈ TT) (hcode : Cond.code Lib.objectInit ⟨#[0xb1]⟩ 1 none ∈ TT) (hcat : (rest.map fun v => v.category).sum ≤ 8) (hroom : 1 ≤ R.frames ∧ 20 ≤ R.locals) (h : Jl Ls xs M R Q n0 nx L rest es k ks) : Jl Ls xs M R Q n0 pc L (.ref b :: rest) es k ks := by
  subst hn
  intro p l e s m args below meth c D cA ad0 A B0 H locs ls ad hC hR
  have hts := hC.1.2.2.2.2.2
  have hw := h p l e s m args below meth c D cA ad0 A B0 H locs ls ad hC ⟨hR.1, hR.2.1, hR.2.2.1, ws_tl hR.2.2.2.1, hR.2.2.2.2⟩
  refine W.objInit (g := F0 m pc ls (.ref (ad b) :: rest.map (rv ad))) (rest := rest.map (rv ad)) hC.1.1 hC.1.2.1 hC.1.2.2.2.2.1 (hts _ hlk) (hts _ hins) (hts _ hcode) rfl (hR.2.2.1.1.trans hC.1.2.2.1.symm) rfl d hroom.1 ?_ hw
  have h1 : 2 * (F0 m pc ls (.ref (ad b) :: rest.map (rv ad))).monitorRoom + ((rest.map (rv ad)).map fun v => v.category).sum ≤ 8 := lv_room (by
    rw [List.map_map]
    have : ((fun v => v.category) ∘ rv ad) = fun v => v.category := by funext v; exact rv_cat ad v
    rw [this]; exact hcat)
  omega
end
theorem Jlrz {Ls : Nat} {xs : Nat → Int32} {M : MI} {R : Room} {Q : Res → List ME → Prop} {n0 pc : Nat} {L : List (Option Value)} {es : List ME} {k ks : Nat} {v : Int32} {ty : FieldType} (d : decode M.2.1 pc = .ok (.ireturn, 1)) (hr : M.2.2.2 = some ty) (hnr : narrow ty (.int v) = .int v) (hk : k ≤ R.cells) (hks : ks ≤ R.slots) (hq : Q (.inl (some (.int v))) es) : Jl Ls xs M R Q n0 pc L [.int v] es k ks := Jl_zret (nx := 0) (rest := []) d hr hnr hk hks hq
theorem Jl_sld {Ls : Nat} {xs : Nat → Int32} {M : MI} {R : Room} {Q : Res → List ME → Prop} {n0 pc nx : Nat} {L : List (Option Value)} {rest : List Value} {es : List ME} {k ks : Nat} {i : Int32} (d : decode M.2.1 pc = .ok (.iaload, 1)) (hn : pc + 1 = nx) (hin : vp_in i Ls) (h : Jl Ls xs M R Q n0 nx L (.int (xs i.toNatClampNeg) :: rest) es k ks) : Jl Ls xs M R Q n0 pc L (.int i :: .ref (CST + 200) :: rest) es k ks := by
  subst hn
  intro p l e s m args below meth c D cA ad0 A B0 H locs ls ad hC hR
  have hw := h p l e s m args below meth c D cA ad0 A B0 H locs ls ad hC ⟨hR.1, hR.2.1, hR.2.2.1, ws_cons (okV_int _ _) (ws_tl (ws_tl hR.2.2.2.1)), hR.2.2.2.2⟩
  have e0 : ad (CST + 200) = ad0 (CST + 200) := hR.1.1 _ (Or.inr (by omega))
  show W p l e R s m args below meth c H locs k ks _ (F0 m pc ls (.int i :: .ref (ad (CST + 200)) :: rest.map (rv ad)))
  rw [e0]
  exact va_sld hC.1.1 hC.1.2.1 hC.2.2.2.2.2.2.1 hC.2.2.2.2.2.2.2.1 hC.2.2.2.2.2.2.2.2 hR.2.1 hin d hw
