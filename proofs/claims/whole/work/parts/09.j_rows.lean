theorem J_iadd {M : MI} {R : Room} {Q : Res → List ME → Prop} {n0 pc nx : Nat} {L : List (Option Value)} {rest : List Value} {es : List ME} {k ks : Nat} {x y : Int32} (d : decode M.2.1 pc = .ok (.iadd, 1)) (hn : pc + 1 = nx) (h : J M R Q n0 nx L (.int (x + y) :: rest) es k ks) : J M R Q n0 pc L (.int y :: .int x :: rest) es k ks := by
  subst hn
  exact J.stk (st' := .int (x + y) :: rest) (fun ad hx hb ho ht hw => lv_iadd hx hb d hw) (fun n h => ws_cons (okV_int _ _) (ws_tl (ws_tl h))) h
theorem J_isub {M : MI} {R : Room} {Q : Res → List ME → Prop} {n0 pc nx : Nat} {L : List (Option Value)} {rest : List Value} {es : List ME} {k ks : Nat} {x y : Int32} (d : decode M.2.1 pc = .ok (.isub, 1)) (hn : pc + 1 = nx) (h : J M R Q n0 nx L (.int (x - y) :: rest) es k ks) : J M R Q n0 pc L (.int y :: .int x :: rest) es k ks := by
  subst hn
  exact J.stk (st' := .int (x - y) :: rest) (fun ad hx hb ho ht hw => lv_isub hx hb d hw) (fun n h => ws_cons (okV_int _ _) (ws_tl (ws_tl h))) h
theorem J_imul {M : MI} {R : Room} {Q : Res → List ME → Prop} {n0 pc nx : Nat} {L : List (Option Value)} {rest : List Value} {es : List ME} {k ks : Nat} {x y : Int32} (d : decode M.2.1 pc = .ok (.imul, 1)) (hn : pc + 1 = nx) (h : J M R Q n0 nx L (.int (x * y) :: rest) es k ks) : J M R Q n0 pc L (.int y :: .int x :: rest) es k ks := by
  subst hn
  exact J.stk (st' := .int (x * y) :: rest) (fun ad hx hb ho ht hw => lv_imul hx hb d hw) (fun n h => ws_cons (okV_int _ _) (ws_tl (ws_tl h))) h
theorem J_iand {M : MI} {R : Room} {Q : Res → List ME → Prop} {n0 pc nx : Nat} {L : List (Option Value)} {rest : List Value} {es : List ME} {k ks : Nat} {x y : Int32} (d : decode M.2.1 pc = .ok (.iand, 1)) (hn : pc + 1 = nx) (h : J M R Q n0 nx L (.int (x &&& y) :: rest) es k ks) : J M R Q n0 pc L (.int y :: .int x :: rest) es k ks := by
  subst hn
  exact J.stk (st' := .int (x &&& y) :: rest) (fun ad hx hb ho ht hw => lv_iand hx hb d hw) (fun n h => ws_cons (okV_int _ _) (ws_tl (ws_tl h))) h
theorem J_ior {M : MI} {R : Room} {Q : Res → List ME → Prop} {n0 pc nx : Nat} {L : List (Option Value)} {rest : List Value} {es : List ME} {k ks : Nat} {x y : Int32} (d : decode M.2.1 pc = .ok (.ior, 1)) (hn : pc + 1 = nx) (h : J M R Q n0 nx L (.int (x ||| y) :: rest) es k ks) : J M R Q n0 pc L (.int y :: .int x :: rest) es k ks := by
  subst hn
  exact J.stk (st' := .int (x ||| y) :: rest) (fun ad hx hb ho ht hw => lv_ior hx hb d hw) (fun n h => ws_cons (okV_int _ _) (ws_tl (ws_tl h))) h
theorem J_ixor {M : MI} {R : Room} {Q : Res → List ME → Prop} {n0 pc nx : Nat} {L : List (Option Value)} {rest : List Value} {es : List ME} {k ks : Nat} {x y : Int32} (d : decode M.2.1 pc = .ok (.ixor, 1)) (hn : pc + 1 = nx) (h : J M R Q n0 nx L (.int (x ^^^ y) :: rest) es k ks) : J M R Q n0 pc L (.int y :: .int x :: rest) es k ks := by
  subst hn
  exact J.stk (st' := .int (x ^^^ y) :: rest) (fun ad hx hb ho ht hw => lv_ixor hx hb d hw) (fun n h => ws_cons (okV_int _ _) (ws_tl (ws_tl h))) h
theorem J_ishl {M : MI} {R : Room} {Q : Res → List ME → Prop} {n0 pc nx : Nat} {L : List (Option Value)} {rest : List Value} {es : List ME} {k ks : Nat} {x y : Int32} (d : decode M.2.1 pc = .ok (.ishl, 1)) (hn : pc + 1 = nx) (h : J M R Q n0 nx L (.int (x <<< (y &&& 31)) :: rest) es k ks) : J M R Q n0 pc L (.int y :: .int x :: rest) es k ks := by
  subst hn
  exact J.stk (st' := .int (x <<< (y &&& 31)) :: rest) (fun ad hx hb ho ht hw => lv_ishl hx hb d hw) (fun n h => ws_cons (okV_int _ _) (ws_tl (ws_tl h))) h
theorem J_ishr {M : MI} {R : Room} {Q : Res → List ME → Prop} {n0 pc nx : Nat} {L : List (Option Value)} {rest : List Value} {es : List ME} {k ks : Nat} {x y : Int32} (d : decode M.2.1 pc = .ok (.ishr, 1)) (hn : pc + 1 = nx) (h : J M R Q n0 nx L (.int (x >>> (y &&& 31)) :: rest) es k ks) : J M R Q n0 pc L (.int y :: .int x :: rest) es k ks := by
  subst hn
  exact J.stk (st' := .int (x >>> (y &&& 31)) :: rest) (fun ad hx hb ho ht hw => lv_ishr hx hb d hw) (fun n h => ws_cons (okV_int _ _) (ws_tl (ws_tl h))) h
theorem J_iushr {M : MI} {R : Room} {Q : Res → List ME → Prop} {n0 pc nx : Nat} {L : List (Option Value)} {rest : List Value} {es : List ME} {k ks : Nat} {x y : Int32} (d : decode M.2.1 pc = .ok (.iushr, 1)) (hn : pc + 1 = nx) (h : J M R Q n0 nx L (.int ((x.toUInt32 >>> (y.toUInt32 &&& Int32.toUInt32 31)).toInt32) :: rest) es k ks) : J M R Q n0 pc L (.int y :: .int x :: rest) es k ks := by
  subst hn
  exact J.stk (st' := .int ((x.toUInt32 >>> (y.toUInt32 &&& Int32.toUInt32 31)).toInt32) :: rest) (fun ad hx hb ho ht hw => lv_iushr hx hb d rfl hw) (fun n h => ws_cons (okV_int _ _) (ws_tl (ws_tl h))) h
theorem J_ineg {M : MI} {R : Room} {Q : Res → List ME → Prop} {n0 pc nx : Nat} {L : List (Option Value)} {rest : List Value} {es : List ME} {k ks : Nat} {x : Int32} (d : decode M.2.1 pc = .ok (.ineg, 1)) (hn : pc + 1 = nx) (h : J M R Q n0 nx L (.int (-x) :: rest) es k ks) : J M R Q n0 pc L (.int x :: rest) es k ks := by
  subst hn
  exact J.stk (st' := .int (-x) :: rest) (fun ad hx hb ho ht hw => lv_ineg hx hb d hw) (fun n h => ws_cons (okV_int _ _) (ws_tl h)) h
theorem J_idiv {M : MI} {R : Room} {Q : Res → List ME → Prop} {n0 pc nx : Nat} {L : List (Option Value)} {rest : List Value} {es : List ME} {k ks : Nat} {x y : Int32} (hne : ¬ y = 0) (d : decode M.2.1 pc = .ok (.idiv, 1)) (hn : pc + 1 = nx) (h : J M R Q n0 nx L (.int (x / y) :: rest) es k ks) : J M R Q n0 pc L (.int y :: .int x :: rest) es k ks := by
  subst hn
  exact J.stk (st' := .int (x / y) :: rest) (fun ad hx hb ho ht hw => lv_idiv hx hb d hne hw) (fun n h => ws_cons (okV_int _ _) (ws_tl (ws_tl h))) h
theorem J_irem {M : MI} {R : Room} {Q : Res → List ME → Prop} {n0 pc nx : Nat} {L : List (Option Value)} {rest : List Value} {es : List ME} {k ks : Nat} {x y : Int32} (hne : ¬ y = 0) (d : decode M.2.1 pc = .ok (.irem, 1)) (hn : pc + 1 = nx) (h : J M R Q n0 nx L (.int (x - x / y * y) :: rest) es k ks) : J M R Q n0 pc L (.int y :: .int x :: rest) es k ks := by
  subst hn
  exact J.stk (st' := .int (x - x / y * y) :: rest) (fun ad hx hb ho ht hw => lv_irem hx hb d hne hw) (fun n h => ws_cons (okV_int _ _) (ws_tl (ws_tl h))) h
theorem J_ladd {M : MI} {R : Room} {Q : Res → List ME → Prop} {n0 pc nx : Nat} {L : List (Option Value)} {rest : List Value} {es : List ME} {k ks : Nat} {x y : Int64} (d : decode M.2.1 pc = .ok (.ladd, 1)) (hn : pc + 1 = nx) (h : J M R Q n0 nx L (.long (x + y) :: rest) es k ks) : J M R Q n0 pc L (.long y :: .long x :: rest) es k ks := by
  subst hn
  exact J.stk (st' := .long (x + y) :: rest) (fun ad hx hb ho ht hw => lv_ladd hx hb d hw) (fun n h => ws_cons (okV_long _ _) (ws_tl (ws_tl h))) h
theorem J_lsub {M : MI} {R : Room} {Q : Res → List ME → Prop} {n0 pc nx : Nat} {L : List (Option Value)} {rest : List Value} {es : List ME} {k ks : Nat} {x y : Int64} (d : decode M.2.1 pc = .ok (.lsub, 1)) (hn : pc + 1 = nx) (h : J M R Q n0 nx L (.long (x - y) :: rest) es k ks) : J M R Q n0 pc L (.long y :: .long x :: rest) es k ks := by
  subst hn
  exact J.stk (st' := .long (x - y) :: rest) (fun ad hx hb ho ht hw => lv_lsub hx hb d hw) (fun n h => ws_cons (okV_long _ _) (ws_tl (ws_tl h))) h
theorem J_lmul {M : MI} {R : Room} {Q : Res → List ME → Prop} {n0 pc nx : Nat} {L : List (Option Value)} {rest : List Value} {es : List ME} {k ks : Nat} {x y : Int64} (d : decode M.2.1 pc = .ok (.lmul, 1)) (hn : pc + 1 = nx) (h : J M R Q n0 nx L (.long (x * y) :: rest) es k ks) : J M R Q n0 pc L (.long y :: .long x :: rest) es k ks := by
  subst hn
  exact J.stk (st' := .long (x * y) :: rest) (fun ad hx hb ho ht hw => lv_lmul hx hb d hw) (fun n h => ws_cons (okV_long _ _) (ws_tl (ws_tl h))) h
theorem J_lxor {M : MI} {R : Room} {Q : Res → List ME → Prop} {n0 pc nx : Nat} {L : List (Option Value)} {rest : List Value} {es : List ME} {k ks : Nat} {x y : Int64} (d : decode M.2.1 pc = .ok (.lxor, 1)) (hn : pc + 1 = nx) (h : J M R Q n0 nx L (.long (x ^^^ y) :: rest) es k ks) : J M R Q n0 pc L (.long y :: .long x :: rest) es k ks := by
  subst hn
  exact J.stk (st' := .long (x ^^^ y) :: rest) (fun ad hx hb ho ht hw => lv_lxor hx hb d hw) (fun n h => ws_cons (okV_long _ _) (ws_tl (ws_tl h))) h
theorem J_ldiv {M : MI} {R : Room} {Q : Res → List ME → Prop} {n0 pc nx : Nat} {L : List (Option Value)} {rest : List Value} {es : List ME} {k ks : Nat} {x y : Int64} (hne : ¬ y = 0) (d : decode M.2.1 pc = .ok (.ldiv, 1)) (hn : pc + 1 = nx) (h : J M R Q n0 nx L (.long (x / y) :: rest) es k ks) : J M R Q n0 pc L (.long y :: .long x :: rest) es k ks := by
  subst hn
  exact J.stk (st' := .long (x / y) :: rest) (fun ad hx hb ho ht hw => lv_ldiv hx hb d hne hw) (fun n h => ws_cons (okV_long _ _) (ws_tl (ws_tl h))) h
theorem J_lneg {M : MI} {R : Room} {Q : Res → List ME → Prop} {n0 pc nx : Nat} {L : List (Option Value)} {rest : List Value} {es : List ME} {k ks : Nat} {x : Int64} (d : decode M.2.1 pc = .ok (.lneg, 1)) (hn : pc + 1 = nx) (h : J M R Q n0 nx L (.long (-x) :: rest) es k ks) : J M R Q n0 pc L (.long x :: rest) es k ks := by
  subst hn
  exact J.stk (st' := .long (-x) :: rest) (fun ad hx hb ho ht hw => lv_lneg hx hb d hw) (fun n h => ws_cons (okV_long _ _) (ws_tl h)) h
theorem J_lcmp {M : MI} {R : Room} {Q : Res → List ME → Prop} {n0 pc nx : Nat} {L : List (Option Value)} {rest : List Value} {es : List ME} {k ks : Nat} {x y : Int64} (d : decode M.2.1 pc = .ok (.lcmp, 1)) (hn : pc + 1 = nx) (h : J M R Q n0 nx L (.int (lg_cmp x y) :: rest) es k ks) : J M R Q n0 pc L (.long y :: .long x :: rest) es k ks := by
  subst hn
  exact J.stk (st' := .int (lg_cmp x y) :: rest) (fun ad hx hb ho ht hw => W.lcmp hx hb d hw) (fun n h => ws_cons (okV_int _ _) (ws_tl (ws_tl h))) h
theorem J_i2l {M : MI} {R : Room} {Q : Res → List ME → Prop} {n0 pc nx : Nat} {L : List (Option Value)} {rest : List Value} {es : List ME} {k ks : Nat} {x : Int32} (d : decode M.2.1 pc = .ok (.i2l, 1)) (hn : pc + 1 = nx) (h : J M R Q n0 nx L (.long x.toInt64 :: rest) es k ks) : J M R Q n0 pc L (.int x :: rest) es k ks := by
  subst hn
  exact J.stk (st' := .long x.toInt64 :: rest) (fun ad hx hb ho ht hw => lv_i2l hx hb d rfl hw) (fun n h => ws_cons (okV_long _ _) (ws_tl h)) h
theorem J_l2i {M : MI} {R : Room} {Q : Res → List ME → Prop} {n0 pc nx : Nat} {L : List (Option Value)} {rest : List Value} {es : List ME} {k ks : Nat} {x : Int64} (d : decode M.2.1 pc = .ok (.l2i, 1)) (hn : pc + 1 = nx) (h : J M R Q n0 nx L (.int x.toInt32 :: rest) es k ks) : J M R Q n0 pc L (.long x :: rest) es k ks := by
  subst hn
  exact J.stk (st' := .int x.toInt32 :: rest) (fun ad hx hb ho ht hw => lv_l2i hx hb d rfl hw) (fun n h => ws_cons (okV_int _ _) (ws_tl h)) h
theorem J_i2b {M : MI} {R : Room} {Q : Res → List ME → Prop} {n0 pc nx : Nat} {L : List (Option Value)} {rest : List Value} {es : List ME} {k ks : Nat} {x : Int32} (d : decode M.2.1 pc = .ok (.i2b, 1)) (hn : pc + 1 = nx) (h : J M R Q n0 nx L (.int x.toInt8.toInt32 :: rest) es k ks) : J M R Q n0 pc L (.int x :: rest) es k ks := by
  subst hn
  exact J.stk (st' := .int x.toInt8.toInt32 :: rest) (fun ad hx hb ho ht hw => lv_i2b hx hb d rfl hw) (fun n h => ws_cons (okV_int _ _) (ws_tl h)) h
theorem J_iconst {M : MI} {R : Room} {Q : Res → List ME → Prop} {n0 pc nx : Nat} {L : List (Option Value)} {rest : List Value} {es : List ME} {k ks : Nat} {i : Int} {v : Int32} (hv : Int32.ofInt i = v) (d : decode M.2.1 pc = .ok (.iconst i, 1)) (hn : pc + 1 = nx) (h : J M R Q n0 nx L (.int v :: rest) es k ks) : J M R Q n0 pc L (rest) es k ks := by
  subst hn
  exact J.stk (st' := .int v :: rest) (fun ad hx hb ho ht hw => lv_iconst hx hb d hv hw) (fun n h => ws_cons (okV_int _ _) h) h
theorem J_bipush {M : MI} {R : Room} {Q : Res → List ME → Prop} {n0 pc nx : Nat} {L : List (Option Value)} {rest : List Value} {es : List ME} {k ks : Nat} {i : Int} {v : Int32} (hv : (Int8.ofInt i).toInt32 = v) (d : decode M.2.1 pc = .ok (.bipush i, 2)) (hn : pc + 2 = nx) (h : J M R Q n0 nx L (.int v :: rest) es k ks) : J M R Q n0 pc L (rest) es k ks := by
  subst hn
  exact J.stk (st' := .int v :: rest) (fun ad hx hb ho ht hw => lv_bipush hx hb d hv hw) (fun n h => ws_cons (okV_int _ _) h) h
theorem J_sipush {M : MI} {R : Room} {Q : Res → List ME → Prop} {n0 pc nx : Nat} {L : List (Option Value)} {rest : List Value} {es : List ME} {k ks : Nat} {i : Int} {v : Int32} (hv : (Int16.ofInt i).toInt32 = v) (d : decode M.2.1 pc = .ok (.sipush i, 3)) (hn : pc + 3 = nx) (h : J M R Q n0 nx L (.int v :: rest) es k ks) : J M R Q n0 pc L (rest) es k ks := by
  subst hn
  exact J.stk (st' := .int v :: rest) (fun ad hx hb ho ht hw => lv_sipush hx hb d hv hw) (fun n h => ws_cons (okV_int _ _) h) h
theorem J_lconst {M : MI} {R : Room} {Q : Res → List ME → Prop} {n0 pc nx : Nat} {L : List (Option Value)} {rest : List Value} {es : List ME} {k ks : Nat} {i : Fin 2} {v : Int64} (hv : Int64.ofNat (i : Nat) = v) (d : decode M.2.1 pc = .ok (.lconst i, 1)) (hn : pc + 1 = nx) (h : J M R Q n0 nx L (.long v :: rest) es k ks) : J M R Q n0 pc L (rest) es k ks := by
  subst hn
  exact J.stk (st' := .long v :: rest) (fun ad hx hb ho ht hw => lv_lconst hx hb d hv hw) (fun n h => ws_cons (okV_long _ _) h) h
theorem J_ldc {M : MI} {R : Room} {Q : Res → List ME → Prop} {n0 pc nx : Nat} {L : List (Option Value)} {rest : List Value} {es : List ME} {k ks : Nat} {i : Nat} {v : Int32} (lk : Cond.constant M.1.cls i v ∈ TT) (d : decode M.2.1 pc = .ok (.ldc i, 2)) (hn : pc + 2 = nx) (h : J M R Q n0 nx L (.int v :: rest) es k ks) : J M R Q n0 pc L (rest) es k ks := by
  subst hn
  exact J.stk (st' := .int v :: rest) (fun ad hx hb ho ht hw => lv_ldc hx hb ho (ht _ lk) d hw) (fun n h => ws_cons (okV_int _ _) h) h
theorem J_ldcw {M : MI} {R : Room} {Q : Res → List ME → Prop} {n0 pc nx : Nat} {L : List (Option Value)} {rest : List Value} {es : List ME} {k ks : Nat} {i : Nat} {v : Int32} (lk : Cond.constant M.1.cls i v ∈ TT) (d : decode M.2.1 pc = .ok (.ldc_w i, 3)) (hn : pc + 3 = nx) (h : J M R Q n0 nx L (.int v :: rest) es k ks) : J M R Q n0 pc L (rest) es k ks := by
  subst hn
  exact J.stk (st' := .int v :: rest) (fun ad hx hb ho ht hw => lv_ldcw hx hb ho (ht _ lk) d hw) (fun n h => ws_cons (okV_int _ _) h) h
theorem J_ldc2 {M : MI} {R : Room} {Q : Res → List ME → Prop} {n0 pc nx : Nat} {L : List (Option Value)} {rest : List Value} {es : List ME} {k ks : Nat} {i : Nat} {v : Int64} (lk : Cond.constantLong M.1.cls i v ∈ TT) (d : decode M.2.1 pc = .ok (.ldc2_w i, 3)) (hn : pc + 3 = nx) (h : J M R Q n0 nx L (.long v :: rest) es k ks) : J M R Q n0 pc L (rest) es k ks := by
  subst hn
  exact J.stk (st' := .long v :: rest) (fun ad hx hb ho ht hw => lv_ldc2 hx hb ho (ht _ lk) d hw) (fun n h => ws_cons (okV_long _ _) h) h
theorem J_null {M : MI} {R : Room} {Q : Res → List ME → Prop} {n0 pc nx : Nat} {L : List (Option Value)} {rest : List Value} {es : List ME} {k ks : Nat}  (d : decode M.2.1 pc = .ok (.aconst_null, 1)) (hn : pc + 1 = nx) (h : J M R Q n0 nx L (.null :: rest) es k ks) : J M R Q n0 pc L (rest) es k ks := by
  subst hn
  exact J.stk (st' := .null :: rest) (fun ad hx hb ho ht hw => lv_null hx hb d hw) (fun n h => ws_cons (okV_null _) h) h
theorem J_dup {M : MI} {R : Room} {Q : Res → List ME → Prop} {n0 pc nx : Nat} {L : List (Option Value)} {rest : List Value} {es : List ME} {k ks : Nat} {v : Value} (hv : v.category = 1) (d : decode M.2.1 pc = .ok (.dup, 1)) (hn : pc + 1 = nx) (h : J M R Q n0 nx L (v :: v :: rest) es k ks) : J M R Q n0 pc L (v :: rest) es k ks := by
  subst hn
  exact J.stk (st' := v :: v :: rest) (fun ad hx hb ho ht hw => lv_dup hx hb d ((rv_cat ad v).trans hv) hw) (fun n h => ws_cons (h _ List.mem_cons_self) h) h
theorem J_dup2 {M : MI} {R : Room} {Q : Res → List ME → Prop} {n0 pc nx : Nat} {L : List (Option Value)} {rest : List Value} {es : List ME} {k ks : Nat} {v w : Value} (hv : v.category = 1) (hw2 : w.category = 1) (d : decode M.2.1 pc = .ok (.dup2, 1)) (hn : pc + 1 = nx) (h : J M R Q n0 nx L (v :: w :: v :: w :: rest) es k ks) : J M R Q n0 pc L (v :: w :: rest) es k ks := by
  subst hn
  exact J.stk (st' := v :: w :: v :: w :: rest) (fun ad hx hb ho ht hw => lv_dup2_11 hx hb d ((rv_cat ad v).trans hv) ((rv_cat ad w).trans hw2) hw) (fun n h => ws_cons (h _ List.mem_cons_self) (ws_cons (h _ (List.mem_cons_of_mem _ List.mem_cons_self)) h)) h
theorem J_pop {M : MI} {R : Room} {Q : Res → List ME → Prop} {n0 pc nx : Nat} {L : List (Option Value)} {rest : List Value} {es : List ME} {k ks : Nat} {v : Value} (hv : v.category = 1) (d : decode M.2.1 pc = .ok (.pop, 1)) (hn : pc + 1 = nx) (h : J M R Q n0 nx L (rest) es k ks) : J M R Q n0 pc L (v :: rest) es k ks := by
  subst hn
  exact J.stk (st' := rest) (fun ad hx hb ho ht hw => lv_pop hx hb d ((rv_cat ad v).trans hv) hw) (fun n h => (ws_tl h)) h
theorem J_pop2 {M : MI} {R : Room} {Q : Res → List ME → Prop} {n0 pc nx : Nat} {L : List (Option Value)} {rest : List Value} {es : List ME} {k ks : Nat} {v : Value} (hv : v.category = 2) (d : decode M.2.1 pc = .ok (.pop2, 1)) (hn : pc + 1 = nx) (h : J M R Q n0 nx L (rest) es k ks) : J M R Q n0 pc L (v :: rest) es k ks := by
  subst hn
  exact J.stk (st' := rest) (fun ad hx hb ho ht hw => lv_pop2_2 hx hb d ((rv_cat ad v).trans hv) hw) (fun n h => (ws_tl h)) h
theorem J_goto {M : MI} {R : Room} {Q : Res → List ME → Prop} {n0 pc nx : Nat} {L : List (Option Value)} {rest : List Value} {es : List ME} {k ks : Nat} {off : Int} (d : decode M.2.1 pc = .ok (.goto off, 3)) (hn : (pc : Int) + off = (nx : Int)) (h : J M R Q n0 nx L (rest) es k ks) : J M R Q n0 pc L (rest) es k ks :=
  J.stk (fun ad hx hb ho ht hw => lv_goto hx hb d hn hw) (fun n h => h) h
theorem J_icmp_eq {M : MI} {R : Room} {Q : Res → List ME → Prop} {n0 pc nx : Nat} {L : List (Option Value)} {rest : List Value} {es : List ME} {k ks : Nat} {tgt : Nat} {x y : Int32} {off : Int} (d : decode M.2.1 pc = .ok (.if_icmp .eq off, 3)) (hn : pc + 3 = nx) (hj : (pc : Int) + off = (tgt : Int)) (ht : (x = y) → J M R Q n0 tgt L (rest) es k ks) (hf : ¬ (x = y) → J M R Q n0 nx L (rest) es k ks) : J M R Q n0 pc L (.int y :: .int x :: rest) es k ks := by
  subst hn
  exact J.br (st' := rest) ((x = y)) (fun ad hx hb kt kf => lv_icmp_eq hx hb d hj kt kf) (fun n h => (ws_tl (ws_tl h))) ht hf
theorem J_if_eq {M : MI} {R : Room} {Q : Res → List ME → Prop} {n0 pc nx : Nat} {L : List (Option Value)} {rest : List Value} {es : List ME} {k ks : Nat} {tgt : Nat} {x : Int32} {off : Int} (d : decode M.2.1 pc = .ok (.ifCond .eq off, 3)) (hn : pc + 3 = nx) (hj : (pc : Int) + off = (tgt : Int)) (ht : (x = 0) → J M R Q n0 tgt L (rest) es k ks) (hf : ¬ (x = 0) → J M R Q n0 nx L (rest) es k ks) : J M R Q n0 pc L (.int x :: rest) es k ks := by
  subst hn
  exact J.br (st' := rest) ((x = 0)) (fun ad hx hb kt kf => lv_if_eq hx hb d hj kt kf) (fun n h => (ws_tl h)) ht hf
theorem J_icmp_ne {M : MI} {R : Room} {Q : Res → List ME → Prop} {n0 pc nx : Nat} {L : List (Option Value)} {rest : List Value} {es : List ME} {k ks : Nat} {tgt : Nat} {x y : Int32} {off : Int} (d : decode M.2.1 pc = .ok (.if_icmp .ne off, 3)) (hn : pc + 3 = nx) (hj : (pc : Int) + off = (tgt : Int)) (ht : (¬ x = y) → J M R Q n0 tgt L (rest) es k ks) (hf : (x = y) → J M R Q n0 nx L (rest) es k ks) : J M R Q n0 pc L (.int y :: .int x :: rest) es k ks := by
  subst hn
  exact J.br (st' := rest) ((¬ x = y)) (fun ad hx hb kt kf => lv_icmp_ne hx hb d hj kt (fun z => kf (fun w => w z))) (fun n h => (ws_tl (ws_tl h))) ht (fun z => hf (Decidable.not_not.mp z))
theorem J_if_ne {M : MI} {R : Room} {Q : Res → List ME → Prop} {n0 pc nx : Nat} {L : List (Option Value)} {rest : List Value} {es : List ME} {k ks : Nat} {tgt : Nat} {x : Int32} {off : Int} (d : decode M.2.1 pc = .ok (.ifCond .ne off, 3)) (hn : pc + 3 = nx) (hj : (pc : Int) + off = (tgt : Int)) (ht : (¬ x = 0) → J M R Q n0 tgt L (rest) es k ks) (hf : (x = 0) → J M R Q n0 nx L (rest) es k ks) : J M R Q n0 pc L (.int x :: rest) es k ks := by
  subst hn
  exact J.br (st' := rest) ((¬ x = 0)) (fun ad hx hb kt kf => lv_if_ne hx hb d hj kt (fun z => kf (fun w => w z))) (fun n h => (ws_tl h)) ht (fun z => hf (Decidable.not_not.mp z))
theorem J_icmp_lt {M : MI} {R : Room} {Q : Res → List ME → Prop} {n0 pc nx : Nat} {L : List (Option Value)} {rest : List Value} {es : List ME} {k ks : Nat} {tgt : Nat} {x y : Int32} {off : Int} (d : decode M.2.1 pc = .ok (.if_icmp .lt off, 3)) (hn : pc + 3 = nx) (hj : (pc : Int) + off = (tgt : Int)) (ht : (x < y) → J M R Q n0 tgt L (rest) es k ks) (hf : ¬ (x < y) → J M R Q n0 nx L (rest) es k ks) : J M R Q n0 pc L (.int y :: .int x :: rest) es k ks := by
  subst hn
  exact J.br (st' := rest) ((x < y)) (fun ad hx hb kt kf => lv_icmp_lt hx hb d hj kt kf) (fun n h => (ws_tl (ws_tl h))) ht hf
theorem J_if_lt {M : MI} {R : Room} {Q : Res → List ME → Prop} {n0 pc nx : Nat} {L : List (Option Value)} {rest : List Value} {es : List ME} {k ks : Nat} {tgt : Nat} {x : Int32} {off : Int} (d : decode M.2.1 pc = .ok (.ifCond .lt off, 3)) (hn : pc + 3 = nx) (hj : (pc : Int) + off = (tgt : Int)) (ht : (x < 0) → J M R Q n0 tgt L (rest) es k ks) (hf : ¬ (x < 0) → J M R Q n0 nx L (rest) es k ks) : J M R Q n0 pc L (.int x :: rest) es k ks := by
  subst hn
  exact J.br (st' := rest) ((x < 0)) (fun ad hx hb kt kf => lv_if_lt hx hb d hj kt kf) (fun n h => (ws_tl h)) ht hf
theorem J_icmp_ge {M : MI} {R : Room} {Q : Res → List ME → Prop} {n0 pc nx : Nat} {L : List (Option Value)} {rest : List Value} {es : List ME} {k ks : Nat} {tgt : Nat} {x y : Int32} {off : Int} (d : decode M.2.1 pc = .ok (.if_icmp .ge off, 3)) (hn : pc + 3 = nx) (hj : (pc : Int) + off = (tgt : Int)) (ht : (y ≤ x) → J M R Q n0 tgt L (rest) es k ks) (hf : ¬ (y ≤ x) → J M R Q n0 nx L (rest) es k ks) : J M R Q n0 pc L (.int y :: .int x :: rest) es k ks := by
  subst hn
  exact J.br (st' := rest) ((y ≤ x)) (fun ad hx hb kt kf => lv_icmp_ge hx hb d hj kt kf) (fun n h => (ws_tl (ws_tl h))) ht hf
theorem J_if_ge {M : MI} {R : Room} {Q : Res → List ME → Prop} {n0 pc nx : Nat} {L : List (Option Value)} {rest : List Value} {es : List ME} {k ks : Nat} {tgt : Nat} {x : Int32} {off : Int} (d : decode M.2.1 pc = .ok (.ifCond .ge off, 3)) (hn : pc + 3 = nx) (hj : (pc : Int) + off = (tgt : Int)) (ht : (0 ≤ x) → J M R Q n0 tgt L (rest) es k ks) (hf : ¬ (0 ≤ x) → J M R Q n0 nx L (rest) es k ks) : J M R Q n0 pc L (.int x :: rest) es k ks := by
  subst hn
  exact J.br (st' := rest) ((0 ≤ x)) (fun ad hx hb kt kf => lv_if_ge hx hb d hj kt kf) (fun n h => (ws_tl h)) ht hf
theorem J_icmp_gt {M : MI} {R : Room} {Q : Res → List ME → Prop} {n0 pc nx : Nat} {L : List (Option Value)} {rest : List Value} {es : List ME} {k ks : Nat} {tgt : Nat} {x y : Int32} {off : Int} (d : decode M.2.1 pc = .ok (.if_icmp .gt off, 3)) (hn : pc + 3 = nx) (hj : (pc : Int) + off = (tgt : Int)) (ht : (y < x) → J M R Q n0 tgt L (rest) es k ks) (hf : ¬ (y < x) → J M R Q n0 nx L (rest) es k ks) : J M R Q n0 pc L (.int y :: .int x :: rest) es k ks := by
  subst hn
  exact J.br (st' := rest) ((y < x)) (fun ad hx hb kt kf => lv_icmp_gt hx hb d hj kt kf) (fun n h => (ws_tl (ws_tl h))) ht hf
theorem J_if_gt {M : MI} {R : Room} {Q : Res → List ME → Prop} {n0 pc nx : Nat} {L : List (Option Value)} {rest : List Value} {es : List ME} {k ks : Nat} {tgt : Nat} {x : Int32} {off : Int} (d : decode M.2.1 pc = .ok (.ifCond .gt off, 3)) (hn : pc + 3 = nx) (hj : (pc : Int) + off = (tgt : Int)) (ht : (0 < x) → J M R Q n0 tgt L (rest) es k ks) (hf : ¬ (0 < x) → J M R Q n0 nx L (rest) es k ks) : J M R Q n0 pc L (.int x :: rest) es k ks := by
  subst hn
  exact J.br (st' := rest) ((0 < x)) (fun ad hx hb kt kf => lv_if_gt hx hb d hj kt kf) (fun n h => (ws_tl h)) ht hf
theorem J_icmp_le {M : MI} {R : Room} {Q : Res → List ME → Prop} {n0 pc nx : Nat} {L : List (Option Value)} {rest : List Value} {es : List ME} {k ks : Nat} {tgt : Nat} {x y : Int32} {off : Int} (d : decode M.2.1 pc = .ok (.if_icmp .le off, 3)) (hn : pc + 3 = nx) (hj : (pc : Int) + off = (tgt : Int)) (ht : (x ≤ y) → J M R Q n0 tgt L (rest) es k ks) (hf : ¬ (x ≤ y) → J M R Q n0 nx L (rest) es k ks) : J M R Q n0 pc L (.int y :: .int x :: rest) es k ks := by
  subst hn
  exact J.br (st' := rest) ((x ≤ y)) (fun ad hx hb kt kf => lv_icmp_le hx hb d hj kt kf) (fun n h => (ws_tl (ws_tl h))) ht hf
theorem J_if_le {M : MI} {R : Room} {Q : Res → List ME → Prop} {n0 pc nx : Nat} {L : List (Option Value)} {rest : List Value} {es : List ME} {k ks : Nat} {tgt : Nat} {x : Int32} {off : Int} (d : decode M.2.1 pc = .ok (.ifCond .le off, 3)) (hn : pc + 3 = nx) (hj : (pc : Int) + off = (tgt : Int)) (ht : (x ≤ 0) → J M R Q n0 tgt L (rest) es k ks) (hf : ¬ (x ≤ 0) → J M R Q n0 nx L (rest) es k ks) : J M R Q n0 pc L (.int x :: rest) es k ks := by
  subst hn
  exact J.br (st' := rest) ((x ≤ 0)) (fun ad hx hb kt kf => lv_if_le hx hb d hj kt kf) (fun n h => (ws_tl h)) ht hf
theorem J.ld {M : MI} {R : Room} {Q : Res → List ME → Prop} {n0 pc nx : Nat} {L : List (Option Value)} {rest : List Value} {es : List ME} {k ks : Nat} {i : Nat} {v : Value} (hv : L[i]? = some (some v))
    (h : ∀ {p : Program} {l : Launch} {e : Env} {s : State} {m : MethodId} {args : Array Value} {below : List Frame} {meth : Method} {c : Code} {H : Heap} {locs : List Loc} {ls : Array Slot} {Qf : State → Prop} (ad : Nat → Nat), p.tables.exec = Jvm.exec → c.code = M.2.1 → ls[i]? = some (.val (rv ad v)) → W p l e R s m args below meth c H locs k ks Qf (F0 m nx ls (rv ad v :: rest.map (rv ad))) → W p l e R s m args below meth c H locs k ks Qf (F0 m pc ls (rest.map (rv ad))))
    (hk : J M R Q n0 nx L (v :: rest) es k ks) : J M R Q n0 pc L (rest) es k ks :=
  fun p l e s m args below meth c D cA ad0 A B0 H locs ls ad hC hR => h ad hC.1.1 hC.1.2.1 (hR.2.2.1.2.2 i v hv) (hk p l e s m args below meth c D cA ad0 A B0 H locs ls ad hC ⟨hR.1, hR.2.1, hR.2.2.1, ws_cons (hR.2.2.2.2 i v hv) hR.2.2.2.1, hR.2.2.2.2⟩)
theorem J_iload_n {M : MI} {R : Room} {Q : Res → List ME → Prop} {n0 pc nx : Nat} {L : List (Option Value)} {rest : List Value} {es : List ME} {k ks : Nat} {q : Fin 4} {x : Int32} (d : decode M.2.1 pc = .ok (.iload_n q, 1)) (hn : pc + 1 = nx) (hv : L[(q : Nat)]? = some (some (.int x))) (h : J M R Q n0 nx L (.int x :: rest) es k ks) : J M R Q n0 pc L (rest) es k ks := by
  subst hn
  exact J.ld hv (fun ad hx hb hl hw => lv_iload_n hx hb d rfl hl hw) h
theorem J_iload {M : MI} {R : Room} {Q : Res → List ME → Prop} {n0 pc nx : Nat} {L : List (Option Value)} {rest : List Value} {es : List ME} {k ks : Nat} {i : Nat} {x : Int32} (d : decode M.2.1 pc = .ok (.iload i, 2)) (hn : pc + 2 = nx) (hv : L[i]? = some (some (.int x))) (h : J M R Q n0 nx L (.int x :: rest) es k ks) : J M R Q n0 pc L (rest) es k ks := by
  subst hn
  exact J.ld hv (fun ad hx hb hl hw => lv_iload hx hb d hl hw) h
theorem J_lload_n {M : MI} {R : Room} {Q : Res → List ME → Prop} {n0 pc nx : Nat} {L : List (Option Value)} {rest : List Value} {es : List ME} {k ks : Nat} {q : Fin 4} {x : Int64} (d : decode M.2.1 pc = .ok (.lload_n q, 1)) (hn : pc + 1 = nx) (hv : L[(q : Nat)]? = some (some (.long x))) (h : J M R Q n0 nx L (.long x :: rest) es k ks) : J M R Q n0 pc L (rest) es k ks := by
  subst hn
  exact J.ld hv (fun ad hx hb hl hw => lv_lload_n hx hb d rfl hl hw) h
theorem J_lload {M : MI} {R : Room} {Q : Res → List ME → Prop} {n0 pc nx : Nat} {L : List (Option Value)} {rest : List Value} {es : List ME} {k ks : Nat} {i : Nat} {x : Int64} (d : decode M.2.1 pc = .ok (.lload i, 2)) (hn : pc + 2 = nx) (hv : L[i]? = some (some (.long x))) (h : J M R Q n0 nx L (.long x :: rest) es k ks) : J M R Q n0 pc L (rest) es k ks := by
  subst hn
  exact J.ld hv (fun ad hx hb hl hw => lv_lload hx hb d hl hw) h
theorem J_aload_n {M : MI} {R : Room} {Q : Res → List ME → Prop} {n0 pc nx : Nat} {L : List (Option Value)} {rest : List Value} {es : List ME} {k ks : Nat} {q : Fin 4} {x : Nat} (d : decode M.2.1 pc = .ok (.aload_n q, 1)) (hn : pc + 1 = nx) (hv : L[(q : Nat)]? = some (some (.ref x))) (h : J M R Q n0 nx L (.ref x :: rest) es k ks) : J M R Q n0 pc L (rest) es k ks := by
  subst hn
  exact J.ld hv (fun ad hx hb hl hw => lv_aload_n hx hb d rfl hl hw) h
theorem J_aload {M : MI} {R : Room} {Q : Res → List ME → Prop} {n0 pc nx : Nat} {L : List (Option Value)} {rest : List Value} {es : List ME} {k ks : Nat} {i : Nat} {x : Nat} (d : decode M.2.1 pc = .ok (.aload i, 2)) (hn : pc + 2 = nx) (hv : L[i]? = some (some (.ref x))) (h : J M R Q n0 nx L (.ref x :: rest) es k ks) : J M R Q n0 pc L (rest) es k ks := by
  subst hn
  exact J.ld hv (fun ad hx hb hl hw => lv_aload hx hb d hl hw) h
theorem J.st1 {M : MI} {R : Room} {Q : Res → List ME → Prop} {n0 pc nx : Nat} {L : List (Option Value)} {rest : List Value} {es : List ME} {k ks : Nat} {i : Nat} {v : Value} (hc : c2 L i = true)
    (h : ∀ {p : Program} {l : Launch} {e : Env} {s : State} {m : MethodId} {args : Array Value} {below : List Frame} {meth : Method} {c : Code} {H : Heap} {locs : List Loc} {ls : Array Slot} {Qf : State → Prop} (ad : Nat → Nat), p.tables.exec = Jvm.exec → c.code = M.2.1 → lv_has ls M.2.2.1 (lvs ad L) → (∀ ls' : Array Slot, lv_has ls' M.2.2.1 ((i, rv ad v) :: (lvs ad L).filter (fun q => !(q.1 == i) && !(q.1 + 1 == i && q.2.category == 2))) → W p l e R s m args below meth c H locs k ks Qf (F0 m nx ls' (rest.map (rv ad)))) → W p l e R s m args below meth c H locs k ks Qf (F0 m pc ls (rv ad v :: rest.map (rv ad))))
    (hk : J M R Q n0 nx (L.set i (some v)) (rest) es k ks) : J M R Q n0 pc L (v :: rest) es k ks := by
  intro p l e s m args below meth c D cA ad0 A B0 H locs ls ad hC hR
  refine h ad hC.1.1 hC.1.2.1 hR.2.2.1.has (fun ls' hl' => hk p l e s m args below meth c D cA ad0 A B0 H locs ls' ad hC ⟨hR.1, hR.2.1, jL.set1 rfl hc hl', ws_tl hR.2.2.2.1, ?_⟩)
  exact fun j w hj => by
    by_cases hi : i = j
    · subst hi
      have hl : i < L.length := by
        have := (List.getElem?_eq_some_iff.mp hj).1
        rwa [List.length_set] at this
      rw [List.getElem?_set_self hl] at hj
      cases hj
      exact hR.2.2.2.1 _ List.mem_cons_self
    · rw [List.getElem?_set_ne hi] at hj
      exact hR.2.2.2.2 j w hj
theorem J.st2 {M : MI} {R : Room} {Q : Res → List ME → Prop} {n0 pc nx : Nat} {L : List (Option Value)} {rest : List Value} {es : List ME} {k ks : Nat} {i : Nat} {v : Value} (hc : c2 L i = true)
    (h : ∀ {p : Program} {l : Launch} {e : Env} {s : State} {m : MethodId} {args : Array Value} {below : List Frame} {meth : Method} {c : Code} {H : Heap} {locs : List Loc} {ls : Array Slot} {Qf : State → Prop} (ad : Nat → Nat), p.tables.exec = Jvm.exec → c.code = M.2.1 → lv_has ls M.2.2.1 (lvs ad L) → (∀ ls' : Array Slot, lv_has ls' M.2.2.1 ((i, rv ad v) :: (lvs ad L).filter (fun q => !(q.1 == i) && (!(q.1 == i + 1) && !(q.1 + 1 == i && q.2.category == 2)))) → W p l e R s m args below meth c H locs k ks Qf (F0 m nx ls' (rest.map (rv ad)))) → W p l e R s m args below meth c H locs k ks Qf (F0 m pc ls (rv ad v :: rest.map (rv ad))))
    (hk : J M R Q n0 nx ((L.set i (some v)).set (i + 1) none) (rest) es k ks) : J M R Q n0 pc L (v :: rest) es k ks := by
  intro p l e s m args below meth c D cA ad0 A B0 H locs ls ad hC hR
  refine h ad hC.1.1 hC.1.2.1 hR.2.2.1.has (fun ls' hl' => hk p l e s m args below meth c D cA ad0 A B0 H locs ls' ad hC ⟨hR.1, hR.2.1, jL.set2 rfl hc hl', ws_tl hR.2.2.2.1, ?_⟩)
  exact fun j w hj => by
    by_cases hi1 : i + 1 = j
    · subst hi1
      have hl : i + 1 < ((L.set i (some v)).length) := by
        have := (List.getElem?_eq_some_iff.mp hj).1
        rwa [List.length_set] at this
      rw [List.getElem?_set_self hl] at hj
      cases hj
    · rw [List.getElem?_set_ne hi1] at hj
      by_cases hi : i = j
      · subst hi
        have hl : i < L.length := by
          have := (List.getElem?_eq_some_iff.mp hj).1
          rwa [List.length_set] at this
        rw [List.getElem?_set_self hl] at hj
        cases hj
        exact hR.2.2.2.1 _ List.mem_cons_self
      · rw [List.getElem?_set_ne hi] at hj
        exact hR.2.2.2.2 j w hj
theorem J_istore_n {M : MI} {R : Room} {Q : Res → List ME → Prop} {n0 pc nx : Nat} {L : List (Option Value)} {rest : List Value} {es : List ME} {k ks : Nat} {q : Fin 4} {x : Int32} (d : decode M.2.1 pc = .ok (.istore_n q, 1)) (hn : pc + 1 = nx) (hc : c2 L (q : Nat) = true) (hi : (q : Nat) < M.2.2.1) (h : J M R Q n0 nx (L.set (q : Nat) (some (.int x))) (rest) es k ks) : J M R Q n0 pc L (.int x :: rest) es k ks := by
  subst hn
  exact J.st1 hc (fun ad hx hb hl hw => lv_istore_n hx hb d rfl hl hi rfl hw) h
theorem J_istore {M : MI} {R : Room} {Q : Res → List ME → Prop} {n0 pc nx : Nat} {L : List (Option Value)} {rest : List Value} {es : List ME} {k ks : Nat} {i : Nat} {x : Int32} (d : decode M.2.1 pc = .ok (.istore i, 2)) (hn : pc + 2 = nx) (hc : c2 L i = true) (hi : i < M.2.2.1) (h : J M R Q n0 nx (L.set i (some (.int x))) (rest) es k ks) : J M R Q n0 pc L (.int x :: rest) es k ks := by
  subst hn
  exact J.st1 hc (fun ad hx hb hl hw => lv_istore hx hb d hl hi rfl hw) h
theorem J_lstore_n {M : MI} {R : Room} {Q : Res → List ME → Prop} {n0 pc nx : Nat} {L : List (Option Value)} {rest : List Value} {es : List ME} {k ks : Nat} {q : Fin 4} {x : Int64} (d : decode M.2.1 pc = .ok (.lstore_n q, 1)) (hn : pc + 1 = nx) (hc : c2 L (q : Nat) = true) (hi : (q : Nat) + 1 < M.2.2.1) (h : J M R Q n0 nx ((L.set (q : Nat) (some (.long x))).set ((q : Nat) + 1) none) (rest) es k ks) : J M R Q n0 pc L (.long x :: rest) es k ks := by
  subst hn
  exact J.st2 hc (fun ad hx hb hl hw => lv_lstore_n hx hb d rfl hl hi rfl hw) h
theorem J_lstore {M : MI} {R : Room} {Q : Res → List ME → Prop} {n0 pc nx : Nat} {L : List (Option Value)} {rest : List Value} {es : List ME} {k ks : Nat} {i : Nat} {x : Int64} (d : decode M.2.1 pc = .ok (.lstore i, 2)) (hn : pc + 2 = nx) (hc : c2 L i = true) (hi : i + 1 < M.2.2.1) (h : J M R Q n0 nx ((L.set i (some (.long x))).set (i + 1) none) (rest) es k ks) : J M R Q n0 pc L (.long x :: rest) es k ks := by
  subst hn
  exact J.st2 hc (fun ad hx hb hl hw => lv_lstore hx hb d hl hi rfl hw) h
theorem J_astore_n {M : MI} {R : Room} {Q : Res → List ME → Prop} {n0 pc nx : Nat} {L : List (Option Value)} {rest : List Value} {es : List ME} {k ks : Nat} {q : Fin 4} {x : Nat} (d : decode M.2.1 pc = .ok (.astore_n q, 1)) (hn : pc + 1 = nx) (hc : c2 L (q : Nat) = true) (hi : (q : Nat) < M.2.2.1) (h : J M R Q n0 nx (L.set (q : Nat) (some (.ref x))) (rest) es k ks) : J M R Q n0 pc L (.ref x :: rest) es k ks := by
  subst hn
  exact J.st1 hc (fun ad hx hb hl hw => lv_astore_n hx hb d rfl hl hi rfl hw) h
theorem J_astore {M : MI} {R : Room} {Q : Res → List ME → Prop} {n0 pc nx : Nat} {L : List (Option Value)} {rest : List Value} {es : List ME} {k ks : Nat} {i : Nat} {x : Nat} (d : decode M.2.1 pc = .ok (.astore i, 2)) (hn : pc + 2 = nx) (hc : c2 L i = true) (hi : i < M.2.2.1) (h : J M R Q n0 nx (L.set i (some (.ref x))) (rest) es k ks) : J M R Q n0 pc L (.ref x :: rest) es k ks := by
  subst hn
  exact J.st1 hc (fun ad hx hb hl hw => lv_astore hx hb d hl hi rfl hw) h
theorem J_iinc {M : MI} {R : Room} {Q : Res → List ME → Prop} {n0 pc nx : Nat} {L : List (Option Value)} {rest : List Value} {es : List ME} {k ks : Nat} {i : Nat} {n : Int} {x : Int32} (d : decode M.2.1 pc = .ok (.iinc i n, 3)) (hn : pc + 3 = nx) (hv : L[i]? = some (some (.int x))) (hc : c2 L i = true) (hi : i < M.2.2.1) (h : J M R Q n0 nx (L.set i (some (.int (x + Int32.ofInt n)))) (rest) es k ks) : J M R Q n0 pc L (rest) es k ks := by
  subst hn
  intro p l e s m args below meth c D cA ad0 A B0 H locs ls ad hC hR
  have h0 : lv_has ls M.2.2.1 ((i, .int x) :: lvs ad L) := ⟨hR.2.2.1.1, hR.2.2.1.2.1, fun q hq => by
    rcases List.mem_cons.mp hq with rfl | hq
    · exact hR.2.2.1.2.2 i _ hv
    · exact hR.2.2.1.has.2.2 q hq⟩
  refine lv_iinc (v := x + Int32.ofInt n) hC.1.1 hC.1.2.1 d h0 (k := 0) rfl rfl hi rfl (fun ls' hl' => ?_)
  have hl2 : lv_has ls' M.2.2.1 ((i, .int (x + Int32.ofInt n)) :: (lvs ad L).filter (fun q => !(q.1 == i) && !(q.1 + 1 == i && q.2.category == 2))) := ⟨hl'.1, hl'.2.1, fun q hq => hl'.2.2 q (by
    rcases List.mem_cons.mp hq with rfl | hq
    · exact List.mem_cons_self
    · refine List.mem_cons_of_mem _ ?_
      obtain ⟨g1, g2⟩ := List.mem_filter.mp hq
      exact List.mem_filter.mpr ⟨List.mem_cons_of_mem _ g1, g2⟩)⟩
  refine h p l e s m args below meth c D cA ad0 A B0 H locs ls' ad hC ⟨hR.1, hR.2.1, jL.set1 (v := .int (x + Int32.ofInt n)) rfl hc hl2, hR.2.2.2.1, fun j w hj => ?_⟩
  by_cases hij : i = j
  · subst hij
    have hl : i < L.length := by
      have := (List.getElem?_eq_some_iff.mp hj).1
      rwa [List.length_set] at this
    rw [List.getElem?_set_self hl] at hj
    cases hj
    exact okV_int _ _
  · rw [List.getElem?_set_ne hij] at hj
    exact hR.2.2.2.2 j w hj
/-- a place that is used anew: what stood there is forgotten -/
theorem J_kill {M : MI} {R : Room} {Q : Res → List ME → Prop} {n0 pc nx : Nat} {L : List (Option Value)} {rest : List Value} {es : List ME} {k ks : Nat} (i : Nat) (h : J M R Q n0 pc (L.set i none) (rest) es k ks) : J M R Q n0 pc L (rest) es k ks := by
  intro p l e s m args below meth c D cA ad0 A B0 H locs ls ad hC hR
  refine h p l e s m args below meth c D cA ad0 A B0 H locs ls ad hC ⟨hR.1, hR.2.1, jL.kill hR.2.2.1, hR.2.2.2.1, fun j w hj => ?_⟩
  by_cases hij : i = j
  · subst hij
    have hl : i < L.length := by
      have := (List.getElem?_eq_some_iff.mp hj).1
      rwa [List.length_set] at this
    rw [List.getElem?_set_self hl] at hj
    cases hj
  · rw [List.getElem?_set_ne hij] at hj
    exact hR.2.2.2.2 j w hj
theorem J_iret {M : MI} {R : Room} {Q : Res → List ME → Prop} {n0 pc nx : Nat} {L : List (Option Value)} {rest : List Value} {es : List ME} {k ks : Nat} {v : Int32} (d : decode M.2.1 pc = .ok (.ireturn, 1)) (hr : M.2.2.2 = some .int) (hk : k ≤ R.cells) (hks : ks ≤ R.slots) (hq : Q (.inl (some (.int v))) es) : J M R Q n0 pc L ([.int v]) es k ks := by
  intro p l e s m args below meth c D cA ad0 A B0 H locs ls ad hC hR
  have hlocks := hC.2.1.1
  refine W.widen hk hks (vx_ret ?_)
  exact W.iret (v := v) hC.1.1 hC.1.2.1 (hC.1.2.2.2.1.trans hr) (fun t ht hW => ⟨⟨some (.int v), es, ad, rfl, hq, by rw [ht]; exact hR.1, va_K.moved hW.alike hC.2.2.2.1, fun w hw => by cases hw; exact okV_int _ _⟩, hR.2.1.F ht⟩) hR.2.1.2.2 d
theorem J_lret {M : MI} {R : Room} {Q : Res → List ME → Prop} {n0 pc nx : Nat} {L : List (Option Value)} {rest : List Value} {es : List ME} {k ks : Nat} {v : Int64} (d : decode M.2.1 pc = .ok (.lreturn, 1)) (hr : M.2.2.2 = some .long) (hk : k ≤ R.cells) (hks : ks ≤ R.slots) (hq : Q (.inl (some (.long v))) es) : J M R Q n0 pc L ([.long v]) es k ks := by
  intro p l e s m args below meth c D cA ad0 A B0 H locs ls ad hC hR
  have hlocks := hC.2.1.1
  refine W.widen hk hks (vx_ret ?_)
  exact W.lret (v := v) hC.1.1 hC.1.2.1 (hC.1.2.2.2.1.trans hr) (fun t ht hW => ⟨⟨some (.long v), es, ad, rfl, hq, by rw [ht]; exact hR.1, va_K.moved hW.alike hC.2.2.2.1, fun w hw => by cases hw; exact okV_long _ _⟩, hR.2.1.F ht⟩) hR.2.1.2.2 d
theorem J_zret {M : MI} {R : Room} {Q : Res → List ME → Prop} {n0 pc nx : Nat} {L : List (Option Value)} {rest : List Value} {es : List ME} {k ks : Nat} {v : Int32} {ty : FieldType} (d : decode M.2.1 pc = .ok (.ireturn, 1)) (hr : M.2.2.2 = some ty) (hnr : narrow ty (.int v) = .int v) (hk : k ≤ R.cells) (hks : ks ≤ R.slots) (hq : Q (.inl (some (.int v))) es) : J M R Q n0 pc L ([.int v]) es k ks := by
  intro p l e s m args below meth c D cA ad0 A B0 H locs ls ad hC hR
  have hlocks := hC.2.1.1
  refine W.widen hk hks (vx_ret ?_)
  exact W.zret (v := v) hC.1.1 hC.1.2.1 (hC.1.2.2.2.1.trans hr) hnr (fun t ht hW => ⟨⟨some (.int v), es, ad, rfl, hq, by rw [ht]; exact hR.1, va_K.moved hW.alike hC.2.2.2.1, fun w hw => by cases hw; exact okV_int _ _⟩, hR.2.1.F ht⟩) hR.2.1.2.2 d
theorem J_vret {M : MI} {R : Room} {Q : Res → List ME → Prop} {n0 pc nx : Nat} {L : List (Option Value)} {rest : List Value} {es : List ME} {k ks : Nat} (d : decode M.2.1 pc = .ok (.return_, 1)) (hr : M.2.2.2 = none) (hk : k ≤ R.cells) (hks : ks ≤ R.slots) (hq : Q (.inl none) es) : J M R Q n0 pc L ([]) es k ks := by
  intro p l e s m args below meth c D cA ad0 A B0 H locs ls ad hC hR
  have hlocks := hC.2.1.1
  refine W.widen hk hks (vx_ret ?_)
  exact W.vret hC.1.1 hC.1.2.1 (hC.1.2.2.2.1.trans hr) (fun t ht hW => ⟨⟨none, es, ad, rfl, hq, by rw [ht]; exact hR.1, va_K.moved hW.alike hC.2.2.2.1, fun w hw => by cases hw⟩, hR.2.1.F ht⟩) hR.2.1.2.2 d
theorem J_aret {M : MI} {R : Room} {Q : Res → List ME → Prop} {n0 pc nx : Nat} {L : List (Option Value)} {rest : List Value} {es : List ME} {k ks : Nat} {v : Value} {rt : FieldType} (d : decode M.2.1 pc = .ok (.areturn, 1)) (hr : M.2.2.2 = some rt) (hrt : (∃ n, rt = .object n) ∨ ∃ t, rt = .array t) (hv : v = .null ∨ ∃ a, v = .ref a) (hk : k ≤ R.cells) (hks : ks ≤ R.slots) (hq : Q (.inl (some v)) es) : J M R Q n0 pc L ([v]) es k ks := by
  intro p l e s m args below meth c D cA ad0 A B0 H locs ls ad hC hR
  have hlocks := hC.2.1.1
  refine W.widen hk hks (vx_ret ?_)
  exact W.aret (v := rv ad v) hC.1.1 hC.1.2.1 (hC.1.2.2.2.1.trans hr) hrt (by rcases hv with rfl | ⟨a, rfl⟩; exact Or.inl rfl; exact Or.inr ⟨_, rfl⟩) (fun t ht hW => ⟨⟨some v, es, ad, rfl, hq, by rw [ht]; exact hR.1, va_K.moved hW.alike hC.2.2.2.1, fun w hw => by cases hw; exact hR.2.2.2.1 _ List.mem_cons_self⟩, hR.2.1.F ht⟩) hR.2.1.2.2 d
