/-! methods that catch: the rows once more, over a table of handlers -/
def jCx (hh : List (Nat × Nat × Nat × Nat)) (M : MI) (p : Program) (l : Launch) (s : State) (m : MethodId) (args : Array Value) (meth : Method) (c : Code) (D : va_G) (cA : Nat → ClassId) (ad0 : Nat → Nat) (A : Nat → Prop) (B0 : Nat) : Prop :=
  (p.tables.exec = Jvm.exec ∧ c.code = M.2.1 ∧ c.maxLocals = M.2.2.1 ∧ meth.sig.returnType = M.2.2.2 ∧ s.vm.findClass M.1.cls = some m.cls ∧ (∀ w ∈ TT, w.before args s = true)) ∧
  (meth.locks = false ∧ meth.name = M.1.name ∧ c.exceptionTable.toList = tableOf hh) ∧
  ((∀ q, s.heap.size ≤ q → A q) ∧ (∀ q, A q → B0 ≤ q) ∧ B0 ≤ s.heap.size) ∧ va_K D vwCl (tysA cA) s ∧ KC B0 ad0 s s.heap ∧ l.stackTraces = false
def Jx (hh : List (Nat × Nat × Nat × Nat)) (M : MI) (R : Room) (Q : Res → List ME → Prop) (n0 pc : Nat) (L : List (Option Value)) (st : List Value) (es : List ME) (k ks : Nat) : Prop :=
  ∀ (p : Program) (l : Launch) (e : Env) (s : State) (m : MethodId) (args : Array Value) (below : List Frame) (meth : Method) (c : Code) (D : va_G) (cA : Nat → ClassId) (ad0 : Nat → Nat) (A : Nat → Prop) (B0 : Nat) (H : Heap) (locs : List Loc) (ls : Array Slot) (ad : Nat → Nat),
    jCx hh M p l s m args meth c D cA ad0 A B0 → jR M n0 ad0 D cA A s H locs ls ad L st es →
    W p l e R s m args below meth c H locs k ks (vx_MQ below (jQ Q n0 ad0 D cA A) (jX Q n0 ad0 D cA A) args s R.cells R.slots A) (F0 m pc ls (st.map (rv ad)))
theorem Jx.stk {hh : List (Nat × Nat × Nat × Nat)} {M : MI} {R : Room} {Q : Res → List ME → Prop} {n0 pc nx : Nat} {L : List (Option Value)} {st st' : List Value} {es : List ME} {k ks : Nat}
    (h : ∀ {p : Program} {l : Launch} {e : Env} {s : State} {m : MethodId} {args : Array Value} {below : List Frame} {meth : Method} {c : Code} {H : Heap} {locs : List Loc} {ls : Array Slot} {Qf : State → Prop} (ad : Nat → Nat), p.tables.exec = Jvm.exec → c.code = M.2.1 → s.vm.findClass M.1.cls = some m.cls → (∀ w ∈ TT, w.before args s = true) → W p l e R s m args below meth c H locs k ks Qf (F0 m nx ls (st'.map (rv ad))) → W p l e R s m args below meth c H locs k ks Qf (F0 m pc ls (st.map (rv ad))))
    (hw : ∀ n, (∀ v ∈ st, okV n v) → ∀ v ∈ st', okV n v) (hk : Jx hh M R Q n0 nx L st' es k ks) : Jx hh M R Q n0 pc L st es k ks :=
  fun p l e s m args below meth c D cA ad0 A B0 H locs ls ad hC hR => h ad hC.1.1 hC.1.2.1 hC.1.2.2.2.2.1 hC.1.2.2.2.2.2 (hk p l e s m args below meth c D cA ad0 A B0 H locs ls ad hC ⟨hR.1, hR.2.1, hR.2.2.1, hw _ hR.2.2.2.1, hR.2.2.2.2⟩)
theorem Jx.ld {hh : List (Nat × Nat × Nat × Nat)} {M : MI} {R : Room} {Q : Res → List ME → Prop} {n0 pc nx : Nat} {L : List (Option Value)} {rest : List Value} {es : List ME} {k ks : Nat} {i : Nat} {v : Value} (hv : L[i]? = some (some v))
    (h : ∀ {p : Program} {l : Launch} {e : Env} {s : State} {m : MethodId} {args : Array Value} {below : List Frame} {meth : Method} {c : Code} {H : Heap} {locs : List Loc} {ls : Array Slot} {Qf : State → Prop} (ad : Nat → Nat), p.tables.exec = Jvm.exec → c.code = M.2.1 → ls[i]? = some (.val (rv ad v)) → W p l e R s m args below meth c H locs k ks Qf (F0 m nx ls (rv ad v :: rest.map (rv ad))) → W p l e R s m args below meth c H locs k ks Qf (F0 m pc ls (rest.map (rv ad))))
    (hk : Jx hh M R Q n0 nx L (v :: rest) es k ks) : Jx hh M R Q n0 pc L (rest) es k ks :=
  fun p l e s m args below meth c D cA ad0 A B0 H locs ls ad hC hR => h ad hC.1.1 hC.1.2.1 (hR.2.2.1.2.2 i v hv) (hk p l e s m args below meth c D cA ad0 A B0 H locs ls ad hC ⟨hR.1, hR.2.1, hR.2.2.1, ws_cons (hR.2.2.2.2 i v hv) hR.2.2.2.1, hR.2.2.2.2⟩)
theorem Jx_iconst {hh : List (Nat × Nat × Nat × Nat)} {M : MI} {R : Room} {Q : Res → List ME → Prop} {n0 pc nx : Nat} {L : List (Option Value)} {rest : List Value} {es : List ME} {k ks : Nat} {i : Int} {v : Int32} (hv : Int32.ofInt i = v) (d : decode M.2.1 pc = .ok (.iconst i, 1)) (hn : pc + 1 = nx) (h : Jx hh M R Q n0 nx L (.int v :: rest) es k ks) : Jx hh M R Q n0 pc L (rest) es k ks := by
  subst hn
  exact Jx.stk (st' := .int v :: rest) (fun ad hx hb ho ht hw => lv_iconst hx hb d hv hw) (fun n h => ws_cons (okV_int _ _) h) h
theorem Jx_i2l {hh : List (Nat × Nat × Nat × Nat)} {M : MI} {R : Room} {Q : Res → List ME → Prop} {n0 pc nx : Nat} {L : List (Option Value)} {rest : List Value} {es : List ME} {k ks : Nat} {x : Int32} (d : decode M.2.1 pc = .ok (.i2l, 1)) (hn : pc + 1 = nx) (h : Jx hh M R Q n0 nx L (.long x.toInt64 :: rest) es k ks) : Jx hh M R Q n0 pc L (.int x :: rest) es k ks := by
  subst hn
  exact Jx.stk (st' := .long x.toInt64 :: rest) (fun ad hx hb ho ht hw => lv_i2l hx hb d rfl hw) (fun n h => ws_cons (okV_long _ _) (ws_tl h)) h
theorem Jx_goto {hh : List (Nat × Nat × Nat × Nat)} {M : MI} {R : Room} {Q : Res → List ME → Prop} {n0 pc nx : Nat} {L : List (Option Value)} {rest : List Value} {es : List ME} {k ks : Nat} {off : Int} (d : decode M.2.1 pc = .ok (.goto off, 3)) (hn : (pc : Int) + off = (nx : Int)) (h : Jx hh M R Q n0 nx L (rest) es k ks) : Jx hh M R Q n0 pc L (rest) es k ks :=
  Jx.stk (fun ad hx hb ho ht hw => lv_goto hx hb d hn hw) (fun n h => h) h
theorem Jx_iload_n {hh : List (Nat × Nat × Nat × Nat)} {M : MI} {R : Room} {Q : Res → List ME → Prop} {n0 pc nx : Nat} {L : List (Option Value)} {rest : List Value} {es : List ME} {k ks : Nat} {q : Fin 4} {x : Int32} (d : decode M.2.1 pc = .ok (.iload_n q, 1)) (hn : pc + 1 = nx) (hv : L[(q : Nat)]? = some (some (.int x))) (h : Jx hh M R Q n0 nx L (.int x :: rest) es k ks) : Jx hh M R Q n0 pc L (rest) es k ks := by
  subst hn
  exact Jx.ld hv (fun ad hx hb hl hw => lv_iload_n hx hb d rfl hl hw) h
theorem Jx_iload {hh : List (Nat × Nat × Nat × Nat)} {M : MI} {R : Room} {Q : Res → List ME → Prop} {n0 pc nx : Nat} {L : List (Option Value)} {rest : List Value} {es : List ME} {k ks : Nat} {i : Nat} {x : Int32} (d : decode M.2.1 pc = .ok (.iload i, 2)) (hn : pc + 2 = nx) (hv : L[i]? = some (some (.int x))) (h : Jx hh M R Q n0 nx L (.int x :: rest) es k ks) : Jx hh M R Q n0 pc L (rest) es k ks := by
  subst hn
  exact Jx.ld hv (fun ad hx hb hl hw => lv_iload hx hb d hl hw) h
theorem Jx_aload_n {hh : List (Nat × Nat × Nat × Nat)} {M : MI} {R : Room} {Q : Res → List ME → Prop} {n0 pc nx : Nat} {L : List (Option Value)} {rest : List Value} {es : List ME} {k ks : Nat} {q : Fin 4} {x : Nat} (d : decode M.2.1 pc = .ok (.aload_n q, 1)) (hn : pc + 1 = nx) (hv : L[(q : Nat)]? = some (some (.ref x))) (h : Jx hh M R Q n0 nx L (.ref x :: rest) es k ks) : Jx hh M R Q n0 pc L (rest) es k ks := by
  subst hn
  exact Jx.ld hv (fun ad hx hb hl hw => lv_aload_n hx hb d rfl hl hw) h
theorem Jx_aload {hh : List (Nat × Nat × Nat × Nat)} {M : MI} {R : Room} {Q : Res → List ME → Prop} {n0 pc nx : Nat} {L : List (Option Value)} {rest : List Value} {es : List ME} {k ks : Nat} {i : Nat} {x : Nat} (d : decode M.2.1 pc = .ok (.aload i, 2)) (hn : pc + 2 = nx) (hv : L[i]? = some (some (.ref x))) (h : Jx hh M R Q n0 nx L (.ref x :: rest) es k ks) : Jx hh M R Q n0 pc L (rest) es k ks := by
  subst hn
  exact Jx.ld hv (fun ad hx hb hl hw => lv_aload hx hb d hl hw) h
theorem Jx_zret {hh : List (Nat × Nat × Nat × Nat)} {M : MI} {R : Room} {Q : Res → List ME → Prop} {n0 pc nx : Nat} {L : List (Option Value)} {rest : List Value} {es : List ME} {k ks : Nat} {v : Int32} {ty : FieldType} (d : decode M.2.1 pc = .ok (.ireturn, 1)) (hr : M.2.2.2 = some ty) (hnr : narrow ty (.int v) = .int v) (hk : k ≤ R.cells) (hks : ks ≤ R.slots) (hq : Q (.inl (some (.int v))) es) : Jx hh M R Q n0 pc L ([.int v]) es k ks := by
  intro p l e s m args below meth c D cA ad0 A B0 H locs ls ad hC hR
  have hlocks := hC.2.1.1
  refine W.widen hk hks (vx_ret ?_)
  exact W.zret (v := v) hC.1.1 hC.1.2.1 (hC.1.2.2.2.1.trans hr) hnr (fun t ht hW => ⟨⟨some (.int v), es, ad, rfl, hq, by rw [ht]; exact hR.1, va_K.moved hW.alike hC.2.2.2.1, fun w hw => by cases hw; exact okV_int _ _⟩, hR.2.1.F ht⟩) hR.2.1.2.2 d
theorem Jxrz {hh : List (Nat × Nat × Nat × Nat)} {M : MI} {R : Room} {Q : Res → List ME → Prop} {n0 pc : Nat} {L : List (Option Value)} {es : List ME} {k ks : Nat} {v : Int32} {ty : FieldType} (d : decode M.2.1 pc = .ok (.ireturn, 1)) (hr : M.2.2.2 = some ty) (hnr : narrow ty (.int v) = .int v) (hk : k ≤ R.cells) (hks : ks ≤ R.slots) (hq : Q (.inl (some (.int v))) es) : Jx hh M R Q n0 pc L [.int v] es k ks := Jx_zret (nx := 0) (rest := []) d hr hnr hk hks hq
section
variable {M : MI} {R : Room} {Q : Res → List ME → Prop} {n0 pc nx : Nat} {L : List (Option Value)} {rest : List Value} {es : List ME} {k ks : Nat}
theorem Jx.hset {hh : List (Nat × Nat × Nat × Nat)} {A' : Prop} {a : Nat} {e : ME} {st : List Value} {p : Program} {l : Launch} {E : Env} {s : State} {m : MethodId} {args : Array Value} {below : List Frame} {meth : Method} {c : Code} {D : va_G} {cA : Nat → ClassId} {ad0 : Nat → Nat} {A : Nat → Prop} {B0 : Nat} {H : Heap} {locs : List Loc} {ls : Array Slot} {ad : Nat → Nat}
    (h : Jx hh M R Q n0 nx L rest (es.set a e) k ks) (hC : jCx hh M p l s m args meth c D cA ad0 A B0) (hR : jR M n0 ad0 D cA A s H locs ls ad L st es) (he : okE es.length e) (hst : ∀ v ∈ rest, okV es.length v) (H1 : Heap) (locs1 : List Loc)
    (hP : va_P D vwCl ((rW cA ad es).set a (ad a, rE cA ad e)) H1) (hD : va_D A ((rW cA ad es).set a (ad a, rE cA ad e))) (hS : va_S A s.heap H1 locs1) :
    W p l E R s m args below meth c H1 locs1 k ks (vx_MQ below (jQ Q n0 ad0 D cA A) (jX Q n0 ad0 D cA A) args s R.cells R.slots A) (F0 m nx ls (rest.map (rv ad))) :=
  h p l E s m args below meth c D cA ad0 A B0 H1 locs1 ls ad hC ⟨hR.1.upd he hP hD, hS, hR.2.2.1, by rw [List.length_set]; exact hst, by rw [List.length_set]; exact hR.2.2.2.2⟩
theorem Jx_last {hh : List (Nat × Nat × Nat × Nat)} {a n : Nat} {f : Nat → Int64} {i : Int32} {x : Int64} (d : decode M.2.1 pc = .ok (.lastore, 1)) (hn : pc + 1 = nx) (he : es[a]? = some (.inl (1, n, .inr (.inl f)))) (hin : vp_in i n) (h : Jx hh M R Q n0 nx L rest (es.set a (.inl (1, n, .inr (.inl (vp_updL f i.toNatClampNeg x))))) k ks) : Jx hh M R Q n0 pc L (.long x :: .int i :: .ref a :: rest) es k ks := by
  subst hn
  intro p l e s m args below meth c D cA ad0 A B0 H locs ls ad hC hR
  exact va_last (D := D) hC.1.1 hC.1.2.1 hC.2.2.2.1 hR.1.2.2.2.2.1 hR.1.2.2.2.2.2 hR.2.1 a 1 (rW_get he) rfl hin d (fun H1 locs1 hP hD hS => Jx.hset (A' := True) h hC hR trivial (ws_tl (ws_tl (ws_tl hR.2.2.2.1))) H1 locs1 hP hD hS)
theorem jRx.preB {hh : List (Nat × Nat × Nat × Nat)} {p : Program} {l : Launch} {s : State} {m : MethodId} {args : Array Value} {meth : Method} {c : Code} {D : va_G} {cA : Nat → ClassId} {ad0 : Nat → Nat} {A : Nat → Prop} {B0 : Nat} {H : Heap} {locs : List Loc} {ls : Array Slot} {ad : Nat → Nat} {st : List Value} (hC : jCx hh M p l s m args meth c D cA ad0 A B0) (hR : jR M n0 ad0 D cA A s H locs ls ad L st es) (U : State) (hU : U.heap = H) (hW : s.WarmedH U.vm) :
    U.heap.size = H.size ∧ B0 ≤ H.size ∧ va_P D vwCl (rW cA ad es) U.heap ∧ va_K D vwCl (tysA cA) U ∧ va_D (fun q : Nat => B0 ≤ q) (rW cA ad es) ∧ KC B0 ad U U.heap :=
  ⟨by rw [hU], Nat.le_trans hC.2.2.1.2.2 hR.2.1.1, by rw [hU]; exact hR.1.2.2.2.2.1, va_K.moved hW.alike hC.2.2.2.1, hR.1.2.2.2.2.2.weaken (fun _ q _ h => hC.2.2.1.2.1 _ h), by rw [hU]; exact KC.moved hC.2.2.2.2.1 hW (fun a h1 h2 => hR.2.1.2.1 a h1 (fun z => h2 (hC.2.2.1.2.1 a z))) (fun i hi => hR.1.1 i (Or.inr hi))⟩
/-- where a handler begins: what was thrown is laid aside -/
theorem Jx.hand {hh : List (Nat × Nat × Nat × Nat)} {hp i q : Nat} {p : Program} {l : Launch} {e : Env} {s : State} {m : MethodId} {args : Array Value} {below : List Frame} {meth : Method} {c : Code} {D : va_G} {cA : Nat → ClassId} {ad0 : Nat → Nat} {A : Nat → Prop} {B0 : Nat} {H : Heap} {locs : List Loc} {ls : Array Slot} {ad : Nat → Nat} {st : List Value}
    (dst : (∃ f : Fin 4, (f : Nat) = i ∧ decode M.2.1 hp = .ok (.astore_n f, 1) ∧ nx = hp + 1) ∨ (decode M.2.1 hp = .ok (.astore i, 2) ∧ nx = hp + 2)) (hi : i < M.2.2.1) (h : Jx hh M R Q n0 nx [] [] es k ks) (hC : jCx hh M p l s m args meth c D cA ad0 A B0) (hR : jR M n0 ad0 D cA A s H locs ls ad L st es) :
    W p l e R s m args below meth c H locs k ks (vx_MQ below (jQ Q n0 ad0 D cA A) (jX Q n0 ad0 D cA A) args s R.cells R.slots A) (F0 m hp ls [.ref q]) := by
  rcases dst with ⟨f, hf, d, rfl⟩ | ⟨d, rfl⟩
  · exact lv_astore_n hC.1.1 hC.1.2.1 d hf hR.2.2.1.has hi rfl (fun ls' hl' => h p l e s m args below meth c D cA ad0 A B0 H locs ls' ad hC ⟨hR.1, hR.2.1, ⟨hl'.1, hl'.2.1, fun i v h => by cases h⟩, fun v hv => (by cases hv), fun i v h => by cases h⟩)
  · exact lv_astore hC.1.1 hC.1.2.1 d hR.2.2.1.has hi rfl (fun ls' hl' => h p l e s m args below meth c D cA ad0 A B0 H locs ls' ad hC ⟨hR.1, hR.2.1, ⟨hl'.1, hl'.2.1, fun i v h => by cases h⟩, fun v hv => (by cases hv), fun i v h => by cases h⟩)
/-- E, thrown at pc, is caught: the handler goes on -/
def Hx (hh : List (Nat × Nat × Nat × Nat)) (M : MI) (pc : Nat) (E : String) (G : Nat → Prop) : Prop :=
  ∃ (pre : List ExceptionTableEntry) (x : ExceptionTableEntry) (suf : List ExceptionTableEntry) (name : String) (i nx : Nat), tableOf hh = pre ++ x :: suf ∧ (∀ z ∈ pre, covers z pc = false ∨ (z.catchType ≠ 0 ∧ ∃ nm : String, Cond.classLink M.1.cls z.catchType nm ∈ TT ∧ (E, nm) ∈ nCast)) ∧ covers x pc = true ∧ x.catchType ≠ 0 ∧ Cond.classLink M.1.cls x.catchType name ∈ TT ∧ Cond.castable E name ∈ lw_tbl ∧
    ((∃ f : Fin 4, (f : Nat) = i ∧ decode M.2.1 x.handlerPc = .ok (.astore_n f, 1) ∧ nx = x.handlerPc + 1) ∨ (decode M.2.1 x.handlerPc = .ok (.astore i, 2) ∧ nx = x.handlerPc + 2)) ∧ i < M.2.2.1 ∧ G nx
theorem Jx.after {hh : List (Nat × Nat × Nat × Nat)} {p : Program} {l : Launch} {E : Env} {s : State} {m : MethodId} {args : Array Value} {below : List Frame} {meth : Method} {c : Code} {D : va_G} {cA : Nat → ClassId} {ad0 : Nat → Nat} {A : Nat → Prop} {B0 : Nat} {H : Heap} {locs : List Loc} {ls : Array Slot} {ad : Nat → Nat} {st : List Value} {st0 : List Value} {Q' : Res → List ME → Prop} {mc ms : Nat} {a : Array Value}
    (hC : jCx hh M p l s m args meth c D cA ad0 A B0) (hR : jR M n0 ad0 D cA A s H locs ls ad L st es) (hst : ∀ v ∈ rest, okV es.length v) (hc : k + mc ≤ R.cells) (hs : ks + ms ≤ R.slots)
    (hx : ∀ E es', Q' (.inr E) es' → Hx hh M pc E (fun nx => Jx hh M R Q n0 nx [] [] es' (k + mc) (ks + ms))) (h : ∀ v es', Q' (.inl v) es' → Jx hh M R Q n0 (pc + 3) L (v.toList ++ rest) es' (k + mc) (ks + ms))
    (hr : vx_Run p l E R s m args below meth c H locs k ks mc ms (F0 m pc ls st0) (rest.map (rv ad)) (jQ Q' es.length ad D cA (va_A (rW cA ad es) H.size) a) (jX Q' es.length ad D cA (va_A (rW cA ad es) H.size)) (va_A (rW cA ad es) H.size)) :
    W p l E R s m args below meth c H locs k ks (vx_MQ below (jQ Q n0 ad0 D cA A) (jX Q n0 ad0 D cA A) args s R.cells R.slots A) (F0 m pc ls st0) := by
  have hA : ∀ q, va_A (rW cA ad es) H.size q → A q := by
    rintro q (⟨i, e, hi⟩ | hq)
    · exact hR.1.2.2.2.2.2.2 i _ hi
    · exact hC.2.2.1.1 q (Nat.le_trans hR.2.1.1 hq)
  have hag0 : ∀ {es' : List ME} {ad' : Nat → Nat} {H1 : Heap}, jE es.length ad D cA (va_A (rW cA ad es) H.size) ad' es' H1 → jE n0 ad0 D cA A ad' es' H1 := by
    intro es' ad' H1 h1
    refine ⟨fun i hi => ?_, Nat.le_trans hR.1.2.1 h1.2.1, h1.2.2.1, h1.2.2.2.1, h1.2.2.2.2.1, h1.2.2.2.2.2.weaken (fun _ q _ hq => hA _ hq)⟩
    rcases hi with hi | hi
    · rw [h1.1 i (Or.inl (Nat.lt_of_lt_of_le hi hR.1.2.1))]; exact hR.1.1 i (Or.inl hi)
    · rw [h1.1 i (Or.inr hi)]; exact hR.1.1 i (Or.inr hi)
  intro T hT X
  rcases hr T hT X with ⟨v, st₀, t, T', Lc, h0, X', hL, e1, e2, ⟨⟨v', es', ad', hv, hq, hE, -, hvo⟩, hF⟩, hgo⟩ | ⟨q, st₀, t, T', Lc, E1, ce, h0, X', hL, e1, e2, ⟨⟨es', ad', hq, hE, -⟩, hF⟩, hce, hcv, hcl, hst1⟩
  · obtain ⟨k1, k2, k3⟩ := vx_keep h0 e1 hR.2.1 (fun q _ h => hA q h) hA hL hF
    have hv' : v = v'.map (rv ad') := by injection hv
    have hw := h v' es' hq p l E s m args below meth c D cA ad0 A B0 T'.heap (locs ++ Lc) ls ad' hC ⟨by rw [e1]; exact hag0 hE, k3, hR.2.2.1.congr hE.1 hR.2.2.2.2, ?_, fun i w hi => (hR.2.2.2.2 i w hi).mono hE.2.1⟩
    · obtain ⟨t2, a1, b1⟩ := hw T' rfl X'
      refine ⟨t2, hgo t2 ?_, b1⟩
      have : (v'.toList ++ rest).map (rv ad') = v.toList ++ rest.map (rv ad) := by
        rw [List.map_append, rvs_congr hE.1 hst, hv']
        cases v' <;> rfl
      rw [this] at a1
      exact a1
    · intro w hw
      rcases List.mem_append.mp hw with hw | hw
      · cases v' with
        | none => cases hw
        | some z => rw [List.mem_singleton.mp hw]; exact hvo z rfl
      · exact (hst w hw).mono hE.2.1
  · obtain ⟨k1, k2, k3⟩ := vx_keep h0 e1 hR.2.1 (fun q _ h => hA q h) hA hL hF
    have hcl' : T'.heap[q]? = some ce := by rw [e1]; exact hce
    obtain ⟨pre, x, suf, name, i9, nx9, t1, t2, t3, t4, t5, t6, t7, t8, t9⟩ := hx _ _ hq
    have hts := hC.1.2.2.2.2.2
    have hR' : jR M n0 ad0 D cA A s T'.heap (locs ++ Lc) ls ad' L [] es' := ⟨by rw [e1]; exact hag0 hE, k3, hR.2.2.1.congr hE.1 hR.2.2.2.2, fun v hv => (by cases hv), fun i w hi => (hR.2.2.2.2 i w hi).mono hE.2.1⟩
    have hout : vx_W p l E R s m args below meth c T'.heap (locs ++ Lc) (k + mc) (ks + ms) (vx_MQ below (jQ Q n0 ad0 D cA A) (jX Q n0 ad0 D cA A) args s R.cells R.slots A) (F0 m pc ls (rest.map (rv ad))) q :=
      vx_catch (name := name) hC.1.2.2.2.2.1 pre x suf (hC.2.1.2.2.trans t1) (fun z hz => (t2 z hz).imp id (fun u => ⟨u.1, u.2.choose, hts _ u.2.choose_spec.1, hC.2.2.2.2.1.2.2.2.1.2.2.2 _ u.2.choose_spec.2⟩)) t3 t4 (hts _ t5) (va_Nw.use rfl (hC.2.2.2.2.1.2.2.2.1.2.2.1 _ _ t6)) hcl' hcv hcl (Jx.hand t7 t8 t9 hC hR')
    obtain ⟨t2', a1, b1⟩ := hout T' rfl X'
    exact ⟨t2', hst1.trans a1, b1⟩
theorem Jx_callV {hh : List (Nat × Nat × Nat × Nat)} {M' : MI} {R' : Room} {b ci : Nat} {fs As : List Value} {Q' : Res → List ME → Prop} {idx n : Nat} (d : decode M.2.1 pc = .ok (.invokevirtual idx, 3)) (hn : pc + 3 = nx) (hml : ML M' n) (hlk : Cond.methodLink M.1.cls idx M'.1 ∈ TT) (hins : Cond.instanceMethod M'.1 ∈ TT ∧ Cond.selects M'.1.cls M'.1 M'.1 ∈ TT) {T : u_T} {N : Nat} (hcl : vwCl[ci]? = some (M'.1.cls, T, N)) (he : es[b]? = some (.inr (ci, fs))) (hA : As.length = n) (hroom : R'.frames + 1 ≤ R.frames ∧ 8 + (M'.2.2.1 + 11) + R'.locals ≤ R.locals) (hcat : (rest.map fun v => v.category).sum ≤ 8) (hk : k + R'.cells ≤ R.cells ∧ ks + R'.slots ≤ R.slots)
    (hct : Ct M' R' (.ref b :: As) es Q') (hx : ∀ E es', Q' (.inr E) es' → Hx hh M pc E (fun nx => Jx hh M R Q n0 nx [] [] es' (k + R'.cells) (ks + R'.slots))) (h : ∀ v es', Q' (.inl v) es' → Jx hh M R Q n0 nx L (v.toList ++ rest) es' (k + R'.cells) (ks + R'.slots)) : Jx hh M R Q n0 pc L (As.reverse ++ .ref b :: rest) es k ks := by
  subst hn
  intro p l e s m args below meth c D cA ad0 A B0 H locs ls ad hC hR
  have hts := hC.1.2.2.2.2.2
  have hokA : ∀ v ∈ Value.ref b :: As, okV es.length v := fun v hv => by
    rcases List.mem_cons.mp hv with rfl | hv
    · exact hR.2.2.2.1 _ (List.mem_append_right _ List.mem_cons_self)
    · exact hR.2.2.2.1 v (List.mem_append_left _ (List.mem_reverse.mpr hv))
  have hokr : ∀ v ∈ rest, okV es.length v := fun v hv => hR.2.2.2.1 v (List.mem_append_right _ (List.mem_cons_of_mem _ hv))
  have hM := hct hokA hR.1.2.2.2.1 hR.1.2.2.1 l hC.2.2.2.2.2 ad D cA B0 H.size
  refine Jx.after hC hR hokr hk.1 hk.2 hx h (vx_runV (C := M'.1.cls) (b := ad b) (As := As.map (rv ad)) (n := n) (nL := M.2.2.1) (own := M.1.cls) (Ts := TT) ⟨hC.1.1, hC.1.2.1, hC.1.2.2.1, hC.1.2.2.2.2.1, hts⟩ hM ⟨hml.callB hlk hts hroom, hts _ hins.1, hts _ hins.2⟩ ⟨jB_blind, va_recv hC.2.2.2.1 hR.1.2.2.2.2.1 hcl (rW_get he), fun U hU hW => ⟨rfl, jRx.preB hC hR U hU hW⟩⟩ rfl (by rw [List.length_map]; exact hA) hR.2.2.1.1 ?_ (lv_room ?_) d hk)
  · show (As.reverse ++ .ref b :: rest).map (rv ad) = _
    rw [List.map_append, List.map_reverse]; rfl
  · rw [List.map_map]
    have : ((fun v => v.category) ∘ rv ad) = fun v => v.category := by funext v; exact rv_cat ad v
    rw [this]; exact hcat
end
