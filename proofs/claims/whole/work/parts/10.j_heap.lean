/-- a class of the worlds: its place in vwCl, its fields' types -/
def CLS (ci : Nat) (C : String) (T : u_T) (N : Nat) (ty : Nat → FieldType) : Prop :=
  vwCl[ci]? = some (C, T, N) ∧ (∀ w ∈ u_ws C T N, w ∈ TT) ∧ (∀ k, k < N → parseFieldDescriptor (T k).2.2.1 = some (ty k)) ∧ ∀ a, a < N → ∀ b, b < N → a ≠ b → (T a).2.1 ≠ (T b).2.1
def FLk (own : String) (idx : Nat) (q : String × String × String × Bool) : Prop := Cond.fieldLink own idx q.1 q.2.1 q.2.2.1 ∈ TT ∨ ∃ host, Cond.fieldLinkNest own idx q.1 q.2.1 q.2.2.1 host ∈ lw_tbl
/-- a field's link, out of the class own -/
def FL (own : String) (idx ci kf : Nat) (fty : FieldType) (fin : Bool) : Prop :=
  ∃ (C : String) (T : u_T) (N : Nat) (ty : Nat → FieldType), CLS ci C T N ty ∧ kf < N ∧ ty kf = fty ∧ (T kf).2.2.2 = fin ∧ FLk own idx (T kf)
/-- a final field's, in its own class -/
def FLF (own : String) (idx ci kf : Nat) (fty : FieldType) : Prop :=
  ∃ (C : String) (T : u_T) (N : Nat) (ty : Nat → FieldType), CLS ci C T N ty ∧ kf < N ∧ ty kf = fty ∧ (T kf).2.2.2 = true ∧ Cond.fieldLink own idx (T kf).1 (T kf).2.1 (T kf).2.2.1 ∈ TT ∧ (T kf).1 = own
section JH
variable {M : MI} {R : Room} {Q : Res → List ME → Prop} {n0 pc nx : Nat} {L : List (Option Value)} {rest : List Value} {es : List ME} {k ks : Nat}
theorem J_get {a ci kf idx : Nat} {fty : FieldType} {fin : Bool} {fs : List Value} {v : Value} (d : decode M.2.1 pc = .ok (.getfield idx, 3)) (hn : pc + 3 = nx) (lk : FL M.1.cls idx ci kf fty fin) (he : es[a]? = some (.inr (ci, fs))) (hv : fs[kf]? = some v)
    (h : J M R Q n0 nx L (v :: rest) es k ks) : J M R Q n0 pc L (.ref a :: rest) es k ks := by
  subst hn
  intro p l e s m args below meth c D cA ad0 A B0 H locs ls ad hC hR
  obtain ⟨C, T, N, ty, ⟨hc, hin, hty, hnm⟩, hkf, -, -, hl⟩ := lk
  have hok : okV es.length v := hR.1.2.2.2.1 _ (List.mem_of_getElem? he) v (List.mem_of_getElem? hv)
  have hw := h p l e s m args below meth c D cA ad0 A B0 H locs ls ad hC ⟨hR.1, hR.2.1, hR.2.2.1, ws_cons hok (ws_tl hR.2.2.2.1), hR.2.2.2.2⟩
  have he' : (rW cA ad es)[a]? = some (ad a, .inr (ci, fs.map (rv ad))) := rW_get he
  have hv' : (fs.map (rv ad))[kf]? = some (rv ad v) := by rw [List.getElem?_map, hv]; rfl
  rcases hl with hl | ⟨host, hl⟩
  · exact va_get (D := D) (ci := ci) (v := rv ad v) hC.1.1 hC.1.2.1 hC.1.2.2.2.2.2 hin hC.1.2.2.2.2.1 hC.2.2.2.1 hR.1.2.2.2.2.1 a he' hc kf hkf (hC.1.2.2.2.2.2 _ hl) (fun _ h9 => h9) hv' d hw
  · exact va_getN (D := D) (ci := ci) (v := rv ad v) hC.1.1 hC.1.2.1 hC.1.2.2.2.2.2 hin hC.1.2.2.2.2.1 hC.2.2.2.1 hR.1.2.2.2.2.1 a he' hc kf hkf (va_Nw.use rfl (hC.2.2.2.2.1.2.2.1 _ _ _ _ _ _ hl)) (fun _ h9 => h9) hv' d hw
theorem jE.upd {n0 : Nat} {ad0 : Nat → Nat} {D : va_G} {cA : Nat → ClassId} {A : Nat → Prop} {ad : Nat → Nat} {es : List ME} {H H1 : Heap} (h : jE n0 ad0 D cA A ad es H) {a : Nat} {e : ME} (he : okE es.length e) (hP : va_P D vwCl ((rW cA ad es).set a (ad a, rE cA ad e)) H1) (hD : va_D A ((rW cA ad es).set a (ad a, rE cA ad e))) : jE n0 ad0 D cA A ad (es.set a e) H1 := by
  refine ⟨h.1, by rw [List.length_set]; exact h.2.1, by rw [List.length_set]; exact h.2.2.1, fun e1 h1 => ?_, by rw [rW_set]; exact hP, by rw [rW_set]; exact hD⟩
  rw [List.length_set]
  rcases List.mem_or_eq_of_mem_set h1 with h1 | h1
  · exact h.2.2.2.1 e1 h1
  · rw [h1]; exact he
theorem J.hset {A' : Prop} {a : Nat} {e : ME} {st : List Value} {p : Program} {l : Launch} {E : Env} {s : State} {m : MethodId} {args : Array Value} {below : List Frame} {meth : Method} {c : Code} {D : va_G} {cA : Nat → ClassId} {ad0 : Nat → Nat} {A : Nat → Prop} {B0 : Nat} {H : Heap} {locs : List Loc} {ls : Array Slot} {ad : Nat → Nat}
    (h : J M R Q n0 nx L rest (es.set a e) k ks) (hC : jC M p l s m args meth c D cA ad0 A B0) (hR : jR M n0 ad0 D cA A s H locs ls ad L st es) (he : okE es.length e) (hst : ∀ v ∈ rest, okV es.length v) (H1 : Heap) (locs1 : List Loc)
    (hP : va_P D vwCl ((rW cA ad es).set a (ad a, rE cA ad e)) H1) (hD : va_D A ((rW cA ad es).set a (ad a, rE cA ad e))) (hS : va_S A s.heap H1 locs1) :
    W p l E R s m args below meth c H1 locs1 k ks (vx_MQ below (jQ Q n0 ad0 D cA A) (jX Q n0 ad0 D cA A) args s R.cells R.slots A) (F0 m nx ls (rest.map (rv ad))) :=
  h p l E s m args below meth c D cA ad0 A B0 H1 locs1 ls ad hC ⟨hR.1.upd he hP hD, hS, hR.2.2.1, by rw [List.length_set]; exact hst, by rw [List.length_set]; exact hR.2.2.2.2⟩
theorem okE_put {n ci kf : Nat} {fs : List Value} {v : Value} (h : okE n (.inr (ci, fs))) (hv : okV n v) : okE n (.inr (ci, fs.set kf v)) := fun w hw => by
  rcases List.mem_or_eq_of_mem_set hw with h1 | h1
  · exact h w h1
  · rw [h1]; exact hv
theorem J_put {a ci kf idx : Nat} {fty : FieldType} {fs : List Value} {v : Value} (d : decode M.2.1 pc = .ok (.putfield idx, 3)) (hn : pc + 3 = nx) (lk : FL M.1.cls idx ci kf fty false) (he : es[a]? = some (.inr (ci, fs))) (hl0 : kf < fs.length) (hnv : ∀ ad, narrow fty (rv ad v) = rv ad v) (hfv : ∀ ad, fits fty (rv ad v) = true)
    (h : J M R Q n0 nx L rest (es.set a (.inr (ci, fs.set kf v))) k ks) : J M R Q n0 pc L (v :: .ref a :: rest) es k ks := by
  subst hn
  intro p l e s m args below meth c D cA ad0 A B0 H locs ls ad hC hR
  obtain ⟨C, T, N, ty, ⟨hc, hin, hty, hnm⟩, hkf, hft, hfin, hl⟩ := lk
  have hE : rE cA ad (.inr (ci, fs.set kf v)) = .inr (ci, (fs.map (rv ad)).set kf (rv ad v)) := by show (Sum.inr (ci, (fs.set kf v).map (rv ad)) : va_E) = _; rw [List.map_set]
  have hok : okE es.length (.inr (ci, fs.set kf v)) := okE_put (hR.1.2.2.2.1 _ (List.mem_of_getElem? he)) (hR.2.2.2.1 _ List.mem_cons_self)
  have hw := fun H1 locs1 hP hD hS => J.hset (A' := True) (E := e) (below := below) h hC hR hok (ws_tl (ws_tl hR.2.2.2.1)) H1 locs1 hP hD hS
  rw [hE] at hw
  have he' : (rW cA ad es)[a]? = some (ad a, .inr (ci, fs.map (rv ad))) := rW_get he
  have hd : parseFieldDescriptor (T kf).2.2.1 = some fty := by rw [← hft]; exact hty kf hkf
  rcases hl with hl | ⟨host, hl⟩
  · exact va_put (D := D) (ci := ci) (v := rv ad v) hC.1.1 hC.1.2.1 hC.1.2.2.2.2.2 hin ty hty hnm hC.1.2.2.2.2.1 hC.2.2.2.1 hR.1.2.2.2.2.1 hR.1.2.2.2.2.2 hR.2.1 a he' hc kf hkf (hC.1.2.2.2.2.2 _ hl) (fun _ h9 => h9) hfin hd (hnv ad) (hfv ad) (by rw [List.length_map]; exact hl0) d hw
  · exact va_putN (D := D) (ci := ci) (v := rv ad v) hC.1.1 hC.1.2.1 hC.1.2.2.2.2.2 hin ty hty hnm hC.1.2.2.2.2.1 hC.2.2.2.1 hR.1.2.2.2.2.1 hR.1.2.2.2.2.2 hR.2.1 a he' hc kf hkf (va_Nw.use rfl (hC.2.2.2.2.1.2.2.1 _ _ _ _ _ _ hl)) (fun _ h9 => h9) hfin hd (hnv ad) (hfv ad) (by rw [List.length_map]; exact hl0) d hw
/-- a final field, in a constructor -/
theorem J_putF {a ci kf idx : Nat} {fty : FieldType} {fs : List Value} {v : Value} (d : decode M.2.1 pc = .ok (.putfield idx, 3)) (hn : pc + 3 = nx) (lk : FLF M.1.cls idx ci kf fty) (hi : M.1.name = "<init>") (he : es[a]? = some (.inr (ci, fs))) (hl0 : kf < fs.length) (hnv : ∀ ad, narrow fty (rv ad v) = rv ad v) (hfv : ∀ ad, fits fty (rv ad v) = true)
    (h : J M R Q n0 nx L rest (es.set a (.inr (ci, fs.set kf v))) k ks) : J M R Q n0 pc L (v :: .ref a :: rest) es k ks := by
  subst hn
  intro p l e s m args below meth c D cA ad0 A B0 H locs ls ad hC hR
  obtain ⟨C, T, N, ty, ⟨hc, hin, hty, hnm⟩, hkf, hft, hfin, hl, hdecl⟩ := lk
  have hE : rE cA ad (.inr (ci, fs.set kf v)) = .inr (ci, (fs.map (rv ad)).set kf (rv ad v)) := by show (Sum.inr (ci, (fs.set kf v).map (rv ad)) : va_E) = _; rw [List.map_set]
  have hok : okE es.length (.inr (ci, fs.set kf v)) := okE_put (hR.1.2.2.2.1 _ (List.mem_of_getElem? he)) (hR.2.2.2.1 _ List.mem_cons_self)
  have hw := fun H1 locs1 hP hD hS => J.hset (A' := True) (E := e) (below := below) h hC hR hok (ws_tl (ws_tl hR.2.2.2.1)) H1 locs1 hP hD hS
  rw [hE] at hw
  have he' : (rW cA ad es)[a]? = some (ad a, .inr (ci, fs.map (rv ad))) := rW_get he
  have hd : parseFieldDescriptor (T kf).2.2.1 = some fty := by rw [← hft]; exact hty kf hkf
  exact va_putF (D := D) (ci := ci) (v := rv ad v) hC.1.1 hC.1.2.1 hC.1.2.2.2.2.2 hin ty hty hnm hC.1.2.2.2.2.1 hC.2.2.2.1 hR.1.2.2.2.2.1 hR.1.2.2.2.2.2 hR.2.1 a he' hc kf hkf (hC.1.2.2.2.2.2 _ hl) (fun _ h9 => h9) hfin (hC.2.1.2.1.trans hi) hdecl hd (hnv ad) (hfv ad) (by rw [List.length_map]; exact hl0) d hw
/-! arrays -/
theorem J_iald {a n : Nat} {f : Nat → Int32} {i : Int32} (d : decode M.2.1 pc = .ok (.iaload, 1)) (hn : pc + 1 = nx) (he : es[a]? = some (.inl (0, n, .inl f))) (hin : vp_in i n) (h : J M R Q n0 nx L (.int (f i.toNatClampNeg) :: rest) es k ks) : J M R Q n0 pc L (.int i :: .ref a :: rest) es k ks := by
  subst hn
  intro p l e s m args below meth c D cA ad0 A B0 H locs ls ad hC hR
  exact va_iald (D := D) hC.1.1 hC.1.2.1 hC.2.2.2.1 hR.1.2.2.2.2.1 a 0 (rW_get he) rfl hin d (h p l e s m args below meth c D cA ad0 A B0 H locs ls ad hC ⟨hR.1, hR.2.1, hR.2.2.1, ws_cons (okV_int _ _) (ws_tl (ws_tl hR.2.2.2.1)), hR.2.2.2.2⟩)
theorem J_lald {a n : Nat} {f : Nat → Int64} {i : Int32} (d : decode M.2.1 pc = .ok (.laload, 1)) (hn : pc + 1 = nx) (he : es[a]? = some (.inl (1, n, .inr (.inl f)))) (hin : vp_in i n) (h : J M R Q n0 nx L (.long (f i.toNatClampNeg) :: rest) es k ks) : J M R Q n0 pc L (.int i :: .ref a :: rest) es k ks := by
  subst hn
  intro p l e s m args below meth c D cA ad0 A B0 H locs ls ad hC hR
  exact va_lald (D := D) hC.1.1 hC.1.2.1 hC.2.2.2.1 hR.1.2.2.2.2.1 a 1 (rW_get he) rfl hin d (h p l e s m args below meth c D cA ad0 A B0 H locs ls ad hC ⟨hR.1, hR.2.1, hR.2.2.1, ws_cons (okV_long _ _) (ws_tl (ws_tl hR.2.2.2.1)), hR.2.2.2.2⟩)
theorem J_bald {a n : Nat} {f : Nat → Int32} {i : Int32} (d : decode M.2.1 pc = .ok (.baload, 1)) (hn : pc + 1 = nx) (he : es[a]? = some (.inl (2, n, .inl f))) (hin : vp_in i n) (h : J M R Q n0 nx L (.int (f i.toNatClampNeg) :: rest) es k ks) : J M R Q n0 pc L (.int i :: .ref a :: rest) es k ks := by
  subst hn
  intro p l e s m args below meth c D cA ad0 A B0 H locs ls ad hC hR
  exact va_bald (D := D) hC.1.1 hC.1.2.1 hC.2.2.2.1 hR.1.2.2.2.2.1 a 2 (rW_get he) rfl hin d (h p l e s m args below meth c D cA ad0 A B0 H locs ls ad hC ⟨hR.1, hR.2.1, hR.2.2.1, ws_cons (okV_int _ _) (ws_tl (ws_tl hR.2.2.2.1)), hR.2.2.2.2⟩)
theorem rv_rf (ad : Nat → Nat) (o : Option Nat) : rv ad (va_rf o) = va_rf (o.map ad) := by cases o <;> rfl
theorem J_aald {a n t : Nat} {f : Nat → Option Nat} {i : Int32} (d : decode M.2.1 pc = .ok (.aaload, 1)) (hn : pc + 1 = nx) (ht : t = 3 ∨ t = 4) (he : es[a]? = some (.inl (t, n, .inr (.inr (.inr (.inr f)))))) (hin : vp_in i n) (h : J M R Q n0 nx L (va_rf (f i.toNatClampNeg) :: rest) es k ks) : J M R Q n0 pc L (.int i :: .ref a :: rest) es k ks := by
  subst hn
  intro p l e s m args below meth c D cA ad0 A B0 H locs ls ad hC hR
  have hok : okV es.length (va_rf (f i.toNatClampNeg)) := by
    cases hf : f i.toNatClampNeg with
    | none => exact okV_null _
    | some r =>
      have h1 : okE es.length (.inl (t, n, .inr (.inr (.inr (.inr f))))) := hR.1.2.2.2.1 _ (List.mem_of_getElem? he)
      exact okV_ref (h1 _ _ hf)
  have hw := h p l e s m args below meth c D cA ad0 A B0 H locs ls ad hC ⟨hR.1, hR.2.1, hR.2.2.1, ws_cons hok (ws_tl (ws_tl hR.2.2.2.1)), hR.2.2.2.2⟩
  rw [List.map_cons, rv_rf] at hw
  rcases ht with rfl | rfl
  · exact va_aldq (D := D) (C := "WhistleBook$Code") hC.1.1 hC.1.2.1 hC.2.2.2.1 hR.1.2.2.2.2.1 a 3 (rW_get he) rfl hin d hw
  · exact va_aldq (D := D) (C := "WhistleBook$Word") hC.1.1 hC.1.2.1 hC.2.2.2.1 hR.1.2.2.2.2.1 a 4 (rW_get he) rfl hin d hw
theorem J_alen {a t : Nat} {x : vp_A} (d : decode M.2.1 pc = .ok (.arraylength, 1)) (hn : pc + 1 = nx) (ht : t < 5) (he : es[a]? = some (.inl (t, x))) (h : J M R Q n0 nx L (.int (Int32.ofNat x.1) :: rest) es k ks) : J M R Q n0 pc L (.ref a :: rest) es k ks := by
  subst hn
  intro p l e s m args below meth c D cA ad0 A B0 H locs ls ad hC hR
  have hw := h p l e s m args below meth c D cA ad0 A B0 H locs ls ad hC ⟨hR.1, hR.2.1, hR.2.2.1, ws_cons (okV_int _ _) (ws_tl hR.2.2.2.1), hR.2.2.2.2⟩
  have hx : (rA ad x).1 = x.1 := by obtain ⟨n, f | f | f | f | f⟩ := x <;> rfl
  have hty : (tysA cA)[t]? = some (cA t, aty t) := by
    match t, ht with
    | 0, _ => rfl
    | 1, _ => rfl
    | 2, _ => rfl
    | 3, _ => rfl
    | 4, _ => rfl
  exact va_alen (D := D) hC.1.1 hC.1.2.1 hC.2.2.2.1 hR.1.2.2.2.2.1 a t (rW_get he) hty (by rw [hx]) d hw
theorem J_iast {a n : Nat} {f : Nat → Int32} {i x : Int32} (d : decode M.2.1 pc = .ok (.iastore, 1)) (hn : pc + 1 = nx) (he : es[a]? = some (.inl (0, n, .inl f))) (hin : vp_in i n) (h : J M R Q n0 nx L rest (es.set a (.inl (0, n, .inl (upd f i.toNatClampNeg x)))) k ks) : J M R Q n0 pc L (.int x :: .int i :: .ref a :: rest) es k ks := by
  subst hn
  intro p l e s m args below meth c D cA ad0 A B0 H locs ls ad hC hR
  exact va_iast (D := D) hC.1.1 hC.1.2.1 hC.2.2.2.1 hR.1.2.2.2.2.1 hR.1.2.2.2.2.2 hR.2.1 a 0 (rW_get he) rfl hin d (fun H1 locs1 hP hD hS => J.hset (A' := True) h hC hR trivial (ws_tl (ws_tl (ws_tl hR.2.2.2.1))) H1 locs1 hP hD hS)
theorem J_last {a n : Nat} {f : Nat → Int64} {i : Int32} {x : Int64} (d : decode M.2.1 pc = .ok (.lastore, 1)) (hn : pc + 1 = nx) (he : es[a]? = some (.inl (1, n, .inr (.inl f)))) (hin : vp_in i n) (h : J M R Q n0 nx L rest (es.set a (.inl (1, n, .inr (.inl (vp_updL f i.toNatClampNeg x))))) k ks) : J M R Q n0 pc L (.long x :: .int i :: .ref a :: rest) es k ks := by
  subst hn
  intro p l e s m args below meth c D cA ad0 A B0 H locs ls ad hC hR
  exact va_last (D := D) hC.1.1 hC.1.2.1 hC.2.2.2.1 hR.1.2.2.2.2.1 hR.1.2.2.2.2.2 hR.2.1 a 1 (rW_get he) rfl hin d (fun H1 locs1 hP hD hS => J.hset (A' := True) h hC hR trivial (ws_tl (ws_tl (ws_tl hR.2.2.2.1))) H1 locs1 hP hD hS)
theorem J_bast {a n : Nat} {f : Nat → Int32} {i x : Int32} (d : decode M.2.1 pc = .ok (.bastore, 1)) (hn : pc + 1 = nx) (he : es[a]? = some (.inl (2, n, .inl f))) (hin : vp_in i n) (h : J M R Q n0 nx L rest (es.set a (.inl (2, n, .inl (upd f i.toNatClampNeg (vp_nar .byte x))))) k ks) : J M R Q n0 pc L (.int x :: .int i :: .ref a :: rest) es k ks := by
  subst hn
  intro p l e s m args below meth c D cA ad0 A B0 H locs ls ad hC hR
  exact va_bast (D := D) hC.1.1 hC.1.2.1 hC.2.2.2.1 hR.1.2.2.2.2.1 hR.1.2.2.2.2.2 hR.2.1 a 2 (rW_get he) rfl hin d (fun H1 locs1 hP hD hS => J.hset (A' := True) h hC hR trivial (ws_tl (ws_tl (ws_tl hR.2.2.2.1))) H1 locs1 hP hD hS)
theorem okE_up {n t m j : Nat} {f : Nat → Option Nat} {o : Option Nat} (h : okE n (.inl (t, m, .inr (.inr (.inr (.inr f)))))) (ho : ∀ a, o = some a → a < n ∨ CST ≤ a) : okE n (.inl (t, m, .inr (.inr (.inr (.inr (va_up f j o)))))) := by
  intro i a hi
  by_cases hj : i = j
  · subst hj
    have : va_up f i o i = o := by simp [va_up]
    rw [this] at hi
    exact ho a hi
  · have : va_up f j o i = f i := by simp [va_up, hj]
    rw [this] at hi
    exact h i a hi
theorem rA_up (ad : Nat → Nat) (m j : Nat) (f : Nat → Option Nat) (o : Option Nat) : rA ad (m, .inr (.inr (.inr (.inr (va_up f j o))))) = (m, .inr (.inr (.inr (.inr (va_up (fun i => (f i).map ad) j (o.map ad)))))) := by
  show (m, Sum.inr (Sum.inr (Sum.inr (Sum.inr (fun i => (va_up f j o i).map ad))))) = _
  have : (fun i => (va_up f j o i).map ad) = va_up (fun i => (f i).map ad) j (o.map ad) := by
    funext i
    by_cases hj : i = j
    · subst hj; simp [va_up]
    · simp [va_up, hj]
  rw [this]
/-- a Code into an array of Codes -/
theorem J_aastC {a n v : Nat} {vs : List Value} {f : Nat → Option Nat} {i : Int32} (d : decode M.2.1 pc = .ok (.aastore, 1)) (hn : pc + 1 = nx) (he : es[a]? = some (.inl (3, n, .inr (.inr (.inr (.inr f)))))) (hv : es[v]? = some (.inr (2, vs))) (hin : vp_in i n)
    (h : J M R Q n0 nx L rest (es.set a (.inl (3, n, .inr (.inr (.inr (.inr (va_up f i.toNatClampNeg (some v)))))))) k ks) : J M R Q n0 pc L (.ref v :: .int i :: .ref a :: rest) es k ks := by
  subst hn
  intro p l e s m args below meth c D cA ad0 A B0 H locs ls ad hC hR
  have hok : okE es.length (.inl (3, n, .inr (.inr (.inr (.inr (va_up f i.toNatClampNeg (some v))))))) := okE_up (hR.1.2.2.2.1 _ (List.mem_of_getElem? he)) (fun b hb => by cases hb; exact hR.2.2.2.1 _ List.mem_cons_self v rfl)
  have hw := fun H1 locs1 hP hD hS => J.hset (A' := True) (E := e) (below := below) h hC hR hok (ws_tl (ws_tl (ws_tl hR.2.2.2.1))) H1 locs1 hP hD hS
  have hE : rE cA ad (.inl (3, n, .inr (.inr (.inr (.inr (va_up f i.toNatClampNeg (some v))))))) = .inl (cA 3, n, .inr (.inr (.inr (.inr (va_up (fun j => (f j).map ad) i.toNatClampNeg (some (ad v))))))) := by
    show (Sum.inl (cA 3, rA ad _) : va_E) = _
    rw [rA_up]; rfl
  rw [hE] at hw
  exact va_astq (D := D) (r := (RX2, TX2, 3)) hC.1.1 hC.1.2.1 hC.2.2.2.1 hR.1.2.2.2.2.1 hR.1.2.2.2.2.2 hR.2.1 a 3 v 2 (rW_get he) rfl (rW_get hv) rfl hin d hw
theorem J_aastN {a n t : Nat} {f : Nat → Option Nat} {i : Int32} (d : decode M.2.1 pc = .ok (.aastore, 1)) (hn : pc + 1 = nx) (ht : t = 3) (he : es[a]? = some (.inl (t, n, .inr (.inr (.inr (.inr f)))))) (hin : vp_in i n)
    (h : J M R Q n0 nx L rest (es.set a (.inl (t, n, .inr (.inr (.inr (.inr (va_up f i.toNatClampNeg none))))))) k ks) : J M R Q n0 pc L (.null :: .int i :: .ref a :: rest) es k ks := by
  subst hn
  subst ht
  intro p l e s m args below meth c D cA ad0 A B0 H locs ls ad hC hR
  have hok : okE es.length (.inl (3, n, .inr (.inr (.inr (.inr (va_up f i.toNatClampNeg none)))))) := okE_up (hR.1.2.2.2.1 _ (List.mem_of_getElem? he)) (fun b hb => by cases hb)
  have hw := fun H1 locs1 hP hD hS => J.hset (A' := True) (E := e) (below := below) h hC hR hok (ws_tl (ws_tl (ws_tl hR.2.2.2.1))) H1 locs1 hP hD hS
  have hE : rE cA ad (.inl (3, n, .inr (.inr (.inr (.inr (va_up f i.toNatClampNeg none)))))) = .inl (cA 3, n, .inr (.inr (.inr (.inr (va_up (fun j => (f j).map ad) i.toNatClampNeg none))))) := by
    show (Sum.inl (cA 3, rA ad _) : va_E) = _
    rw [rA_up]; rfl
  rw [hE] at hw
  exact va_astqN (D := D) (C := "WhistleBook$Code") hC.1.1 hC.1.2.1 hC.2.2.2.1 hR.1.2.2.2.2.1 hR.1.2.2.2.2.2 hR.2.1 a 3 (rW_get he) rfl hin d hw
end JH
