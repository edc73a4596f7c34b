/-! J: the walk of one method over LOGICAL worlds. A world is a list of cells; a reference is a place in it; ad tells where place i stands in the heap. Constants (enum constants, strings) have places from CST on. -/
def CST : Nat := 1000000
abbrev MI : Type := MethodName × ByteArray × Nat × Option FieldType
abbrev ME : Type := va_E
abbrev Res : Type := Option Value ⊕ String
def TT : List Cond := lw_tbl.filter goodWord
def aty : Nat → FieldType := fun t => match t with
  | 0 => .int
  | 1 => .long
  | 2 => .byte
  | 3 => .object "WhistleBook$Code"
  | _ => .object "WhistleBook$Word"
def tysA (cA : Nat → ClassId) : List (ClassId × FieldType) := [(cA 0, aty 0), (cA 1, aty 1), (cA 2, aty 2), (cA 3, aty 3), (cA 4, aty 4)]
def rv (ad : Nat → Nat) (v : Value) : Value := match v with
  | .ref a => .ref (ad a)
  | w => w
def rA (ad : Nat → Nat) (x : vp_A) : vp_A := match x with
  | (n, .inr (.inr (.inr (.inr f)))) => (n, .inr (.inr (.inr (.inr (fun j => (f j).map ad)))))
  | y => y
def rE (cA : Nat → ClassId) (ad : Nat → Nat) (e : ME) : va_E := match e with
  | .inl (t, x) => .inl (cA t, rA ad x)
  | .inr (ci, fs) => .inr (ci, fs.map (rv ad))
def rW (cA : Nat → ClassId) (ad : Nat → Nat) (es : List ME) : va_W := es.mapIdx (fun i e => (ad i, rE cA ad e))
def okV (n : Nat) (v : Value) : Prop := ∀ a, v = .ref a → a < n ∨ CST ≤ a
def okE (n : Nat) (e : ME) : Prop := match e with
  | .inl (_, (_, .inr (.inr (.inr (.inr f))))) => ∀ j a, f j = some a → a < n ∨ CST ≤ a
  | .inl _ => True
  | .inr (_, fs) => ∀ v ∈ fs, okV n v
theorem rv_int (ad : Nat → Nat) (x : Int32) : rv ad (.int x) = .int x := rfl
theorem rv_long (ad : Nat → Nat) (x : Int64) : rv ad (.long x) = .long x := rfl
theorem rv_null (ad : Nat → Nat) : rv ad .null = .null := rfl
theorem rv_ref (ad : Nat → Nat) (a : Nat) : rv ad (.ref a) = .ref (ad a) := rfl
theorem rv_cat (ad : Nat → Nat) (v : Value) : (rv ad v).category = v.category := by cases v <;> rfl
theorem okV.mono {n n' : Nat} {v : Value} (h : okV n v) (hn : n ≤ n') : okV n' v := fun a e => (h a e).imp (fun z => Nat.lt_of_lt_of_le z hn) id
theorem okE.mono {n n' : Nat} {e : ME} (h : okE n e) (hn : n ≤ n') : okE n' e := by
  obtain ⟨t, m, f | f | f | f | f⟩ | ⟨ci, fs⟩ := e
  · trivial
  · trivial
  · trivial
  · trivial
  · exact fun j a e => (h j a e).imp (fun z => Nat.lt_of_lt_of_le z hn) id
  · exact fun v hv => (h v hv).mono hn
theorem okV_int (n : Nat) (x : Int32) : okV n (.int x) := fun a e => by cases e
theorem okV_long (n : Nat) (x : Int64) : okV n (.long x) := fun a e => by cases e
theorem okV_null (n : Nat) : okV n .null := fun a e => by cases e
theorem okV_ref {n a : Nat} (h : a < n ∨ CST ≤ a) : okV n (.ref a) := fun b e => by cases e; exact h
theorem rv_congr {ad ad' : Nat → Nat} {n : Nat} (h : ∀ k, (k < n ∨ CST ≤ k) → ad' k = ad k) {v : Value} (hv : okV n v) : rv ad' v = rv ad v := by
  cases v with
  | ref a => show Value.ref (ad' a) = Value.ref (ad a); rw [h a (hv a rfl)]
  | _ => rfl
theorem rE_congr {cA : Nat → ClassId} {ad ad' : Nat → Nat} {n : Nat} (h : ∀ k, (k < n ∨ CST ≤ k) → ad' k = ad k) {e : ME} (he : okE n e) : rE cA ad' e = rE cA ad e := by
  obtain ⟨t, m, f | f | f | f | f⟩ | ⟨ci, fs⟩ := e
  · rfl
  · rfl
  · rfl
  · rfl
  · show (Sum.inl (cA t, m, .inr (.inr (.inr (.inr (fun j => (f j).map ad'))))) : va_E) = .inl (cA t, m, .inr (.inr (.inr (.inr (fun j => (f j).map ad)))))
    have hf : (fun j => (f j).map ad') = (fun j => (f j).map ad) := by
      funext j
      cases hj : f j with
      | none => rfl
      | some a => show some (ad' a) = some (ad a); rw [h a (he j a hj)]
    rw [hf]
  · show (Sum.inr (ci, fs.map (rv ad')) : va_E) = .inr (ci, fs.map (rv ad))
    rw [List.map_congr_left (fun v hv => rv_congr h (he v hv))]
theorem rW_len (cA : Nat → ClassId) (ad : Nat → Nat) (es : List ME) : (rW cA ad es).length = es.length := List.length_mapIdx
theorem rW_get? (cA : Nat → ClassId) (ad : Nat → Nat) (es : List ME) (k : Nat) : (rW cA ad es)[k]? = (es[k]?).map (fun e => (ad k, rE cA ad e)) := by
  show (es.mapIdx _)[k]? = _
  rw [List.getElem?_mapIdx]
theorem rW_get {cA : Nat → ClassId} {ad : Nat → Nat} {es : List ME} {k : Nat} {e : ME} (h : es[k]? = some e) : (rW cA ad es)[k]? = some (ad k, rE cA ad e) := by
  rw [rW_get?, h]; rfl
theorem rW_set (cA : Nat → ClassId) (ad : Nat → Nat) (es : List ME) (k : Nat) (e : ME) : rW cA ad (es.set k e) = (rW cA ad es).set k (ad k, rE cA ad e) := by
  apply List.ext_getElem?
  intro i
  rw [rW_get?]
  by_cases hi : k = i
  · subst hi
    by_cases hl : k < es.length
    · rw [List.getElem?_set_self hl, List.getElem?_set_self (by rw [rW_len]; exact hl)]; rfl
    · rw [List.getElem?_eq_none (by rw [List.length_set]; omega), List.getElem?_eq_none (by rw [List.length_set, rW_len]; omega)]; rfl
  · rw [List.getElem?_set_ne hi, List.getElem?_set_ne hi, rW_get?]
theorem rW_app (cA : Nat → ClassId) (ad : Nat → Nat) (es : List ME) (e : ME) : rW cA ad (es ++ [e]) = rW cA ad es ++ [(ad es.length, rE cA ad e)] := by
  apply List.ext_getElem?
  intro i
  rw [rW_get?]
  by_cases hl : i < es.length
  · rw [List.getElem?_append_left hl, List.getElem?_append_left (by rw [rW_len]; exact hl), rW_get?]
  · by_cases h2 : i = es.length
    · subst h2
      rw [List.getElem?_append_right (Nat.le_refl _), List.getElem?_append_right (by rw [rW_len]; exact Nat.le_refl _), rW_len, Nat.sub_self]; rfl
    · rw [List.getElem?_eq_none (by rw [List.length_append, List.length_singleton]; omega), List.getElem?_eq_none (by rw [List.length_append, List.length_singleton, rW_len]; omega)]; rfl
theorem rW_congr {cA : Nat → ClassId} {ad ad' : Nat → Nat} {es : List ME} {n : Nat} (hn : es.length ≤ n) (h : ∀ k, (k < n ∨ CST ≤ k) → ad' k = ad k) (he : ∀ e ∈ es, okE n e) : rW cA ad' es = rW cA ad es := by
  apply List.ext_getElem?
  intro i
  rw [rW_get?, rW_get?]
  cases hi : es[i]? with
  | none => rfl
  | some e =>
    have hl : i < es.length := (List.getElem?_eq_some_iff.mp hi).1
    show some (ad' i, rE cA ad' e) = some (ad i, rE cA ad e)
    rw [h i (Or.inl (by omega)), rE_congr h (he e (List.mem_of_getElem? hi))]
theorem rvs_congr {ad ad' : Nat → Nat} {n : Nat} (h : ∀ k, (k < n ∨ CST ≤ k) → ad' k = ad k) {st : List Value} (hv : ∀ v ∈ st, okV n v) : st.map (rv ad') = st.map (rv ad) := List.map_congr_left (fun v h1 => rv_congr h (hv v h1))
/-- the locals, by their places -/
def jL (ls : Array Slot) (nL : Nat) (ad : Nat → Nat) (L : List (Option Value)) : Prop := ls.size = nL ∧ lv_wf ls ∧ ∀ (i : Nat) (v : Value), L[i]? = some (some v) → ls[i]? = some (.val (rv ad v))
def lvs (ad : Nat → Nat) (L : List (Option Value)) : List (Nat × Value) := L.zipIdx.filterMap (fun q => q.1.map (fun v => (q.2, rv ad v)))
theorem mem_lvs {ad : Nat → Nat} {L : List (Option Value)} {q : Nat × Value} : q ∈ lvs ad L ↔ ∃ v, L[q.1]? = some (some v) ∧ q.2 = rv ad v := by
  obtain ⟨i, w⟩ := q
  constructor
  · intro h
    obtain ⟨⟨o, j⟩, h1, h2⟩ := List.mem_filterMap.mp h
    have h3 := List.mem_zipIdx_iff_getElem?.mp h1
    cases o with
    | none => cases h2
    | some v =>
      cases h2
      exact ⟨v, h3, rfl⟩
  · rintro ⟨v, h1, h2⟩
    refine List.mem_filterMap.mpr ⟨(some v, i), List.mem_zipIdx_iff_getElem?.mpr h1, ?_⟩
    show some (i, rv ad v) = some (i, w)
    rw [show w = rv ad v from h2]
theorem jL.has {ls : Array Slot} {nL : Nat} {ad : Nat → Nat} {L : List (Option Value)} (h : jL ls nL ad L) : lv_has ls nL (lvs ad L) := by
  refine ⟨h.1, h.2.1, fun q hq => ?_⟩
  obtain ⟨v, h1, h2⟩ := mem_lvs.mp hq
  rw [h2]
  exact h.2.2 _ _ h1
/-- no long or double begins one place ahead of i -/
def c2 (L : List (Option Value)) (i : Nat) : Bool := match i with
  | 0 => true
  | j + 1 => match L[j]? with
    | some (some w) => w.category != 2
    | _ => true
theorem c2_spec {L : List (Option Value)} {i : Nat} (h : c2 L i = true) {j : Nat} {w : Value} (hj : j + 1 = i) (hw : L[j]? = some (some w)) : ¬ w.category = 2 := by
  subst hj
  have h : (match L[j]? with | some (some w) => w.category != 2 | _ => true) = true := h
  rw [hw] at h
  simpa using h
theorem jL.set1 {ls : Array Slot} {nL i : Nat} {ad : Nat → Nat} {L : List (Option Value)} {v x : Value} (hx : x = rv ad v) (hc : c2 L i = true) (h : lv_has ls nL ((i, x) :: (lvs ad L).filter (fun q => !(q.1 == i) && !(q.1 + 1 == i && q.2.category == 2)))) : jL ls nL ad (L.set i (some v)) := by
  refine ⟨h.1, h.2.1, fun j w hj => ?_⟩
  by_cases hi : i = j
  · subst hi
    have hl : i < L.length := by
      have := (List.getElem?_eq_some_iff.mp hj).1
      rwa [List.length_set] at this
    rw [List.getElem?_set_self hl] at hj
    cases hj
    rw [← hx]
    exact h.2.2 (i, x) List.mem_cons_self
  · rw [List.getElem?_set_ne hi] at hj
    refine h.2.2 (j, rv ad w) (List.mem_cons_of_mem _ (List.mem_filter.mpr ⟨mem_lvs.mpr ⟨w, hj, rfl⟩, ?_⟩))
    have h1 : (j == i) = false := beq_false_of_ne (fun z => hi z.symm)
    show (!(j == i) && !(j + 1 == i && (rv ad w).category == 2)) = true
    rw [h1, rv_cat]
    by_cases h2 : j + 1 = i
    · have := c2_spec hc h2 hj
      simp [this]
    · simp [h2]
theorem jL.set2 {ls : Array Slot} {nL i : Nat} {ad : Nat → Nat} {L : List (Option Value)} {v x : Value} (hx : x = rv ad v) (hc : c2 L i = true) (h : lv_has ls nL ((i, x) :: (lvs ad L).filter (fun q => !(q.1 == i) && (!(q.1 == i + 1) && !(q.1 + 1 == i && q.2.category == 2))))) : jL ls nL ad ((L.set i (some v)).set (i + 1) none) := by
  refine ⟨h.1, h.2.1, fun j w hj => ?_⟩
  by_cases hi1 : i + 1 = j
  · subst hi1
    exfalso
    have hl : i + 1 < L.length := by
      have := (List.getElem?_eq_some_iff.mp hj).1
      rwa [List.length_set, List.length_set] at this
    rw [List.getElem?_set_self (by rw [List.length_set]; exact hl)] at hj
    cases hj
  · rw [List.getElem?_set_ne hi1] at hj
    by_cases hi : i = j
    · subst hi
      have hl : i < L.length := by
        have := (List.getElem?_eq_some_iff.mp hj).1
        rwa [List.length_set] at this
      rw [List.getElem?_set_self hl] at hj
      cases hj
      rw [← hx]
      exact h.2.2 (i, x) List.mem_cons_self
    · rw [List.getElem?_set_ne hi] at hj
      refine h.2.2 (j, rv ad w) (List.mem_cons_of_mem _ (List.mem_filter.mpr ⟨mem_lvs.mpr ⟨w, hj, rfl⟩, ?_⟩))
      have h1 : (j == i) = false := beq_false_of_ne (fun z => hi z.symm)
      have h3 : (j == i + 1) = false := beq_false_of_ne (fun z => hi1 z.symm)
      show (!(j == i) && (!(j == i + 1) && !(j + 1 == i && (rv ad w).category == 2))) = true
      rw [h1, h3, rv_cat]
      by_cases h2 : j + 1 = i
      · have := c2_spec hc h2 hj
        simp [this]
      · simp [h2]
theorem jL.kill {ls : Array Slot} {nL i : Nat} {ad : Nat → Nat} {L : List (Option Value)} (h : jL ls nL ad L) : jL ls nL ad (L.set i none) := by
  refine ⟨h.1, h.2.1, fun j w hj => ?_⟩
  by_cases hi : i = j
  · subst hi
    exfalso
    have hl : i < L.length := by
      have := (List.getElem?_eq_some_iff.mp hj).1
      rwa [List.length_set] at this
    rw [List.getElem?_set_self hl] at hj
    cases hj
  · rw [List.getElem?_set_ne hi] at hj
    exact h.2.2 j w hj
theorem jL.congr {ls : Array Slot} {nL n : Nat} {ad ad' : Nat → Nat} {L : List (Option Value)} (h : jL ls nL ad L) (ha : ∀ k, (k < n ∨ CST ≤ k) → ad' k = ad k) (hv : ∀ (i : Nat) (v : Value), L[i]? = some (some v) → okV n v) : jL ls nL ad' L :=
  ⟨h.1, h.2.1, fun i v hi => by rw [rv_congr ha (hv i v hi)]; exact h.2.2 i v hi⟩
