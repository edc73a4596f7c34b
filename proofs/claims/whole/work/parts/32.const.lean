
/-! constants: Words and strings -/
theorem jKW {M : MI} {p : Program} {l : Launch} {s : State} {m : MethodId} {args : Array Value} {meth : Method} {c : Code} {D : va_G} {cA : Nat → ClassId} {ad0 : Nat → Nat} {A : Nat → Prop} {B0 : Nat} (hC : jC M p l s m args meth c D cA ad0 A B0) : KW B0 ad0 s s.heap := hC.2.2.2.2.1.2.2.2.2.2.2
theorem jRk {M : MI} {n0 : Nat} {ad0 : Nat → Nat} {D : va_G} {cA : Nat → ClassId} {A : Nat → Prop} {s : State} {H : Heap} {locs : List Loc} {ls : Array Slot} {ad : Nat → Nat} {L : List (Option Value)} {st : List Value} {es : List ME} (hR : jR M n0 ad0 D cA A s H locs ls ad L st es) (k : Nat) (hk : CST ≤ k) : ad k = ad0 k := hR.1.1 k (Or.inr hk)
theorem J_getsW {M : MI} {R : Room} {Q : Res → List ME → Prop} {n0 pc nx : Nat} {L : List (Option Value)} {rest : List Value} {es : List ME} {k ks : Nat} {j : Nat} {idx : Nat} (d : decode M.2.1 pc = .ok (.getstatic idx, 3)) (hn : pc + 3 = nx) (hj : j < 23) (lk : Cond.fieldLink M.1.cls idx "WhistleBook$Word" (wNm.getD j "") "LWhistleBook$Word;" ∈ TT) (h : J M R Q n0 nx L (.ref (CST + j) :: rest) es k ks) : J M R Q n0 pc L (rest) es k ks := by
  subst hn
  intro p l e s m args below meth c D cA ad0 A B0 H locs ls ad hC hR
  have hw := h p l e s m args below meth c D cA ad0 A B0 H locs ls ad hC ⟨hR.1, hR.2.1, hR.2.2.1, ws_cons (okV_ref (Or.inr (by omega))) hR.2.2.2.1, hR.2.2.2.2⟩
  have hz := ((jKW hC).1 j hj |>.1).narrow hC.2.2.1.2.1
  rw [← jRk hR (CST + j) (by omega)] at hz
  exact va_gets hC.1.1 hC.1.2.1 hz hR.2.1 hC.1.2.2.2.2.1 (hC.1.2.2.2.2.2 _ lk) (fun _ h9 => h9) d hw
theorem J_getsALL {M : MI} {R : Room} {Q : Res → List ME → Prop} {n0 pc nx : Nat} {L : List (Option Value)} {rest : List Value} {es : List ME} {k ks : Nat}  {idx : Nat} (d : decode M.2.1 pc = .ok (.getstatic idx, 3)) (hn : pc + 3 = nx) (lk : Cond.fieldLink M.1.cls idx "WhistleBook$Word" "ALL" "[LWhistleBook$Word;" ∈ TT) (h : J M R Q n0 nx L (.ref (CST + 23) :: rest) es k ks) : J M R Q n0 pc L (rest) es k ks := by
  subst hn
  intro p l e s m args below meth c D cA ad0 A B0 H locs ls ad hC hR
  have hw := h p l e s m args below meth c D cA ad0 A B0 H locs ls ad hC ⟨hR.1, hR.2.1, hR.2.2.1, ws_cons (okV_ref (Or.inr (by omega))) hR.2.2.2.1, hR.2.2.2.2⟩
  have hz := ((jKW hC).2.2.1).narrow hC.2.2.1.2.1
  rw [← jRk hR (CST + 23) (by omega)] at hz
  exact va_gets hC.1.1 hC.1.2.1 hz hR.2.1 hC.1.2.2.2.2.1 (hC.1.2.2.2.2.2 _ lk) (fun _ h9 => h9) d hw
theorem J_getsCS {M : MI} {R : Room} {Q : Res → List ME → Prop} {n0 pc nx : Nat} {L : List (Option Value)} {rest : List Value} {es : List ME} {k ks : Nat}  {idx : Nat} (d : decode M.2.1 pc = .ok (.getstatic idx, 3)) (hn : pc + 3 = nx) (lk : Cond.fieldLink M.1.cls idx "java/lang/String" "COMPACT_STRINGS" "Z" ∈ TT) (h : J M R Q n0 nx L (.int 1 :: rest) es k ks) : J M R Q n0 pc L (rest) es k ks := by
  subst hn
  intro p l e s m args below meth c D cA ad0 A B0 H locs ls ad hC hR
  have hw := h p l e s m args below meth c D cA ad0 A B0 H locs ls ad hC ⟨hR.1, hR.2.1, hR.2.2.1, ws_cons (okV_int _ _) hR.2.2.2.1, hR.2.2.2.2⟩
  have hz := ((jKW hC).2.2.2.2.2.2.1).narrow hC.2.2.1.2.1
  exact va_gets hC.1.1 hC.1.2.1 hz hR.2.1 hC.1.2.2.2.2.1 (hC.1.2.2.2.2.2 _ lk) (fun _ h9 => h9) d hw
theorem J_getsSF {M : MI} {R : Room} {Q : Res → List ME → Prop} {n0 pc nx : Nat} {L : List (Option Value)} {rest : List Value} {es : List ME} {k ks : Nat}  {idx : Nat} (d : decode M.2.1 pc = .ok (.getstatic idx, 3)) (hn : pc + 3 = nx) (lk : Cond.fieldLink M.1.cls idx "jdk/internal/util/Preconditions" "SIOOBE_FORMATTER" "Ljava/util/function/BiFunction;" ∈ TT) (h : ∀ v : Value, (v = .null ∨ v = .ref (CST + 70)) → J M R Q n0 nx L (v :: rest) es k ks) : J M R Q n0 pc L (rest) es k ks := by
  subst hn
  intro p l e s m args below meth c D cA ad0 A B0 H locs ls ad hC hR
  rcases (jKW hC).2.2.2.2.2.2.2 with hz | hz
  · have hw := h .null (Or.inl rfl) p l e s m args below meth c D cA ad0 A B0 H locs ls ad hC ⟨hR.1, hR.2.1, hR.2.2.1, ws_cons (okV_null _) hR.2.2.2.1, hR.2.2.2.2⟩
    have hz := hz.narrow hC.2.2.1.2.1
    exact va_gets hC.1.1 hC.1.2.1 hz hR.2.1 hC.1.2.2.2.2.1 (hC.1.2.2.2.2.2 _ lk) (fun _ h9 => h9) d hw
  · have hw := h (.ref (CST + 70)) (Or.inr rfl) p l e s m args below meth c D cA ad0 A B0 H locs ls ad hC ⟨hR.1, hR.2.1, hR.2.2.1, ws_cons (okV_ref (Or.inr (by omega))) hR.2.2.2.1, hR.2.2.2.2⟩
    have hz := hz.narrow hC.2.2.1.2.1
    rw [← jRk hR (CST + 70) (by omega)] at hz
    exact va_gets hC.1.1 hC.1.2.1 hz hR.2.1 hC.1.2.2.2.2.1 (hC.1.2.2.2.2.2 _ lk) (fun _ h9 => h9) d hw
theorem J_wletters {M : MI} {R : Room} {Q : Res → List ME → Prop} {n0 pc nx : Nat} {L : List (Option Value)} {rest : List Value} {es : List ME} {k ks : Nat} {j idx : Nat} (d : decode M.2.1 pc = .ok (.getfield idx, 3)) (hn : pc + 3 = nx) (hj : j < 23) (lk : Cond.fieldLink M.1.cls idx "WhistleBook$Word" "letters" "Ljava/lang/String;" ∈ TT) (h : J M R Q n0 nx L (.ref (CST + 24 + j) :: rest) es k ks) : J M R Q n0 pc L (.ref (CST + j) :: rest) es k ks := by
  subst hn
  intro p l e s m args below meth c D cA ad0 A B0 H locs ls ad hC hR
  have hw := h p l e s m args below meth c D cA ad0 A B0 H locs ls ad hC ⟨hR.1, hR.2.1, hR.2.2.1, ws_cons (okV_ref (Or.inr (by omega))) (ws_tl hR.2.2.2.1), hR.2.2.2.2⟩
  have hz := (((jKW hC).1 j hj).2.2.1).narrow hC.2.2.1.2.1
  skip
  rw [← jRk hR (CST + 24 + j) (by omega), ← jRk hR (CST + j) (by omega)] at hz
  exact vk_getf hC.1.1 hC.1.2.1 hz hR.2.1 hC.1.2.2.2.2.1 (hC.1.2.2.2.2.2 _ lk) (fun _ h9 => h9) d hw
theorem J_wvalue {M : MI} {R : Room} {Q : Res → List ME → Prop} {n0 pc nx : Nat} {L : List (Option Value)} {rest : List Value} {es : List ME} {k ks : Nat} {j idx : Nat} (d : decode M.2.1 pc = .ok (.getfield idx, 3)) (hn : pc + 3 = nx) (hj : j < 23) (lk : Cond.fieldLink M.1.cls idx "java/lang/String" "value" "[B" ∈ TT) (h : J M R Q n0 nx L (.ref (CST + 47 + j) :: rest) es k ks) : J M R Q n0 pc L (.ref (CST + 24 + j) :: rest) es k ks := by
  subst hn
  intro p l e s m args below meth c D cA ad0 A B0 H locs ls ad hC hR
  have hw := h p l e s m args below meth c D cA ad0 A B0 H locs ls ad hC ⟨hR.1, hR.2.1, hR.2.2.1, ws_cons (okV_ref (Or.inr (by omega))) (ws_tl hR.2.2.2.1), hR.2.2.2.2⟩
  have hz := (((jKW hC).2.2.2.2.1.1 j hj).2.2.1).narrow hC.2.2.1.2.1
  dsimp only at hz
  rw [← jRk hR (CST + 47 + j) (by omega), ← jRk hR (CST + 24 + j) (by omega)] at hz
  exact vk_getf hC.1.1 hC.1.2.1 hz hR.2.1 hC.1.2.2.2.2.1 (hC.1.2.2.2.2.2 _ lk) (fun _ h9 => h9) d hw
theorem J_wcoder {M : MI} {R : Room} {Q : Res → List ME → Prop} {n0 pc nx : Nat} {L : List (Option Value)} {rest : List Value} {es : List ME} {k ks : Nat} {j idx : Nat} (d : decode M.2.1 pc = .ok (.getfield idx, 3)) (hn : pc + 3 = nx) (hj : j < 23) (lk : Cond.fieldLink M.1.cls idx "java/lang/String" "coder" "B" ∈ TT) (h : J M R Q n0 nx L (.int 0 :: rest) es k ks) : J M R Q n0 pc L (.ref (CST + 24 + j) :: rest) es k ks := by
  subst hn
  intro p l e s m args below meth c D cA ad0 A B0 H locs ls ad hC hR
  have hw := h p l e s m args below meth c D cA ad0 A B0 H locs ls ad hC ⟨hR.1, hR.2.1, hR.2.2.1, ws_cons (okV_int _ _) (ws_tl hR.2.2.2.1), hR.2.2.2.2⟩
  have hz := (((jKW hC).2.2.2.2.1.1 j hj).2.1).narrow hC.2.2.1.2.1
  dsimp only at hz
  rw [← jRk hR (CST + 24 + j) (by omega)] at hz
  exact vk_getf hC.1.1 hC.1.2.1 hz hR.2.1 hC.1.2.2.2.2.1 (hC.1.2.2.2.2.2 _ lk) (fun _ h9 => h9) d hw
theorem J_wfact {M : MI} {R : Room} {Q : Res → List ME → Prop} {n0 pc nx : Nat} {L : List (Option Value)} {rest : List Value} {es : List ME} {k ks : Nat} {j idx : Nat} (d : decode M.2.1 pc = .ok (.getfield idx, 3)) (hn : pc + 3 = nx) (hj : j < 23) (lk : Cond.fieldLinkNest M.1.cls idx "WhistleBook$Word" "fact" "I" "WhistleBook" ∈ lw_tbl) (h : J M R Q n0 nx L (.int (wFact.getD j 0) :: rest) es k ks) : J M R Q n0 pc L (.ref (CST + j) :: rest) es k ks := by
  subst hn
  intro p l e s m args below meth c D cA ad0 A B0 H locs ls ad hC hR
  have hw := h p l e s m args below meth c D cA ad0 A B0 H locs ls ad hC ⟨hR.1, hR.2.1, hR.2.2.1, ws_cons (okV_int _ _) (ws_tl hR.2.2.2.1), hR.2.2.2.2⟩
  have hz := (((jKW hC).1 j hj).2.2.2).narrow hC.2.2.1.2.1
  rw [← jRk hR (CST + j) (by omega)] at hz
  obtain ⟨cf, kc, fi, f, cell, h1, h2, h3, h4, h5, h6⟩ := hz.kept hR.2.1.2.1
  exact va_Wgetf hC.1.1 hC.1.2.1 hC.1.2.2.2.2.1 (va_Nw.use rfl (hC.2.2.2.2.1.2.2.1 _ _ _ _ _ _ lk)) h1 h2 h3 h4 (v := .int (wFact.getD j 0)) h5 rfl rfl d hw
theorem J_alenALL {M : MI} {R : Room} {Q : Res → List ME → Prop} {n0 pc nx : Nat} {L : List (Option Value)} {rest : List Value} {es : List ME} {k ks : Nat} (d : decode M.2.1 pc = .ok (.arraylength, 1)) (hn : pc + 1 = nx) (h : J M R Q n0 nx L (.int 23 :: rest) es k ks) : J M R Q n0 pc L (.ref (CST + 23) :: rest) es k ks := by
  subst hn
  intro p l e s m args below meth c D cA ad0 A B0 H locs ls ad hC hR
  have hw := h p l e s m args below meth c D cA ad0 A B0 H locs ls ad hC ⟨hR.1, hR.2.1, hR.2.2.1, ws_cons (okV_int _ _) (ws_tl hR.2.2.2.1), hR.2.2.2.2⟩
  have hz := ((jKW hC).2.2.2.1).narrow hC.2.2.1.2.1
  rw [← jRk hR (CST + 23) (by omega)] at hz
  exact va_tlen hC.1.1 hC.1.2.1 hz hR.2.1 (v := 23) rfl d hw
theorem J_alenSB {M : MI} {R : Room} {Q : Res → List ME → Prop} {n0 pc nx : Nat} {L : List (Option Value)} {rest : List Value} {es : List ME} {k ks : Nat} {j : Nat} (d : decode M.2.1 pc = .ok (.arraylength, 1)) (hn : pc + 1 = nx) (hj : j < 23) (h : J M R Q n0 nx L (.int (nI (wLen.getD j 0)) :: rest) es k ks) : J M R Q n0 pc L (.ref (CST + 47 + j) :: rest) es k ks := by
  subst hn
  intro p l e s m args below meth c D cA ad0 A B0 H locs ls ad hC hR
  have hw := h p l e s m args below meth c D cA ad0 A B0 H locs ls ad hC ⟨hR.1, hR.2.1, hR.2.2.1, ws_cons (okV_int _ _) (ws_tl hR.2.2.2.1), hR.2.2.2.2⟩
  have hz := (((jKW hC).2.2.2.2.1.1 j hj).2.2.2).narrow hC.2.2.1.2.1
  dsimp only at hz
  rw [← jRk hR (CST + 47 + j) (by omega)] at hz
  exact va_tlen hC.1.1 hC.1.2.1 hz hR.2.1 (v := nI (wLen.getD j 0)) rfl d hw
theorem J_baldSB {M : MI} {R : Room} {Q : Res → List ME → Prop} {n0 pc nx : Nat} {L : List (Option Value)} {rest : List Value} {es : List ME} {k ks : Nat} {j : Nat} {i : Int32} (d : decode M.2.1 pc = .ok (.baload, 1)) (hn : pc + 1 = nx) (hj : j < 23) (hin : vp_in i (wLen.getD j 0)) (h : J M R Q n0 nx L (.int ((wByt.getD j []).getD i.toNatClampNeg 0) :: rest) es k ks) : J M R Q n0 pc L (.int i :: .ref (CST + 47 + j) :: rest) es k ks := by
  subst hn
  intro p l e s m args below meth c D cA ad0 A B0 H locs ls ad hC hR
  have hw := h p l e s m args below meth c D cA ad0 A B0 H locs ls ad hC ⟨hR.1, hR.2.1, hR.2.2.1, ws_cons (okV_int _ _) (ws_tl (ws_tl hR.2.2.2.1)), hR.2.2.2.2⟩
  have hz := (((jKW hC).2.2.2.2.1.1 j hj).2.2.2).narrow hC.2.2.1.2.1
  dsimp only at hz
  rw [← jRk hR (CST + 47 + j) (by omega)] at hz
  exact va_tb hC.1.1 hC.1.2.1 hz hR.2.1 hin (v := .int ((wByt.getD j []).getD i.toNatClampNeg 0)) rfl d hw
theorem J_aaldALL {M : MI} {R : Room} {Q : Res → List ME → Prop} {n0 pc nx : Nat} {L : List (Option Value)} {rest : List Value} {es : List ME} {k ks : Nat} {i : Int32} (d : decode M.2.1 pc = .ok (.aaload, 1)) (hn : pc + 1 = nx) (hin : vp_in i 23) (h : J M R Q n0 nx L (.ref (CST + i.toNatClampNeg) :: rest) es k ks) : J M R Q n0 pc L (.int i :: .ref (CST + 23) :: rest) es k ks := by
  subst hn
  intro p l e s m args below meth c D cA ad0 A B0 H locs ls ad hC hR
  have hw := h p l e s m args below meth c D cA ad0 A B0 H locs ls ad hC ⟨hR.1, hR.2.1, hR.2.2.1, ws_cons (okV_ref (Or.inr (by omega))) (ws_tl (ws_tl hR.2.2.2.1)), hR.2.2.2.2⟩
  have hz := ((jKW hC).2.2.2.1).narrow hC.2.2.1.2.1
  rw [← jRk hR (CST + 23) (by omega)] at hz
  exact vb_tq hC.1.1 hC.1.2.1 hz hR.2.1 hin (v := .ref (ad (CST + i.toNatClampNeg))) (by show Value.ref (ad0 _) = _; rw [jRk hR _ (by omega)]) d hw
theorem J_acmp_eq {M : MI} {R : Room} {Q : Res → List ME → Prop} {n0 pc nx : Nat} {L : List (Option Value)} {rest : List Value} {es : List ME} {k ks : Nat} {i j tgt : Nat} {off : Int} (d : decode M.2.1 pc = .ok (.if_acmp .eq off, 3)) (hn : pc + 3 = nx) (ho : (pc : Int) + off = (tgt : Int)) (hi : i < 23) (hj : j < 23) (ht : i = j → J M R Q n0 tgt L (rest) es k ks) (hf : ¬ i = j → J M R Q n0 nx L (rest) es k ks) : J M R Q n0 pc L (.ref (CST + j) :: .ref (CST + i) :: rest) es k ks := by
  subst hn
  intro p l e s m args below meth c D cA ad0 A B0 H locs ls ad hC hR
  have hr := fun (h : J M R Q n0 tgt L (rest) es k ks) => h p l e s m args below meth c D cA ad0 A B0 H locs ls ad hC ⟨hR.1, hR.2.1, hR.2.2.1, ws_tl (ws_tl hR.2.2.2.1), hR.2.2.2.2⟩
  have hr2 := fun (h : J M R Q n0 (pc + 3) L (rest) es k ks) => h p l e s m args below meth c D cA ad0 A B0 H locs ls ad hC ⟨hR.1, hR.2.1, hR.2.2.1, ws_tl (ws_tl hR.2.2.2.1), hR.2.2.2.2⟩
  refine lv_acmp_eq (rx := some (ad (CST + i))) (ry := some (ad (CST + j))) hC.1.1 hC.1.2.1 d ho (fun z => hr (ht ?_)) (fun z => hr2 (hf (fun q => z (by rw [q]))))
  have z := Option.some.inj z
  rw [jRk hR _ (by omega), jRk hR _ (by omega)] at z
  exact (jKW hC).2.1 i j hi hj z
theorem J_acmp_ne {M : MI} {R : Room} {Q : Res → List ME → Prop} {n0 pc nx : Nat} {L : List (Option Value)} {rest : List Value} {es : List ME} {k ks : Nat} {i j tgt : Nat} {off : Int} (d : decode M.2.1 pc = .ok (.if_acmp .ne off, 3)) (hn : pc + 3 = nx) (ho : (pc : Int) + off = (tgt : Int)) (hi : i < 23) (hj : j < 23) (ht : ¬ i = j → J M R Q n0 tgt L (rest) es k ks) (hf : i = j → J M R Q n0 nx L (rest) es k ks) : J M R Q n0 pc L (.ref (CST + j) :: .ref (CST + i) :: rest) es k ks := by
  subst hn
  intro p l e s m args below meth c D cA ad0 A B0 H locs ls ad hC hR
  have hr := fun (h : J M R Q n0 tgt L (rest) es k ks) => h p l e s m args below meth c D cA ad0 A B0 H locs ls ad hC ⟨hR.1, hR.2.1, hR.2.2.1, ws_tl (ws_tl hR.2.2.2.1), hR.2.2.2.2⟩
  have hr2 := fun (h : J M R Q n0 (pc + 3) L (rest) es k ks) => h p l e s m args below meth c D cA ad0 A B0 H locs ls ad hC ⟨hR.1, hR.2.1, hR.2.2.1, ws_tl (ws_tl hR.2.2.2.1), hR.2.2.2.2⟩
  refine lv_acmp_ne (rx := some (ad (CST + i))) (ry := some (ad (CST + j))) hC.1.1 hC.1.2.1 d ho (fun z => hr (ht (fun q => z (by rw [q])))) (fun z => hr2 (hf ?_))
  have z := Option.some.inj z
  rw [jRk hR _ (by omega), jRk hR _ (by omega)] at z
  exact (jKW hC).2.1 i j hi hj z
theorem J_i2c {M : MI} {R : Room} {Q : Res → List ME → Prop} {n0 pc nx : Nat} {L : List (Option Value)} {rest : List Value} {es : List ME} {k ks : Nat} {x : Int32} (d : decode M.2.1 pc = .ok (.i2c, 1)) (hn : pc + 1 = nx) (h : J M R Q n0 nx L (.int ((x.toUInt32 % 65536).toInt32) :: rest) es k ks) : J M R Q n0 pc L (.int x :: rest) es k ks := by
  subst hn
  exact J.stk (st' := .int ((x.toUInt32 % 65536).toInt32) :: rest) (fun ad hx hb ho ht hw => lv_i2c hx hb d rfl hw) (fun n h => ws_cons (okV_int _ _) (ws_tl h)) h
/-- a Word into a row of the world -/
theorem J_aastW {M : MI} {R : Room} {Q : Res → List ME → Prop} {n0 pc nx : Nat} {L : List (Option Value)} {rest : List Value} {es : List ME} {k ks : Nat} {a n j : Nat} {f : Nat → Option Nat} {i : Int32} (d : decode M.2.1 pc = .ok (.aastore, 1)) (hn : pc + 1 = nx) (hj : j < 23) (he : es[a]? = some (.inl (4, n, .inr (.inr (.inr (.inr f)))))) (hin : vp_in i n)
    (h : J M R Q n0 nx L rest (es.set a (.inl (4, n, .inr (.inr (.inr (.inr (va_up f i.toNatClampNeg (some (CST + j))))))))) k ks) : J M R Q n0 pc L (.ref (CST + j) :: .int i :: .ref a :: rest) es k ks := by
  subst hn
  intro p l e s m args below meth c D cA ad0 A B0 H locs ls ad hC hR
  have hok : okE es.length (.inl (4, n, .inr (.inr (.inr (.inr (va_up f i.toNatClampNeg (some (CST + j)))))))) := okE_up (hR.1.2.2.2.1 _ (List.mem_of_getElem? he)) (fun b hb => by cases hb; exact Or.inr (by omega))
  have hw := fun H1 locs1 hP hD hS => J.hset (A' := True) (E := e) (below := below) h hC hR hok (ws_tl (ws_tl (ws_tl hR.2.2.2.1))) H1 locs1 hP hD hS
  have hE : rE cA ad (.inl (4, n, .inr (.inr (.inr (.inr (va_up f i.toNatClampNeg (some (CST + j)))))))) = .inl (cA 4, n, .inr (.inr (.inr (.inr (va_up (fun q => (f q).map ad) i.toNatClampNeg (some (ad (CST + j)))))))) := by
    show (Sum.inl (cA 4, rA ad _) : va_E) = _
    rw [rA_up]; rfl
  rw [hE] at hw
  have hz := (((jKW hC).1 j hj).2.1).narrow hC.2.2.1.2.1
  rw [← jRk hR (CST + j) (by omega)] at hz
  obtain ⟨cell, q1, q2, q3, -⟩ := hz.kept hR.2.1.2.1
  exact vb_astq (D := D) (E := "WhistleBook$Word") (C := "WhistleBook$Word") hC.1.1 hC.1.2.1 hC.2.2.2.1 hR.1.2.2.2.2.1 hR.1.2.2.2.2.2 hR.2.1 a 4 (rW_get he) rfl ⟨cell, q1, q2, q3⟩ (fun comp c0 z1 z2 => by cases z1.symm.trans z2; exact va_asg _ _) hin d hw
/-- a method of a constant -/
def KRec (C : String) (b : Nat) : Prop := CST ≤ b ∧ ∀ (B0 : Nat) (ad : Nat → Nat) (U : State) (H : Heap), KW B0 ad U H → va_O C (ad b) (fun q : Nat => B0 ≤ q) U H
theorem kw_W {j : Nat} (hj : j < 23) : KRec "WhistleBook$Word" (CST + j) := ⟨by omega, fun B0 ad U H h => (h.1 j hj).2.1⟩
theorem kw_S {j : Nat} (hj : j < 23) : KRec "java/lang/String" (CST + 24 + j) := ⟨by omega, fun B0 ad U H h => (h.2.2.2.2.1.1 j hj).1⟩
theorem J_callVC {M : MI} {R : Room} {Q : Res → List ME → Prop} {n0 pc nx : Nat} {L : List (Option Value)} {rest : List Value} {es : List ME} {k ks : Nat} {M' : MI} {R' : Room} {b : Nat} {As : List Value} {Q' : Res → List ME → Prop} {idx n : Nat} (d : decode M.2.1 pc = .ok (.invokevirtual idx, 3)) (hn : pc + 3 = nx) (hml : ML M' n) (hlk : Cond.methodLink M.1.cls idx M'.1 ∈ TT) (hins : Cond.instanceMethod M'.1 ∈ TT ∧ Cond.selects M'.1.cls M'.1 M'.1 ∈ TT) (hrec : KRec M'.1.cls b) (hA : As.length = n) (hroom : R'.frames + 1 ≤ R.frames ∧ 8 + (M'.2.2.1 + 11) + R'.locals ≤ R.locals) (hcat : (rest.map fun v => v.category).sum ≤ 8) (hk : k + R'.cells ≤ R.cells ∧ ks + R'.slots ≤ R.slots)
    (hct : Ct M' R' (.ref b :: As) es Q') (hx : ∀ E es', Q' (.inr E) es' → Q (.inr E) es') (h : ∀ v es', Q' (.inl v) es' → J M R Q n0 nx L (v.toList ++ rest) es' (k + R'.cells) (ks + R'.slots)) : J M R Q n0 pc L (As.reverse ++ .ref b :: rest) es k ks := by
  subst hn
  intro p l e s m args below meth c D cA ad0 A B0 H locs ls ad hC hR
  have hts := hC.1.2.2.2.2.2
  have hokA : ∀ v ∈ Value.ref b :: As, okV es.length v := fun v hv => by
    rcases List.mem_cons.mp hv with rfl | hv
    · exact hR.2.2.2.1 _ (List.mem_append_right _ List.mem_cons_self)
    · exact hR.2.2.2.1 v (List.mem_append_left _ (List.mem_reverse.mpr hv))
  have hokr : ∀ v ∈ rest, okV es.length v := fun v hv => hR.2.2.2.1 v (List.mem_append_right _ (List.mem_cons_of_mem _ hv))
  have hM := hct hokA hR.1.2.2.2.1 hR.1.2.2.1 l hC.2.2.2.2.2 ad D cA B0 H.size
  have hz := (hrec.2 B0 ad0 s s.heap (jKW hC)).narrow hC.2.2.1.2.1
  rw [← jRk hR b hrec.1] at hz
  obtain ⟨cell, q1, q2, q3, -⟩ := hz.kept hR.2.1.2.1
  refine J.after hC hR hokr hk.1 hk.2 hx h (vx_runV (C := M'.1.cls) (b := ad b) (As := As.map (rv ad)) (n := n) (nL := M.2.2.1) (own := M.1.cls) (Ts := TT) ⟨hC.1.1, hC.1.2.1, hC.1.2.2.1, hC.1.2.2.2.2.1, hts⟩ hM ⟨hml.callB hlk hts hroom, hts _ hins.1, hts _ hins.2⟩ ⟨jB_blind, ⟨cell, q1, q2, q3⟩, fun U hU hW => ⟨rfl, jR.preB hC hR U hU hW⟩⟩ rfl (by rw [List.length_map]; exact hA) hR.2.2.1.1 ?_ (lv_room ?_) d hk)
  · show (As.reverse ++ .ref b :: rest).map (rv ad) = _
    rw [List.map_append, List.map_reverse]; rfl
  · rw [List.map_map]
    have : ((fun v => v.category) ∘ rv ad) = fun v => v.category := by funext v; exact rv_cat ad v
    rw [this]; exact hcat
theorem JkVb0 {M : MI} {R : Room} {Q : Res → List ME → Prop} {n0 pc nx : Nat} {L : List (Option Value)} {rest : List Value} {g g1 : GS} {M' : MI} {R' : Room} {b idx : Nat} {v : Option Value} (d : decode M.2.1 pc = .ok (.invokevirtual idx, 3)) (hn : pc + 3 = nx) (hml : ML M' 0) (hlk : Cond.methodLink M.1.cls idx M'.1 ∈ TT) (hins : Cond.instanceMethod M'.1 ∈ TT ∧ Cond.selects M'.1.cls M'.1 M'.1 ∈ TT) (hrec : KRec M'.1.cls b) (hroom : R'.frames + 1 ≤ R.frames ∧ 8 + (M'.2.2.1 + 11) + R'.locals ≤ R.locals) (hcat : (rest.map fun v => v.category).sum ≤ 8) (hz : R'.cells = 0 ∧ R'.slots = 0) (hct : Ct M' R' (.ref b :: []) (Wd g) (RR (.inl v) g1)) (h : J M R Q n0 nx L (v.toList ++ rest) (Wd g1) 0 0) : J M R Q n0 pc L (.ref b :: rest) (Wd g) 0 0 :=
  J_callVC (b := b) (As := []) d hn hml hlk hins hrec rfl hroom hcat ⟨by rw [hz.1]; exact Nat.zero_le _, by rw [hz.2]; exact Nat.zero_le _⟩ hct (fun E es' hq => by cases hq.1) (fun v' es' hq => by
    obtain ⟨h1, rfl⟩ := hq
    cases h1
    rw [hz.1, hz.2]
    exact h)
theorem JkVb1 {M : MI} {R : Room} {Q : Res → List ME → Prop} {n0 pc nx : Nat} {L : List (Option Value)} {rest : List Value} {g g1 : GS} {M' : MI} {R' : Room} {v1 : Value} {b idx : Nat} {v : Option Value} (d : decode M.2.1 pc = .ok (.invokevirtual idx, 3)) (hn : pc + 3 = nx) (hml : ML M' 1) (hlk : Cond.methodLink M.1.cls idx M'.1 ∈ TT) (hins : Cond.instanceMethod M'.1 ∈ TT ∧ Cond.selects M'.1.cls M'.1 M'.1 ∈ TT) (hrec : KRec M'.1.cls b) (hroom : R'.frames + 1 ≤ R.frames ∧ 8 + (M'.2.2.1 + 11) + R'.locals ≤ R.locals) (hcat : (rest.map fun v => v.category).sum ≤ 8) (hz : R'.cells = 0 ∧ R'.slots = 0) (hct : Ct M' R' (.ref b :: [v1]) (Wd g) (RR (.inl v) g1)) (h : J M R Q n0 nx L (v.toList ++ rest) (Wd g1) 0 0) : J M R Q n0 pc L (v1 :: .ref b :: rest) (Wd g) 0 0 :=
  J_callVC (b := b) (As := [v1]) d hn hml hlk hins hrec rfl hroom hcat ⟨by rw [hz.1]; exact Nat.zero_le _, by rw [hz.2]; exact Nat.zero_le _⟩ hct (fun E es' hq => by cases hq.1) (fun v' es' hq => by
    obtain ⟨h1, rfl⟩ := hq
    cases h1
    rw [hz.1, hz.2]
    exact h)
theorem JkVb3 {M : MI} {R : Room} {Q : Res → List ME → Prop} {n0 pc nx : Nat} {L : List (Option Value)} {rest : List Value} {g g1 : GS} {M' : MI} {R' : Room} {v1 v2 v3 : Value} {b idx : Nat} {v : Option Value} (d : decode M.2.1 pc = .ok (.invokevirtual idx, 3)) (hn : pc + 3 = nx) (hml : ML M' 3) (hlk : Cond.methodLink M.1.cls idx M'.1 ∈ TT) (hins : Cond.instanceMethod M'.1 ∈ TT ∧ Cond.selects M'.1.cls M'.1 M'.1 ∈ TT) (hrec : KRec M'.1.cls b) (hroom : R'.frames + 1 ≤ R.frames ∧ 8 + (M'.2.2.1 + 11) + R'.locals ≤ R.locals) (hcat : (rest.map fun v => v.category).sum ≤ 8) (hz : R'.cells = 0 ∧ R'.slots = 0) (hct : Ct M' R' (.ref b :: [v1, v2, v3]) (Wd g) (RR (.inl v) g1)) (h : J M R Q n0 nx L (v.toList ++ rest) (Wd g1) 0 0) : J M R Q n0 pc L (v3 :: v2 :: v1 :: .ref b :: rest) (Wd g) 0 0 :=
  J_callVC (b := b) (As := [v1, v2, v3]) d hn hml hlk hins hrec rfl hroom hcat ⟨by rw [hz.1]; exact Nat.zero_le _, by rw [hz.2]; exact Nat.zero_le _⟩ hct (fun E es' hq => by cases hq.1) (fun v' es' hq => by
    obtain ⟨h1, rfl⟩ := hq
    cases h1
    rw [hz.1, hz.2]
    exact h)
theorem gs_X7_30 : Cond.fieldLink RX7 30 "WhistleBook$Word" (wNm.getD 0 "") "LWhistleBook$Word;" ∈ TT := TT_of (i := 134) (by decide +kernel) rfl
theorem gs_X8_101 : Cond.fieldLink RX8 101 "WhistleBook$Word" (wNm.getD 1 "") "LWhistleBook$Word;" ∈ TT := TT_of (i := 734) (by decide +kernel) rfl
theorem gs_X8_106 : Cond.fieldLink RX8 106 "WhistleBook$Word" (wNm.getD 19 "") "LWhistleBook$Word;" ∈ TT := TT_of (i := 736) (by decide +kernel) rfl
theorem gs_X8_109 : Cond.fieldLink RX8 109 "WhistleBook$Word" (wNm.getD 5 "") "LWhistleBook$Word;" ∈ TT := TT_of (i := 738) (by decide +kernel) rfl
theorem gs_X8_125 : Cond.fieldLink RX8 125 "WhistleBook$Word" (wNm.getD 3 "") "LWhistleBook$Word;" ∈ TT := TT_of (i := 757) (by decide +kernel) rfl
theorem gs_X8_128 : Cond.fieldLink RX8 128 "WhistleBook$Word" (wNm.getD 4 "") "LWhistleBook$Word;" ∈ TT := TT_of (i := 759) (by decide +kernel) rfl
theorem gs_X8_131 : Cond.fieldLink RX8 131 "WhistleBook$Word" (wNm.getD 2 "") "LWhistleBook$Word;" ∈ TT := TT_of (i := 761) (by decide +kernel) rfl
theorem gs_X8_157 : Cond.fieldLink RX8 157 "WhistleBook$Word" (wNm.getD 9 "") "LWhistleBook$Word;" ∈ TT := TT_of (i := 839) (by decide +kernel) rfl
theorem gs_X8_160 : Cond.fieldLink RX8 160 "WhistleBook$Word" (wNm.getD 10 "") "LWhistleBook$Word;" ∈ TT := TT_of (i := 841) (by decide +kernel) rfl
theorem gs_X8_163 : Cond.fieldLink RX8 163 "WhistleBook$Word" (wNm.getD 11 "") "LWhistleBook$Word;" ∈ TT := TT_of (i := 843) (by decide +kernel) rfl
theorem gs_X8_166 : Cond.fieldLink RX8 166 "WhistleBook$Word" (wNm.getD 8 "") "LWhistleBook$Word;" ∈ TT := TT_of (i := 793) (by decide +kernel) rfl
theorem gs_X8_175 : Cond.fieldLink RX8 175 "WhistleBook$Word" (wNm.getD 6 "") "LWhistleBook$Word;" ∈ TT := TT_of (i := 785) (by decide +kernel) rfl
theorem gs_X8_178 : Cond.fieldLink RX8 178 "WhistleBook$Word" (wNm.getD 7 "") "LWhistleBook$Word;" ∈ TT := TT_of (i := 787) (by decide +kernel) rfl
theorem gs_X8_187 : Cond.fieldLink RX8 187 "WhistleBook$Word" (wNm.getD 12 "") "LWhistleBook$Word;" ∈ TT := TT_of (i := 829) (by decide +kernel) rfl
theorem gs_X8_197 : Cond.fieldLink RX8 197 "WhistleBook$Word" (wNm.getD 13 "") "LWhistleBook$Word;" ∈ TT := TT_of (i := 827) (by decide +kernel) rfl
theorem gs_X8_200 : Cond.fieldLink RX8 200 "WhistleBook$Word" (wNm.getD 14 "") "LWhistleBook$Word;" ∈ TT := TT_of (i := 807) (by decide +kernel) rfl
theorem gs_X8_206 : Cond.fieldLink RX8 206 "WhistleBook$Word" (wNm.getD 15 "") "LWhistleBook$Word;" ∈ TT := TT_of (i := 821) (by decide +kernel) rfl
theorem gf_X8_212 : Cond.fieldLinkNest RX8 212 "WhistleBook$Word" "fact" "I" "WhistleBook" ∈ lw_tbl := List.mem_of_getElem? (i := 2072) (by decide +kernel)
theorem gs_X10_102 : Cond.fieldLink RX10 102 "WhistleBook$Word" "ALL" "[LWhistleBook$Word;" ∈ TT := TT_of (i := 665) (by decide +kernel) rfl
theorem gs_X10_5 : Cond.fieldLink RX10 5 "WhistleBook$Word" (wNm.getD 0 "") "LWhistleBook$Word;" ∈ TT := TT_of (i := 721) (by decide +kernel) rfl
theorem gf_X10_94 : Cond.fieldLink RX10 94 "WhistleBook$Word" "letters" "Ljava/lang/String;" ∈ TT := TT_of (i := 2069) (by decide +kernel) rfl
theorem lk_J0_492 : Cond.methodLink RJ0 492 yJ0_isLatin1_aae02 ∈ TT := TT_of (i := 687) (by decide +kernel) rfl
theorem gf_J0_9 : Cond.fieldLink RJ0 9 "java/lang/String" "value" "[B" ∈ TT := TT_of (i := 2070) (by decide +kernel) rfl
theorem lk_J0_495 : Cond.methodLink RJ0 495 yJ1_charAt_3b067 ∈ TT := TT_of (i := 691) (by decide +kernel) rfl
theorem lk_J0_498 : Cond.methodLink RJ0 498 yJ2_charAt_3b067 ∈ TT := TT_of (i := 702) (by decide +kernel) rfl
theorem gs_J0_1053 : Cond.fieldLink RJ0 1053 "jdk/internal/util/Preconditions" "SIOOBE_FORMATTER" "Ljava/util/function/BiFunction;" ∈ TT := TT_of (i := 697) (by decide +kernel) rfl
theorem lk_J0_1059 : Cond.methodLink RJ0 1059 yJ3_checkIndex_8e157 ∈ TT := TT_of (i := 699) (by decide +kernel) rfl
theorem gs_J0_38 : Cond.fieldLink RJ0 38 "java/lang/String" "COMPACT_STRINGS" "Z" ∈ TT := TT_of (i := 680) (by decide +kernel) rfl
theorem gf_J0_15 : Cond.fieldLink RJ0 15 "java/lang/String" "coder" "B" ∈ TT := TT_of (i := 2071) (by decide +kernel) rfl
theorem lk_J0_335 : Cond.methodLink RJ0 335 yJ0_coder_7d493 ∈ TT := TT_of (i := 676) (by decide +kernel) rfl
theorem lk_J1_9 : Cond.methodLink RJ1 9 yJ0_checkIndex_df160 ∈ TT := TT_of (i := 694) (by decide +kernel) rfl
