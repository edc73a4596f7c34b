section JN
variable {M : MI} {R : Room} {Q : Res → List ME → Prop} {n0 pc nx : Nat} {L : List (Option Value)} {rest : List Value} {es : List ME} {k ks : Nat}
def adU (ad : Nat → Nat) (n q : Nat) : Nat → Nat := fun i => if i = n then q else ad i
theorem adU_at (ad : Nat → Nat) (n q : Nat) : adU ad n q n = q := by simp [adU]
theorem adU_ne (ad : Nat → Nat) (n q : Nat) {i : Nat} (h : i ≠ n) : adU ad n q i = ad i := by simp [adU, h]
/-- a new cell: it comes behind the others -/
theorem J.hnew {e : ME} {p : Program} {l : Launch} {E : Env} {s : State} {m : MethodId} {args : Array Value} {below : List Frame} {meth : Method} {c : Code} {D : va_G} {cA : Nat → ClassId} {ad0 : Nat → Nat} {A : Nat → Prop} {B0 : Nat} {H : Heap} {locs : List Loc} {ls : Array Slot} {ad : Nat → Nat} {st : List Value} {k' ks' : Nat}
    (h : J M R Q n0 nx L (.ref es.length :: rest) (es ++ [e]) k' ks') (hC : jC M p l s m args meth c D cA ad0 A B0) (hR : jR M n0 ad0 D cA A s H locs ls ad L st es) (he : okE 0 e) (hst : ∀ v ∈ rest, okV es.length v) (hlt : es.length < CST) (q : Nat) (H1 : Heap)
    (hP : va_P D vwCl (rW cA ad es ++ [(q, rE cA ad e)]) H1) (hD : va_D A (rW cA ad es ++ [(q, rE cA ad e)])) (hS : va_S A s.heap H1 locs) :
    W p l E R s m args below meth c H1 locs k' ks' (vx_MQ below (jQ Q n0 ad0 D cA A) (jX Q n0 ad0 D cA A) args s R.cells R.slots A) (F0 m nx ls (.ref q :: rest.map (rv ad))) := by
  have hag : ∀ i, (i < es.length ∨ CST ≤ i) → adU ad es.length q i = ad i := fun i hi => adU_ne _ _ _ (by omega)
  have hlen : (es ++ [e]).length = es.length + 1 := by rw [List.length_append, List.length_singleton]
  have hW : rW cA (adU ad es.length q) (es ++ [e]) = rW cA ad es ++ [(q, rE cA ad e)] := by
    rw [rW_app, adU_at, rW_congr (Nat.le_refl _) hag hR.1.2.2.2.1, rE_congr hag (he.mono (Nat.zero_le _))]
  have hw := h p l E s m args below meth c D cA ad0 A B0 H1 locs ls (adU ad es.length q) hC ⟨⟨fun i hi => ?_, by rw [hlen]; exact Nat.le_succ_of_le hR.1.2.1, by rw [hlen]; exact hlt, fun e1 h1 => ?_, by rw [hW]; exact hP, by rw [hW]; exact hD⟩, hS, hR.2.2.1.congr hag hR.2.2.2.2, ?_, fun i v hi => (hR.2.2.2.2 i v hi).mono (by rw [hlen]; exact Nat.le_succ _)⟩
  · rw [List.map_cons, rvs_congr hag hst] at hw
    have : rv (adU ad es.length q) (.ref es.length) = .ref q := by show Value.ref _ = _; rw [adU_at]
    rw [this] at hw
    exact hw
  · rcases hi with hi | hi
    · rw [hag i (Or.inl (Nat.lt_of_lt_of_le hi hR.1.2.1))]; exact hR.1.1 i (Or.inl hi)
    · rw [hag i (Or.inr hi)]; exact hR.1.1 i (Or.inr hi)
  · rw [hlen]
    rcases List.mem_append.mp h1 with h1 | h1
    · exact (hR.1.2.2.2.1 e1 h1).mono (Nat.le_succ _)
    · rw [List.mem_singleton.mp h1]; exact he.mono (Nat.zero_le _)
  · rw [hlen]
    exact ws_cons (okV_ref (Or.inl (Nat.lt_succ_self _))) (fun v hv => (hst v hv).mono (Nat.le_succ _))
/-- a class that is made: its link out of own -/
def NL (own : String) (idx ci N : Nat) (fs : List Value) : Prop :=
  ∃ (C : String) (T : u_T) (ty : Nat → FieldType), CLS ci C T N ty ∧ Cond.classLink own idx C ∈ TT ∧ Cond.instantiable C N ∈ TT ∧ Cond.initialized C ∈ TT ∧ (∀ j, j < N → defaultValue (ty j) = vp_V fs j) ∧ (∀ v ∈ fs, ∀ a, v ≠ .ref a)
theorem J_new {ci N idx : Nat} {fs : List Value} (d : decode M.2.1 pc = .ok (.new idx, 3)) (hn : pc + 3 = nx) (lk : NL M.1.cls idx ci N fs) (hlt : es.length < CST) (hk : k + 1 ≤ R.cells) (hks : ks + N ≤ R.slots)
    (h : J M R Q n0 nx L (.ref es.length :: rest) (es ++ [.inr (ci, fs)]) (k + 1) (ks + N)) : J M R Q n0 pc L rest es k ks := by
  subst hn
  intro p l e s m args below meth c D cA ad0 A B0 H locs ls ad hC hR
  obtain ⟨C, T, ty, ⟨hc, hin, hty, hnm⟩, h1, h2, h3, hfs, hnr⟩ := lk
  have hts := hC.1.2.2.2.2.2
  have hE : rE cA ad (.inr (ci, fs)) = .inr (ci, fs) := by
    show (Sum.inr (ci, fs.map (rv ad)) : va_E) = _
    rw [show fs.map (rv ad) = fs from by
      refine (List.map_congr_left (g := id) (fun v hv => ?_)).trans (List.map_id _)
      cases v with
      | ref a => exact absurd rfl (hnr _ hv a)
      | _ => rfl]
  refine va_new (D := D) (ci := ci) (fs := fs) hC.1.1 hC.1.2.1 hts hin ty hty hC.1.2.2.2.2.1 (hts _ h1) (hts _ h2) (hts _ h3) hC.2.2.2.1 hR.1.2.2.2.2.1 hR.1.2.2.2.2.2 hR.2.1 hC.2.2.1.1 hc hfs hk hks d (fun q H1 hP hD hS => ?_)
  exact J.hnew h hC hR (fun v hv a ha => absurd ha (hnr v hv a)) hR.2.2.2.1 hlt q H1 (by rw [hE]; exact hP) (by rw [hE]; exact hD) hS
theorem J.newa {t N : Nat} {at0 : ArrayType} {n : Int32} {x : vp_A} (hat : newarray.typeOf at0 = aty t) (ht : t < 3) (hx : ∀ cA : ClassId, vp_cell cA x = arrV cA N (fun _ => defaultValue (aty t))) (hxr : ∀ ad, rA ad x = x) (hxo : okE 0 (.inl (t, x))) (harr : Cond.arrayClass (newarray.typeOf at0) ∈ TT) (d : decode M.2.1 pc = .ok (.newarray at0, 2)) (hn : pc + 2 = nx) (hn0 : ¬ n < 0) (hN : n.toNatClampNeg = N) (hb : N ≤ 1000000) (hlt : es.length < CST) (hk : k + 1 ≤ R.cells) (hks : ks + N ≤ R.slots)
    (h : J M R Q n0 nx L (.ref es.length :: rest) (es ++ [.inl (t, x)]) (k + 1) (ks + N)) : J M R Q n0 pc L (.int n :: rest) es k ks := by
  subst hn
  intro p l e s m args below meth c D cA ad0 A B0 H locs ls ad hC hR
  have hts := hC.1.2.2.2.2.2
  have hbytes : N * componentBytes (aty t) ≤ 536870912 := by
    match t, ht with
    | 0, _ => show N * 4 ≤ _; omega
    | 1, _ => show N * 8 ≤ _; omega
    | 2, _ => show N * 1 ≤ _; omega
  refine va_newa (D := D) (atype := at0) hC.1.1 hC.1.2.1 (hts _ harr) hat hC.2.2.2.1 hR.1.2.2.2.2.1 hR.1.2.2.2.2.2 hR.2.1 hC.2.2.1.1 (a0 := x) hx hn0 hN hbytes hk hks d (fun q cA1 H1 hK1 hP hD hS => ?_)
  have hcA : cA1 = cA t := by
    have e1 := (hK1.2 5 (cA1, aty t) (by rfl)).2
    have e2 := (hC.2.2.2.1.2 t (cA t, aty t) (by match t, ht with | 0, _ => rfl | 1, _ => rfl | 2, _ => rfl)).2
    match t, ht, e1, e2 with
    | 0, _, e1, e2 => exact Option.some.inj ((show s.vm.findClass _ = some cA1 from e1).symm.trans (show s.vm.findClass _ = some (cA 0) from e2))
    | 1, _, e1, e2 => exact Option.some.inj ((show s.vm.findClass _ = some cA1 from e1).symm.trans (show s.vm.findClass _ = some (cA 1) from e2))
    | 2, _, e1, e2 => exact Option.some.inj ((show s.vm.findClass _ = some cA1 from e1).symm.trans (show s.vm.findClass _ = some (cA 2) from e2))
  subst hcA
  have hE : rE cA ad (.inl (t, x)) = .inl (cA t, x) := by show (Sum.inl (cA t, rA ad x) : va_E) = _; rw [hxr]
  exact J.hnew h hC hR hxo (ws_tl hR.2.2.2.1) hlt q H1 (by rw [hE]; exact hP) (by rw [hE]; exact hD) hS
theorem J_newi {N : Nat} {n : Int32} (harr : Cond.arrayClass .int ∈ TT) (d : decode M.2.1 pc = .ok (.newarray .int, 2)) (hn : pc + 2 = nx) (hn0 : ¬ n < 0) (hN : n.toNatClampNeg = N) (hb : N ≤ 1000000) (hlt : es.length < CST) (hk : k + 1 ≤ R.cells) (hks : ks + N ≤ R.slots)
    (h : J M R Q n0 nx L (.ref es.length :: rest) (es ++ [.inl (0, N, .inl (fun _ => 0))]) (k + 1) (ks + N)) : J M R Q n0 pc L (.int n :: rest) es k ks :=
  J.newa (t := 0) (at0 := .int) (x := (N, .inl (fun _ => 0))) rfl (by decide) (fun cA => rfl) (fun _ => rfl) trivial harr d hn hn0 hN hb hlt hk hks h
theorem J_newl {N : Nat} {n : Int32} (harr : Cond.arrayClass .long ∈ TT) (d : decode M.2.1 pc = .ok (.newarray .long, 2)) (hn : pc + 2 = nx) (hn0 : ¬ n < 0) (hN : n.toNatClampNeg = N) (hb : N ≤ 1000000) (hlt : es.length < CST) (hk : k + 1 ≤ R.cells) (hks : ks + N ≤ R.slots)
    (h : J M R Q n0 nx L (.ref es.length :: rest) (es ++ [.inl (1, N, .inr (.inl (fun _ => 0)))]) (k + 1) (ks + N)) : J M R Q n0 pc L (.int n :: rest) es k ks :=
  J.newa (t := 1) (at0 := .long) (x := (N, .inr (.inl (fun _ => 0)))) rfl (by decide) (fun cA => rfl) (fun _ => rfl) trivial harr d hn hn0 hN hb hlt hk hks h
theorem J_newb {N : Nat} {n : Int32} (harr : Cond.arrayClass .byte ∈ TT) (d : decode M.2.1 pc = .ok (.newarray .byte, 2)) (hn : pc + 2 = nx) (hn0 : ¬ n < 0) (hN : n.toNatClampNeg = N) (hb : N ≤ 1000000) (hlt : es.length < CST) (hk : k + 1 ≤ R.cells) (hks : ks + N ≤ R.slots)
    (h : J M R Q n0 nx L (.ref es.length :: rest) (es ++ [.inl (2, N, .inl (fun _ => 0))]) (k + 1) (ks + N)) : J M R Q n0 pc L (.int n :: rest) es k ks :=
  J.newa (t := 2) (at0 := .byte) (x := (N, .inl (fun _ => 0))) rfl (by decide) (fun cA => rfl) (fun _ => rfl) trivial harr d hn hn0 hN hb hlt hk hks h
theorem J_newq {t N idx : Nat} {C : String} {n : Int32} (ht : (t = 3 ∧ C = "WhistleBook$Code") ∨ (t = 4 ∧ C = "WhistleBook$Word")) (lk : Cond.classLink M.1.cls idx C ∈ TT) (d : decode M.2.1 pc = .ok (.anewarray idx, 3)) (hn : pc + 3 = nx) (hn0 : ¬ n < 0) (hN : n.toNatClampNeg = N) (hb : N ≤ 1000000) (hlt : es.length < CST) (hk : k + 1 ≤ R.cells) (hks : ks + N ≤ R.slots)
    (h : J M R Q n0 nx L (.ref es.length :: rest) (es ++ [.inl (t, N, .inr (.inr (.inr (.inr (fun _ => none)))))]) (k + 1) (ks + N)) : J M R Q n0 pc L (.int n :: rest) es k ks := by
  subst hn
  intro p l e s m args below meth c D cA ad0 A B0 H locs ls ad hC hR
  have hts := hC.1.2.2.2.2.2
  have hAO : va_AO C s := by
    rcases ht with ⟨-, rfl⟩ | ⟨-, rfl⟩
    · exact hC.2.2.2.2.1.2.2.2.2.1
    · exact hC.2.2.2.2.1.2.2.2.2.2.1
  refine va_newq (D := D) hC.1.1 hC.1.2.1 hC.1.2.2.2.2.1 (hts _ lk) hAO hC.2.2.2.1 hR.1.2.2.2.2.1 hR.1.2.2.2.2.2 hR.2.1 hC.2.2.1.1 hn0 hN (by omega) hk hks d (fun q cA1 H1 hK1 hP hD hS => ?_)
  have hcA : cA1 = cA t := by
    have e1 := (hK1.2 5 (cA1, .object C) (by rfl)).2
    obtain ⟨_, _, _, _, _, e1⟩ := e1
    rcases ht with ⟨rfl, rfl⟩ | ⟨rfl, rfl⟩
    · obtain ⟨_, _, _, _, _, e2⟩ := (hC.2.2.2.1.2 3 (cA 3, aty 3) (by rfl)).2
      exact Option.some.inj (e1.symm.trans e2)
    · obtain ⟨_, _, _, _, _, e2⟩ := (hC.2.2.2.1.2 4 (cA 4, aty 4) (by rfl)).2
      exact Option.some.inj (e1.symm.trans e2)
  subst hcA
  exact J.hnew h hC hR (fun j a ha => by cases ha) (ws_tl hR.2.2.2.1) hlt q H1 hP hD hS
/-! calls -/
theorem met_of {l : Launch} {y : MethodName} {ws : List Cond} {rm : Room} {Pc : Array Value → State → Prop} {Qc : Array Value → State → Outcome → State → Prop} {XC : String → State → State → Prop} {mc ms : Nat} {free : Addr → Prop} (h : vx_Met l y ws rm Pc Qc XC mc ms free) (hX : ∀ E st t, ¬ XC E st t) : Met l y ws rm Pc Qc mc ms free := by
  intro p e ha hc hk s m args below hf happ hP hK
  obtain ⟨n, o, h1, h2, h3, hQ⟩ := h p e ha hc hk s m args below hf happ hP hK
  rcases hQ with hQ | ⟨q, -, E, ce, L, hx, -⟩
  · exact ⟨n, o, h1, h2, h3, hQ⟩
  · exact absurd hx (hX _ _ _)
theorem TT_good {w : Cond} (h : w ∈ TT) : goodWord w = true := by simpa using (List.mem_filter.mp h).2
theorem TT_of {i : Nat} {w : Cond} (h : lw_tbl[i]? = some w) (g : goodWord w = true) : w ∈ TT := List.mem_filter.mpr ⟨List.mem_of_getElem? h, by simpa using g⟩
/-- what the tables say of a method that is called: its code, how many arguments -/
def ML (M' : MI) (n : Nat) : Prop :=
  Cond.code M'.1 M'.2.1 M'.2.2.1 M'.2.2.2 ∈ TT ∧ Cond.initialized M'.1.cls ∈ TT ∧ (M'.1.cls ≠ "java/lang/invoke/MethodHandle" ∧ M'.1.cls ≠ "java/lang/invoke/VarHandle") ∧ (parseMethodDescriptor M'.1.desc).map (fun d => d.parameters.length) = some n
theorem ML.callB {M' : MI} {n idx : Nat} {own : String} {R0 R' : Room} {s : State} {args : Array Value} (h : ML M' n) (hl : Cond.methodLink own idx M'.1 ∈ TT) (hts : ∀ w ∈ TT, w.before args s = true) (hroom : R'.frames + 1 ≤ R0.frames ∧ 8 + (M'.2.2.1 + 11) + R'.locals ≤ R0.locals) :
    CallB R0 s args own idx M'.1 M'.2.1 M'.2.2.1 M'.2.2.2 (wsA M') R' R'.cells R'.slots n := by
  refine ⟨rfl, rfl, hroom.1, hroom.2, fun w hw a' U hW => ?_, List.mem_cons_self, hts _ h.1, hts _ h.2.1, h.2.2.1, fun sig hs => ?_, hts _ hl⟩
  · have hw' : w ∈ TT := by
      rcases List.mem_cons.mp hw with rfl | hw
      · exact h.1
      · exact hw
    exact word_at hW (good_of_word (TT_good hw')) (hts w hw')
  · have h4 := h.2.2.2
    rw [hs] at h4
    exact (Option.some.inj h4).symm
theorem jB_blind {av : List Value} {sz B0 : Nat} {D : va_G} {cA : Nat → ClassId} {ad : Nat → Nat} {es : List ME} : FrameBlind (va_Pc av (fun U => U.heap.size = sz ∧ B0 ≤ sz ∧ va_P D vwCl (rW cA ad es) U.heap ∧ va_K D vwCl (tysA cA) U ∧ va_D (fun q : Nat => B0 ≤ q) (rW cA ad es) ∧ KC B0 ad U U.heap)) := by
  intro a U g mk q
  obtain ⟨q0, q1, q2, q3, q4, q5, q6⟩ := q
  exact ⟨q0, q1, q2, q3, va_K.moved (u := U) (U := U.calling g mk a) (Vm.Alike.refl U.vm) q4, q5, KC.moved q6 (State.WarmedH.refl U) (fun _ _ _ => rfl) (fun _ _ => rfl)⟩
/-- behind a call -/
theorem J.after {p : Program} {l : Launch} {E : Env} {s : State} {m : MethodId} {args : Array Value} {below : List Frame} {meth : Method} {c : Code} {D : va_G} {cA : Nat → ClassId} {ad0 : Nat → Nat} {A : Nat → Prop} {B0 : Nat} {H : Heap} {locs : List Loc} {ls : Array Slot} {ad : Nat → Nat} {st : List Value} {st0 : List Value} {Q' : Res → List ME → Prop} {mc ms : Nat} {a : Array Value}
    (hC : jC M p l s m args meth c D cA ad0 A B0) (hR : jR M n0 ad0 D cA A s H locs ls ad L st es) (hst : ∀ v ∈ rest, okV es.length v) (hc : k + mc ≤ R.cells) (hs : ks + ms ≤ R.slots)
    (hx : ∀ E es', Q' (.inr E) es' → Q (.inr E) es') (h : ∀ v es', Q' (.inl v) es' → J M R Q n0 (pc + 3) L (v.toList ++ rest) es' (k + mc) (ks + ms))
    (hr : vx_Run p l E R s m args below meth c H locs k ks mc ms (F0 m pc ls st0) (rest.map (rv ad)) (jQ Q' es.length ad D cA (va_A (rW cA ad es) H.size) a) (jX Q' es.length ad D cA (va_A (rW cA ad es) H.size)) (va_A (rW cA ad es) H.size)) :
    W p l E R s m args below meth c H locs k ks (vx_MQ below (jQ Q n0 ad0 D cA A) (jX Q n0 ad0 D cA A) args s R.cells R.slots A) (F0 m pc ls st0) := by
  have hA : ∀ q, va_A (rW cA ad es) H.size q → A q := by
    rintro q (⟨i, e, hi⟩ | hq)
    · exact hR.1.2.2.2.2.2.2 i _ hi
    · exact hC.2.2.1.1 q (Nat.le_trans hR.2.1.1 hq)
  have hag0 : ∀ {es' : List ME} {ad' : Nat → Nat} {H1 : Heap}, jE es.length ad D cA (va_A (rW cA ad es) H.size) ad' es' H1 → jE n0 ad0 D cA A ad' es' H1 := by
    intro es' ad' H1 h1
    refine ⟨fun i hi => ?_, Nat.le_trans hR.1.2.1 h1.2.1, h1.2.2.1, h1.2.2.2.1, h1.2.2.2.2.1, h1.2.2.2.2.2.weaken (fun _ q _ hq => hA _ hq)⟩
    rcases hi with hi | hi
    · rw [h1.1 i (Or.inl (Nat.lt_of_lt_of_le hi hR.1.2.1))]; exact hR.1.1 i (Or.inl hi)
    · rw [h1.1 i (Or.inr hi)]; exact hR.1.1 i (Or.inr hi)
  intro T hT X
  rcases hr T hT X with ⟨v, st₀, t, T', Lc, h0, X', hL, e1, e2, ⟨⟨v', es', ad', hv, hq, hE, -, hvo⟩, hF⟩, hgo⟩ | ⟨q, st₀, t, T', Lc, E1, ce, h0, X', hL, e1, e2, ⟨⟨es', ad', hq, hE, -⟩, hF⟩, hce, hcv, hcl, hst1⟩
  · obtain ⟨k1, k2, k3⟩ := vx_keep h0 e1 hR.2.1 (fun q _ h => hA q h) hA hL hF
    have hv' : v = v'.map (rv ad') := by injection hv
    have hw := h v' es' hq p l E s m args below meth c D cA ad0 A B0 T'.heap (locs ++ Lc) ls ad' hC ⟨by rw [e1]; exact hag0 hE, k3, hR.2.2.1.congr hE.1 hR.2.2.2.2, ?_, fun i w hi => (hR.2.2.2.2 i w hi).mono hE.2.1⟩
    · obtain ⟨t2, a1, b1⟩ := hw T' rfl X'
      refine ⟨t2, hgo t2 ?_, b1⟩
      have : (v'.toList ++ rest).map (rv ad') = v.toList ++ rest.map (rv ad) := by
        rw [List.map_append, rvs_congr hE.1 hst, hv']
        cases v' <;> rfl
      rw [this] at a1
      exact a1
    · intro w hw
      rcases List.mem_append.mp hw with hw | hw
      · cases v' with
        | none => cases hw
        | some z => rw [List.mem_singleton.mp hw]; exact hvo z rfl
      · exact (hst w hw).mono hE.2.1
  · obtain ⟨k1, k2, k3⟩ := vx_keep h0 e1 hR.2.1 (fun q _ h => hA q h) hA hL hF
    have hlocks := hC.2.1.1
    have hcl' : T'.heap[q]? = some ce := by rw [e1]; exact hce
    have hout : vx_W p l E R s m args below meth c T'.heap (locs ++ Lc) (k + mc) (ks + ms) (vx_MQ below (jQ Q n0 ad0 D cA A) (jX Q n0 ad0 D cA A) args s R.cells R.slots A) (F0 m pc ls (rest.map (rv ad))) q :=
      vx_out (fun x hx => (hC.2.1.2.2 x hx).elim) hlocks hcl' hcv hcl (fun t1 ht1 hAl => ⟨⟨es', ad', hx _ _ hq, by rw [ht1, e1]; exact hag0 hE, va_K.moved hAl hC.2.2.2.1⟩, k3.F ht1⟩) k3.2.2 hc hs
    obtain ⟨t2, a1, b1⟩ := hout T' rfl X'
    exact ⟨t2, hst1.trans a1, b1⟩
theorem jR.preB {p : Program} {l : Launch} {s : State} {m : MethodId} {args : Array Value} {meth : Method} {c : Code} {D : va_G} {cA : Nat → ClassId} {ad0 : Nat → Nat} {A : Nat → Prop} {B0 : Nat} {H : Heap} {locs : List Loc} {ls : Array Slot} {ad : Nat → Nat} {st : List Value} (hC : jC M p l s m args meth c D cA ad0 A B0) (hR : jR M n0 ad0 D cA A s H locs ls ad L st es) (U : State) (hU : U.heap = H) (hW : s.WarmedH U.vm) :
    U.heap.size = H.size ∧ B0 ≤ H.size ∧ va_P D vwCl (rW cA ad es) U.heap ∧ va_K D vwCl (tysA cA) U ∧ va_D (fun q : Nat => B0 ≤ q) (rW cA ad es) ∧ KC B0 ad U U.heap :=
  ⟨by rw [hU], Nat.le_trans hC.2.2.1.2.2 hR.2.1.1, by rw [hU]; exact hR.1.2.2.2.2.1, va_K.moved hW.alike hC.2.2.2.1, hR.1.2.2.2.2.2.weaken (fun _ q _ h => hC.2.2.1.2.1 _ h), by rw [hU]; exact KC.moved hC.2.2.2.2.1 hW (fun a h1 h2 => hR.2.1.2.1 a h1 (fun z => h2 (hC.2.2.1.2.1 a z))) (fun i hi => hR.1.1 i (Or.inr hi))⟩
theorem J_callS {M' : MI} {R' : Room} {As : List Value} {Q' : Res → List ME → Prop} {idx n : Nat} (d : decode M.2.1 pc = .ok (.invokestatic idx, 3)) (hn : pc + 3 = nx) (hml : ML M' n) (hlk : Cond.methodLink M.1.cls idx M'.1 ∈ TT) (hstat : Cond.static M'.1 ∈ TT) (hA : As.length = n) (hroom : R'.frames + 1 ≤ R.frames ∧ 8 + (M'.2.2.1 + 11) + R'.locals ≤ R.locals) (hcat : (rest.map fun v => v.category).sum ≤ 8) (hk : k + R'.cells ≤ R.cells ∧ ks + R'.slots ≤ R.slots)
    (hct : Ct M' R' As es Q') (hx : ∀ E es', Q' (.inr E) es' → Q (.inr E) es') (h : ∀ v es', Q' (.inl v) es' → J M R Q n0 nx L (v.toList ++ rest) es' (k + R'.cells) (ks + R'.slots)) : J M R Q n0 pc L (As.reverse ++ rest) es k ks := by
  subst hn
  intro p l e s m args below meth c D cA ad0 A B0 H locs ls ad hC hR
  have hts := hC.1.2.2.2.2.2
  have hokA : ∀ v ∈ As, okV es.length v := fun v hv => hR.2.2.2.1 v (List.mem_append_left _ (List.mem_reverse.mpr hv))
  have hokr : ∀ v ∈ rest, okV es.length v := fun v hv => hR.2.2.2.1 v (List.mem_append_right _ hv)
  have hM := hct hokA hR.1.2.2.2.1 hR.1.2.2.1 l hC.2.2.2.2.2 ad D cA B0 H.size
  refine J.after hC hR hokr hk.1 hk.2 hx h (vx_runS (As := As.map (rv ad)) (n := n) (nL := M.2.2.1) (own := M.1.cls) (Ts := TT) ⟨hC.1.1, hC.1.2.1, hC.1.2.2.1, hC.1.2.2.2.2.1, hts⟩ hM ⟨hml.callB hlk hts hroom, hts _ hstat⟩ ⟨jB_blind, fun U hU hW => ⟨rfl, jR.preB hC hR U hU hW⟩⟩ rfl (by rw [List.length_map]; exact hA) hR.2.2.1.1 ?_ (lv_room ?_) d hk)
  · show (As.reverse ++ rest).map (rv ad) = _
    rw [List.map_append, List.map_reverse]
  · rw [List.map_map]
    have : ((fun v => v.category) ∘ rv ad) = fun v => v.category := by funext v; exact rv_cat ad v
    rw [this]; exact hcat
theorem J_callV {M' : MI} {R' : Room} {b ci : Nat} {fs As : List Value} {Q' : Res → List ME → Prop} {idx n : Nat} (d : decode M.2.1 pc = .ok (.invokevirtual idx, 3)) (hn : pc + 3 = nx) (hml : ML M' n) (hlk : Cond.methodLink M.1.cls idx M'.1 ∈ TT) (hins : Cond.instanceMethod M'.1 ∈ TT ∧ Cond.selects M'.1.cls M'.1 M'.1 ∈ TT) {T : u_T} {N : Nat} (hcl : vwCl[ci]? = some (M'.1.cls, T, N)) (he : es[b]? = some (.inr (ci, fs))) (hA : As.length = n) (hroom : R'.frames + 1 ≤ R.frames ∧ 8 + (M'.2.2.1 + 11) + R'.locals ≤ R.locals) (hcat : (rest.map fun v => v.category).sum ≤ 8) (hk : k + R'.cells ≤ R.cells ∧ ks + R'.slots ≤ R.slots)
    (hct : Ct M' R' (.ref b :: As) es Q') (hx : ∀ E es', Q' (.inr E) es' → Q (.inr E) es') (h : ∀ v es', Q' (.inl v) es' → J M R Q n0 nx L (v.toList ++ rest) es' (k + R'.cells) (ks + R'.slots)) : J M R Q n0 pc L (As.reverse ++ .ref b :: rest) es k ks := by
  subst hn
  intro p l e s m args below meth c D cA ad0 A B0 H locs ls ad hC hR
  have hts := hC.1.2.2.2.2.2
  have hokA : ∀ v ∈ Value.ref b :: As, okV es.length v := fun v hv => by
    rcases List.mem_cons.mp hv with rfl | hv
    · exact hR.2.2.2.1 _ (List.mem_append_right _ List.mem_cons_self)
    · exact hR.2.2.2.1 v (List.mem_append_left _ (List.mem_reverse.mpr hv))
  have hokr : ∀ v ∈ rest, okV es.length v := fun v hv => hR.2.2.2.1 v (List.mem_append_right _ (List.mem_cons_of_mem _ hv))
  have hM := hct hokA hR.1.2.2.2.1 hR.1.2.2.1 l hC.2.2.2.2.2 ad D cA B0 H.size
  refine J.after hC hR hokr hk.1 hk.2 hx h (vx_runV (C := M'.1.cls) (b := ad b) (As := As.map (rv ad)) (n := n) (nL := M.2.2.1) (own := M.1.cls) (Ts := TT) ⟨hC.1.1, hC.1.2.1, hC.1.2.2.1, hC.1.2.2.2.2.1, hts⟩ hM ⟨hml.callB hlk hts hroom, hts _ hins.1, hts _ hins.2⟩ ⟨jB_blind, va_recv hC.2.2.2.1 hR.1.2.2.2.2.1 hcl (rW_get he), fun U hU hW => ⟨rfl, jR.preB hC hR U hU hW⟩⟩ rfl (by rw [List.length_map]; exact hA) hR.2.2.1.1 ?_ (lv_room ?_) d hk)
  · show (As.reverse ++ .ref b :: rest).map (rv ad) = _
    rw [List.map_append, List.map_reverse]; rfl
  · rw [List.map_map]
    have : ((fun v => v.category) ∘ rv ad) = fun v => v.category := by funext v; exact rv_cat ad v
    rw [this]; exact hcat
/-- a constructor that returns -/
theorem J_callI {M' : MI} {R' : Room} {b : Nat} {As : List Value} {Q' : Res → List ME → Prop} {idx n : Nat} (d : decode M.2.1 pc = .ok (.invokespecial idx, 3)) (hn : pc + 3 = nx) (hml : ML M' n) (hlk : Cond.methodLink M.1.cls idx M'.1 ∈ TT) (hins : Cond.instanceMethod M'.1 ∈ TT) (hin : M'.1.name = "<init>") (hret : M'.2.2.2 = none) (hA : As.length = n) (hroom : R'.frames + 1 ≤ R.frames ∧ 8 + (M'.2.2.1 + 11) + R'.locals ≤ R.locals) (hcat : (rest.map fun v => v.category).sum ≤ 8) (hk : k + R'.cells ≤ R.cells ∧ ks + R'.slots ≤ R.slots)
    (hct : Ct M' R' (.ref b :: As) es Q') (hx : ∀ E es', ¬ Q' (.inr E) es') (h : ∀ v es', Q' (.inl v) es' → J M R Q n0 nx L (v.toList ++ rest) es' (k + R'.cells) (ks + R'.slots)) : J M R Q n0 pc L (As.reverse ++ .ref b :: rest) es k ks := by
  subst hn
  intro p l e s m args below meth c D cA ad0 A B0 H locs ls ad hC hR
  have hts := hC.1.2.2.2.2.2
  have hokA : ∀ v ∈ Value.ref b :: As, okV es.length v := fun v hv => by
    rcases List.mem_cons.mp hv with rfl | hv
    · exact hR.2.2.2.1 _ (List.mem_append_right _ List.mem_cons_self)
    · exact hR.2.2.2.1 v (List.mem_append_left _ (List.mem_reverse.mpr hv))
  have hokr : ∀ v ∈ rest, okV es.length v := fun v hv => hR.2.2.2.1 v (List.mem_append_right _ (List.mem_cons_of_mem _ hv))
  have hM := met_of (hct hokA hR.1.2.2.2.1 hR.1.2.2.1 l hC.2.2.2.2.2 ad D cA B0 H.size) (fun E st t z => by obtain ⟨⟨es', ad', hq, -⟩, -⟩ := z; exact hx _ _ hq)
  have hcb := hml.callB (own := M.1.cls) hlk hts hroom
  rw [hret] at hcb
  have hr := va_runI (meth := meth) (b := ad b) (As := As.map (rv ad)) (rest := rest.map (rv ad)) (g := F0 m pc ls ((As.reverse ++ .ref b :: rest).map (rv ad))) (n := n) (nL := M.2.2.1) (own := M.1.cls) (Ts := TT) (cells := k) (slots := ks) (locs := locs) (R := R) (below := below) (l := l) (e := e) ⟨hC.1.1, hC.1.2.1, hC.1.2.2.1, hC.1.2.2.2.2.1, hts⟩ hM ⟨hcb, hin, hts _ hins⟩ ⟨jB_blind, fun U hU hW => ⟨rfl, jR.preB hC hR U hU hW⟩⟩ rfl (by rw [List.length_map]; exact hA) hR.2.2.1.1 (by show (As.reverse ++ .ref b :: rest).map (rv ad) = _; rw [List.map_append, List.map_reverse]; rfl) (lv_room (by
    rw [List.map_map]
    have : ((fun v => v.category) ∘ rv ad) = fun v => v.category := by funext v; exact rv_cat ad v
    rw [this]; exact hcat)) d hk
  exact J.after hC hR hokr hk.1 hk.2 (fun E es' z => absurd z (hx _ _)) h (fun T hT X => Or.inl (hr T hT X))
/-- Object() -/
theorem J_objInit {b idx : Nat} (d : decode M.2.1 pc = .ok (.invokespecial idx, 3)) (hn : pc + 3 = nx) (hlk : Cond.methodLink M.1.cls idx Lib.objectInit ∈ TT) (hins : Cond.instanceMethod Lib.objectInit ∈ TT) (hcode : Cond.code Lib.objectInit ⟨#[0xb1]⟩ 1 none ∈ TT) (hcat : (rest.map fun v => v.category).sum ≤ 8) (hroom : 1 ≤ R.frames ∧ 20 ≤ R.locals) (h : J M R Q n0 nx L rest es k ks) : J M R Q n0 pc L (.ref b :: rest) es k ks := by
  subst hn
  intro p l e s m args below meth c D cA ad0 A B0 H locs ls ad hC hR
  have hts := hC.1.2.2.2.2.2
  have hw := h p l e s m args below meth c D cA ad0 A B0 H locs ls ad hC ⟨hR.1, hR.2.1, hR.2.2.1, ws_tl hR.2.2.2.1, hR.2.2.2.2⟩
  refine W.objInit (g := F0 m pc ls (.ref (ad b) :: rest.map (rv ad))) (rest := rest.map (rv ad)) hC.1.1 hC.1.2.1 hC.1.2.2.2.2.1 (hts _ hlk) (hts _ hins) (hts _ hcode) rfl (hR.2.2.1.1.trans hC.1.2.2.1.symm) rfl d hroom.1 ?_ hw
  have h1 : 2 * (F0 m pc ls (.ref (ad b) :: rest.map (rv ad))).monitorRoom + ((rest.map (rv ad)).map fun v => v.category).sum ≤ 8 := lv_room (by
    rw [List.map_map]
    have : ((fun v => v.category) ∘ rv ad) = fun v => v.category := by funext v; exact rv_cat ad v
    rw [this]; exact hcat)
  omega
end JN
