/-! contracts of what catches -/
abbrev wsX (hh : List (Nat × Nat × Nat × Nat)) (M : MI) : List Cond := Cond.codeWith M.1 M.2.1 M.2.2.1 M.2.2.2 hh :: TT
def CtX (hh : List (Nat × Nat × Nat × Nat)) (M : MI) (R : Room) (args : List Value) (es : List ME) (Q : Res → List ME → Prop) : Prop :=
  (∀ v ∈ args, okV es.length v) → (∀ e ∈ es, okE es.length e) → es.length ≤ CST → ∀ (l : Launch), l.stackTraces = false → ∀ (ad : Nat → Nat) (D : va_G) (cA : Nat → ClassId) (B0 sz : Nat),
    vx_Met l M.1 (wsX hh M) R (va_Pc (args.map (rv ad)) (fun U => U.heap.size = sz ∧ B0 ≤ sz ∧ va_P D vwCl (rW cA ad es) U.heap ∧ va_K D vwCl (tysA cA) U ∧ va_D (fun q : Nat => B0 ≤ q) (rW cA ad es) ∧ KC B0 ad U U.heap))
      (jQ Q es.length ad D cA (va_A (rW cA ad es) sz)) (jX Q es.length ad D cA (va_A (rW cA ad es) sz)) R.cells R.slots (va_A (rW cA ad es) sz)
theorem CtX.of {hh : List (Nat × Nat × Nat × Nat)} {M : MI} {R : Room} {args : List Value} {es : List ME} {Q : Res → List ME → Prop} (hy : plainName M.1.cls = true) (hn : (iL args).length ≤ M.2.2.1)
    (h : Jx hh M R Q es.length 0 (iL args ++ List.replicate (M.2.2.1 - (iL args).length) none) [] es 0 0) : CtX hh M R args es Q := by
  intro ha he hc l hl ad D cA B0 sz
  refine vx_ofWH (cc := M.2.1) (maxL := M.2.2.1) (ret := M.2.2.2) (hh := hh) hy rfl ?_
  intro p e s m args' below meth c s₁ B hml hv
  obtain ⟨rfl, hsz, hB0, hP, hK, hD0, hKC⟩ := hv
  subst hsz
  have hts := atoms_spec (ws := wsX hh M) B.pre
  have htb := vx_table (x := M.1) B (hts _ List.mem_cons_self)
  have hE := lv_entry (args.map (rv ad)) (n := M.2.2.1) (by rw [iL_len]; exact hn)
  rw [lg_entry_eq]
  refine h p l e s m _ below meth c D cA ad (va_A (rW cA ad es) s.heap.size) B0 s.heap [] _ ad ⟨⟨B.exec, B.bytes, hml, B.returns, findClass_of_methodNamed B.named, fun w hw => hts w (List.mem_cons_of_mem _ hw)⟩, ⟨B.notSynchronized, (name_of_methodNamed B.named B.method).1, htb⟩, ⟨fun q hq => Or.inr hq, ?_, hB0⟩, hK, hKC, hl⟩
    ⟨⟨fun k _ => rfl, Nat.le_refl _, hc, he, hP, hD0.self⟩, va_S.rf, ⟨hE.1, hE.2.1, ?_⟩, fun v hv => (by cases hv), ?_⟩
  · rintro q (⟨k, e, hk⟩ | hq)
    · exact hD0.2 k _ hk
    · exact Nat.le_trans hB0 hq
  · intro i v hi
    have := hE.2.2 _ (iL_args ad args 0 i v (iL_pad hi))
    rwa [Nat.zero_add] at this
  · intro i v hi
    exact iL_ok args ha i v (iL_pad hi)
theorem cw_13 : Cond.classLink RL 13 x_iae ∈ TT := TT_of (i := 624) (by decide +kernel) rfl
theorem cw_15 : Cond.classLink RL 15 x_uoe ∈ TT := TT_of (i := 625) (by decide +kernel) rfl
theorem cw_27 : Cond.classLink RL 27 x_iob ∈ TT := TT_of (i := 963) (by decide +kernel) rfl
theorem cw_29 : Cond.classLink RL 29 x_nse ∈ TT := TT_of (i := 964) (by decide +kernel) rfl
theorem ca_iae : Cond.castable x_iae x_iae ∈ lw_tbl := List.mem_of_getElem? (i := 851) (by decide +kernel)
theorem ca_uoe : Cond.castable x_uoe x_uoe ∈ lw_tbl := List.mem_of_getElem? (i := 918) (by decide +kernel)
theorem ca_iob : Cond.castable x_iob x_iob ∈ lw_tbl := List.mem_of_getElem? (i := 977) (by decide +kernel)
theorem ca_nse : Cond.castable x_nse x_nse ∈ lw_tbl := List.mem_of_getElem? (i := 995) (by decide +kernel)
/-- what a wrapper answers: the code; the value in the law's long -/
def WrL (C : Int32 → Int64 → GS → Prop) : Res → List ME → Prop := RXi (fun k g2 => ∃ v g1 w, g2 = sB g1 82 w ∧ (k = 0 → w 0 = v) ∧ C k v g1)
def WrI (C : Int32 → Int32 → GS → Prop) : Res → List ME → Prop := RXi (fun k g2 => ∃ v g1 w, g2 = sB g1 82 w ∧ (k = 0 → w 0 = v.toInt64) ∧ C k v g1)
def WrV (C : Int32 → GS → Prop) : Res → List ME → Prop := RXi C
theorem sB_id (g : GS) (c : Nat) : sB g c (gB g c) = g := by
  have h : (fun c' => bif Nat.beq c' c then gB g c else gB g c') = gB g := by
    funext c'
    cases hb : Nat.beq c' c with
    | false => rfl
    | true => rw [Nat.eq_of_beq_eq_true hb]; rfl
  show (gF g, gA g, (fun c' => bif Nat.beq c' c then gB g c else gB g c'), gV g, gP g, gT g) = g
  rw [h]; rfl
theorem WrL.thr {C : Int32 → Int64 → GS → Prop} {k : Int32} {v : Int64} {g1 : GS} {es : List ME} (e : es = Wd g1) (hk : ¬ k = 0) (h : C k v g1) : WrL C (.inl (some (.int k))) es := by
  subst e
  exact ⟨k, g1, rfl, rfl, v, g1, gB g1 82, (sB_id g1 82).symm, fun z => absurd z hk, h⟩
theorem WrI.thr {C : Int32 → Int32 → GS → Prop} {k : Int32} {v : Int32} {g1 : GS} {es : List ME} (e : es = Wd g1) (hk : ¬ k = 0) (h : C k v g1) : WrI C (.inl (some (.int k))) es := by
  subst e
  exact ⟨k, g1, rfl, rfl, v, g1, gB g1 82, (sB_id g1 82).symm, fun z => absurd z hk, h⟩
theorem Jxt_82 {hh : List (Nat × Nat × Nat × Nat)} {M : MI} {R : Room} {Q : Res → List ME → Prop} {n0 pc nx : Nat} {L : List (Option Value)} {rest : List Value} {k ks : Nat} {g : GS} {x : Int64} (d : decode M.2.1 pc = .ok (.lastore, 1)) (hn : pc + 1 = nx) (h : Jx hh M R Q n0 nx L (rest) (Wd (sB g 82 (vp_updL (gB g 82) 0 x))) k ks) : Jx hh M R Q n0 pc L (.long x :: .int 0 :: .ref 82 :: rest) (Wd g) k ks := Jx_last d hn (es := Wd g) (a := 82) (n := 1) (i := 0) rfl (fun z => z.elim (by decide) (by decide)) h
