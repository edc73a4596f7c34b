/-! the law's own rows: the script, a wrapper's call, the switch -/
/-- what the tables say of a wrapper: its code, its handlers, how many arguments -/
def MLX (hh : List (Nat × Nat × Nat × Nat)) (M' : MI) (n : Nat) : Prop :=
  Cond.codeWith M'.1 M'.2.1 M'.2.2.1 M'.2.2.2 hh ∈ TT ∧ Cond.initialized M'.1.cls ∈ TT ∧ (M'.1.cls ≠ "java/lang/invoke/MethodHandle" ∧ M'.1.cls ≠ "java/lang/invoke/VarHandle") ∧ (parseMethodDescriptor M'.1.desc).map (fun d => d.parameters.length) = some n
theorem MLX.csw {hh : List (Nat × Nat × Nat × Nat)} {M' : MI} {n idx : Nat} {own : String} {R0 R' : Room} {s : State} {args : Array Value} (h : MLX hh M' n) (hl : Cond.methodLink own idx M'.1 ∈ TT) (hstat : Cond.static M'.1 ∈ TT) (hts : ∀ w ∈ TT, w.before args s = true) (hroom : R'.frames + 1 ≤ R0.frames ∧ 8 + (M'.2.2.1 + 11) + R'.locals ≤ R0.locals) :
    vx_CSW R0 s args own idx M'.1 M'.2.1 M'.2.2.1 M'.2.2.2 hh (wsX hh M') R' R'.cells R'.slots n := by
  refine ⟨⟨rfl, rfl, hroom.1, hroom.2, fun w hw a' U hW => ?_, List.mem_cons_self⟩, hts _ h.1, hts _ h.2.1, h.2.2.1, fun sig hs => ?_, hts _ hl, hts _ hstat⟩
  · have hw' : w ∈ TT := by
      rcases List.mem_cons.mp hw with rfl | hw
      · exact h.1
      · exact hw
    exact word_at hW (good_of_word (TT_good hw')) (hts w hw')
  · have h4 := h.2.2.2
    rw [hs] at h4
    exact (Option.some.inj h4).symm
section JLX
variable {M : MI} {R : Room} {Q : Res → List ME → Prop} {n0 pc nx : Nat} {L : List (Option Value)} {rest : List Value} {es : List ME} {k ks : Nat}
theorem Jl_callX {Ls : Nat} {xs : Nat → Int32} {hh : List (Nat × Nat × Nat × Nat)} {M' : MI} {R' : Room} {As : List Value} {Q' : Res → List ME → Prop} {idx n : Nat} (d : decode M.2.1 pc = .ok (.invokestatic idx, 3)) (hn : pc + 3 = nx) (hml : MLX hh M' n) (hlk : Cond.methodLink M.1.cls idx M'.1 ∈ TT) (hstat : Cond.static M'.1 ∈ TT) (hA : As.length = n) (hroom : R'.frames + 1 ≤ R.frames ∧ 8 + (M'.2.2.1 + 11) + R'.locals ≤ R.locals) (hcat : (rest.map fun v => v.category).sum ≤ 8) (hk : k + R'.cells ≤ R.cells ∧ ks + R'.slots ≤ R.slots)
    (hct : CtX hh M' R' As es Q') (hx : ∀ E es', Q' (.inr E) es' → Q (.inr E) es') (h : ∀ v es', Q' (.inl v) es' → Jl Ls xs M R Q n0 nx L (v.toList ++ rest) es' (k + R'.cells) (ks + R'.slots)) : Jl Ls xs M R Q n0 pc L (As.reverse ++ rest) es k ks := by
  subst hn
  intro p l e s m args below meth c D cA ad0 A B0 H locs ls ad hC hR
  have hts := hC.1.2.2.2.2.2
  have hokA : ∀ v ∈ As, okV es.length v := fun v hv => hR.2.2.2.1 v (List.mem_append_left _ (List.mem_reverse.mpr hv))
  have hokr : ∀ v ∈ rest, okV es.length v := fun v hv => hR.2.2.2.1 v (List.mem_append_right _ hv)
  have hM := hct hokA hR.1.2.2.2.1 hR.1.2.2.1 l hC.2.2.2.2.2.1 ad D cA B0 H.size
  refine Jl.after hC hR hokr hk.1 hk.2 hx h (vx_runSX (hh := hh) (As := As.map (rv ad)) (n := n) (nL := M.2.2.1) (own := M.1.cls) (Ts := TT) ⟨hC.1.1, hC.1.2.1, hC.1.2.2.1, hC.1.2.2.2.2.1, hts⟩ hM (hml.csw hlk hstat hts hroom) ⟨jB_blind, fun U hU hW => ⟨rfl, jRl.preB hC hR U hU hW⟩⟩ rfl (by rw [List.length_map]; exact hA) hR.2.2.1.1 ?_ (lv_room ?_) d hk)
  · show (As.reverse ++ rest).map (rv ad) = _
    rw [List.map_append, List.map_reverse]
  · rw [List.map_map]
    have : ((fun v => v.category) ∘ rv ad) = fun v => v.category := by funext v; exact rv_cat ad v
    rw [this]; exact hcat
end JLX
theorem Jl_slen {Ls : Nat} {xs : Nat → Int32} {M : MI} {R : Room} {Q : Res → List ME → Prop} {n0 pc nx : Nat} {L : List (Option Value)} {rest : List Value} {es : List ME} {k ks : Nat} (d : decode M.2.1 pc = .ok (.arraylength, 1)) (hn : pc + 1 = nx) (h : Jl Ls xs M R Q n0 nx L (.int (Int32.ofNat Ls) :: rest) es k ks) : Jl Ls xs M R Q n0 pc L (.ref (CST + 200) :: rest) es k ks := by
  subst hn
  intro p l e s m args below meth c D cA ad0 A B0 H locs ls ad hC hR
  have hw := h p l e s m args below meth c D cA ad0 A B0 H locs ls ad hC ⟨hR.1, hR.2.1, hR.2.2.1, ws_cons (okV_int _ _) (ws_tl hR.2.2.2.1), hR.2.2.2.2⟩
  have e0 : ad (CST + 200) = ad0 (CST + 200) := hR.1.1 _ (Or.inr (by omega))
  show W p l e R s m args below meth c H locs k ks _ (F0 m pc ls (.ref (ad (CST + 200)) :: rest.map (rv ad)))
  rw [e0]
  exact va_slen hC.1.1 hC.1.2.1 hC.2.2.2.2.2.2.1 hC.2.2.2.2.2.2.2.1 hC.2.2.2.2.2.2.2.2 hR.2.1 d hw
theorem Jl_tabOut {Ls : Nat} {xs : Nat → Int32} {M : MI} {R : Room} {Q : Res → List ME → Prop} {n0 pc nx : Nat} {L : List (Option Value)} {rest : List Value} {es : List ME} {k ks : Nat} {tgt : Nat} {dflt lo hi : Int} {offs : Array Int} {len : Nat} {x : Int32} (d : decode M.2.1 pc = .ok (.tableswitch dflt lo hi offs, len)) (hx : x.toInt < lo ∨ hi < x.toInt) (ht : (pc : Int) + dflt = (tgt : Int)) (h : Jl Ls xs M R Q n0 tgt L (rest) es k ks) : Jl Ls xs M R Q n0 pc L (.int x :: rest) es k ks :=
  Jl.stk (st' := rest) (fun ad hxx hb ho htt hw => lv_tableOut hxx hb d hx ht hw) (fun n h => ws_tl h) h
theorem Jl_tabIn {Ls : Nat} {xs : Nat → Int32} {M : MI} {R : Room} {Q : Res → List ME → Prop} {n0 pc nx : Nat} {L : List (Option Value)} {rest : List Value} {es : List ME} {k ks : Nat} {tgt : Nat} {dflt lo hi : Int} {offs : Array Int} {len : Nat} {x : Int32} {off : Int} (d : decode M.2.1 pc = .ok (.tableswitch dflt lo hi offs, len)) (h1 : ¬ x.toInt < lo) (h2 : ¬ hi < x.toInt) (ho : offs[(x.toInt - lo).toNat]? = some off) (ht : (pc : Int) + off = (tgt : Int)) (h : Jl Ls xs M R Q n0 tgt L (rest) es k ks) : Jl Ls xs M R Q n0 pc L (.int x :: rest) es k ks :=
  Jl.stk (st' := rest) (fun ad hxx hb ho1 htt hw => lv_tableIn hxx hb d h1 h2 ho ht hw) (fun n h => ws_tl h) h
/-- an int of the script, behind the place i -/
theorem Jl_arg {Ls : Nat} {xs : Nat → Int32} {M : MI} {R : Room} {Q : Res → List ME → Prop} {n0 pc nx : Nat} {L : List (Option Value)} {rest : List Value} {es : List ME} {k ks : Nat} {i j : Nat} {q : Int} (d0 : decode M.2.1 pc = .ok (.aload_n 0, 1)) (d1 : decode M.2.1 (pc + 1) = .ok (.iload 4, 2)) (d2 : decode M.2.1 (pc + 3) = .ok (.iconst q, 1)) (d3 : decode M.2.1 (pc + 4) = .ok (.iadd, 1)) (d4 : decode M.2.1 (pc + 5) = .ok (.iaload, 1)) (hn : pc + 6 = nx) (hq : Int32.ofInt q = nI j) (h0 : L[0]? = some (some (.ref (CST + 200)))) (h4 : L[4]? = some (some (.int (nI i)))) (hL : Ls ≤ 3584) (hi : i + j < Ls) (h : Jl Ls xs M R Q n0 nx L (.int (xs (i + j)) :: rest) es k ks) : Jl Ls xs M R Q n0 pc L rest es k ks := by
  refine Jl_aload_n (nx := pc + 1) d0 rfl h0 ?_
  refine Jl_iload (nx := pc + 3) d1 rfl h4 ?_
  refine Jl_iconst (nx := pc + 4) hq d2 rfl ?_
  refine Jl_iadd (nx := pc + 5) d3 rfl ?_
  rw [nI_add]
  refine Jl_sld (nx := pc + 6) d4 rfl (vp_in_nI hi (by omega)) ?_
  rw [nI_clamp (by omega), hn]
  exact h
theorem Jl_arg6 {Ls : Nat} {xs : Nat → Int32} {M : MI} {R : Room} {Q : Res → List ME → Prop} {n0 pc nx : Nat} {L : List (Option Value)} {rest : List Value} {es : List ME} {k ks : Nat} {i j : Nat} {q : Int} (d0 : decode M.2.1 pc = .ok (.aload_n 0, 1)) (d1 : decode M.2.1 (pc + 1) = .ok (.iload 4, 2)) (d2 : decode M.2.1 (pc + 3) = .ok (.bipush q, 2)) (d3 : decode M.2.1 (pc + 5) = .ok (.iadd, 1)) (d4 : decode M.2.1 (pc + 6) = .ok (.iaload, 1)) (hn : pc + 7 = nx) (hq : (Int8.ofInt q).toInt32 = nI j) (h0 : L[0]? = some (some (.ref (CST + 200)))) (h4 : L[4]? = some (some (.int (nI i)))) (hL : Ls ≤ 3584) (hi : i + j < Ls) (h : Jl Ls xs M R Q n0 nx L (.int (xs (i + j)) :: rest) es k ks) : Jl Ls xs M R Q n0 pc L rest es k ks := by
  refine Jl_aload_n (nx := pc + 1) d0 rfl h0 ?_
  refine Jl_iload (nx := pc + 3) d1 rfl h4 ?_
  refine Jl_bipush (nx := pc + 5) hq d2 rfl ?_
  refine Jl_iadd (nx := pc + 6) d3 rfl ?_
  rw [nI_add]
  refine Jl_sld (nx := pc + 7) d4 rfl (vp_in_nI hi (by omega)) ?_
  rw [nI_clamp (by omega), hn]
  exact h
theorem and63 (x : Int32) : ∃ n, n < 64 ∧ x &&& 63 = nI n := by
  have h : (x &&& 63).toBitVec.toNat ≤ 63 := by
    rw [Int32.toBitVec_and, BitVec.toNat_and]
    exact Nat.and_le_right
  refine ⟨(x &&& 63).toBitVec.toNat, by omega, ?_⟩
  apply Int32.toBitVec_inj.mp
  show _ = BitVec.ofNat 32 _
  rw [BitVec.ofNat_toNat, BitVec.setWidth_eq]
/-- how the law ends -/
def QL : Res → List ME → Prop := fun r _ => r = .inl (some (.int 1))
abbrev mL_law : MI := (yL_law, cL_law, 8, ret)
abbrev JG (Ls : Nat) (xs : Nat → Int32) (pc i : Nat) (g : GS) (k ks : Nat) : Prop := Jl Ls xs mL_law room_1 QL 0 pc [some (.ref (CST + 200)), some (.ref 0), some (.ref 63), some (.ref 82), some (.int (nI i)), none, none, none] [] (Wd g) k ks
