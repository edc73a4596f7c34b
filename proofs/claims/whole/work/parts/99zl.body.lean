/-! the law's body from its entry -/
set_option maxRecDepth 100000 in
set_option maxHeartbeats 4000000 in
theorem law_body {Ls : Nat} {xs : Nat → Int32} (hLs : Ls ≤ 3584) : Jl Ls xs mL_law room_1 QL 0 0 [some (.ref (CST + 200)), none, none, none, none, none, none, none] [] [] 0 0 := by
  refine Jl_new (nx := 3) (ci := 10) (N := 9) dL_law_0 rfl nl_L_8 (Nat.le_of_ble_eq_true rfl) (Nat.le_of_ble_eq_true rfl) (Nat.le_of_ble_eq_true rfl) ?_
  show Jl Ls xs mL_law room_1 QL 0 3 [some (.ref (CST + 200)), none, none, none, none, none, none, none] [.ref 0] ([] ++ [.inr (10, [.null, .null, .null, .null, .int 0, .null, .null, .null, .null])]) 1 9
  refine Jl_dup (nx := 4) rfl dL_law_3 rfl ?_
  refine Jl_callI (M' := mX11_init) (R' := rm 4 62 12868) (As := []) (b := 0) (rest := [.ref 0]) (nx := 7) dL_law_4 rfl ml_X11_init lk_L_140 ic_X11_init rfl rfl rfl ⟨(Nat.le_of_ble_eq_true rfl), (Nat.le_of_ble_eq_true rfl)⟩ (Nat.le_of_ble_eq_true rfl) ⟨(Nat.le_of_ble_eq_true rfl), (Nat.le_of_ble_eq_true rfl)⟩ (ct_mdClass [] 0 rfl (by omega)) (fun E es' z => by cases z.1) (fun v es' hq => ?_)
  obtain ⟨z1, z2⟩ := hq
  cases z1
  subst z2
  show Jl Ls xs mL_law room_1 QL 0 7 [some (.ref (CST + 200)), none, none, none, none, none, none, none] [.ref 0] (mdClass 0) 63 12877
  refine Jl_astore_n (nx := 8) dL_law_7 rfl rfl (Nat.le_of_ble_eq_true rfl) ?_
  show Jl Ls xs mL_law room_1 QL 0 8 [some (.ref (CST + 200)), some (.ref 0), none, none, none, none, none, none] [] (mdClass 0) 63 12877
  refine Jl_new (nx := 11) (ci := 11) (N := 36) dL_law_8 rfl nl_L_141 (Nat.le_of_ble_eq_true rfl) (Nat.le_of_ble_eq_true rfl) (Nat.le_of_ble_eq_true rfl) ?_
  show Jl Ls xs mL_law room_1 QL 0 11 [some (.ref (CST + 200)), some (.ref 0), none, none, none, none, none, none] [.ref 63] (mdClass 0 ++ [.inr (11, [.int 0, .null, .null, .int 0, .null, .int 0, .int 0, .int 0, .int 0, .int 0, .int 0, .null, .int 0, .int 0, .null, .null, .int 0, .null, .null, .null, .int 0, .int 0, .int 0, .int 0, .int 0, .int 0, .null, .null, .null, .null, .null, .int 0, .null, .null, .null, .null])]) 64 12913
  refine Jl_dup (nx := 12) rfl dL_law_11 rfl ?_
  refine Jl_callI (M' := mX12_init) (R' := rm 1 18 17397) (As := []) (b := 63) (rest := [.ref 63]) (nx := 15) dL_law_12 rfl ml_X12_init lk_L_143 ic_X12_init rfl rfl rfl ⟨(Nat.le_of_ble_eq_true rfl), (Nat.le_of_ble_eq_true rfl)⟩ (Nat.le_of_ble_eq_true rfl) ⟨(Nat.le_of_ble_eq_true rfl), (Nat.le_of_ble_eq_true rfl)⟩ (ct_modelInit (mdClass 0) 63 rfl (by omega)) (fun E es' z => by cases z.1) (fun v es' hq => ?_)
  obtain ⟨z1, z2⟩ := hq
  cases z1
  subst z2
  show Jl Ls xs mL_law room_1 QL 0 15 [some (.ref (CST + 200)), some (.ref 0), none, none, none, none, none, none] [.ref 63] (mdClass 0 ++ mdO 63) 82 30310
  refine Jl_astore_n (nx := 16) dL_law_15 rfl rfl (Nat.le_of_ble_eq_true rfl) ?_
  show Jl Ls xs mL_law room_1 QL 0 16 [some (.ref (CST + 200)), some (.ref 0), some (.ref 63), none, none, none, none, none] [] (mdClass 0 ++ mdO 63) 82 30310
  refine Jl_iconst (nx := 17) (v := 1) (by decide) dL_law_16 rfl ?_
  refine Jl_newl (nx := 19) (N := 1) ar_long dL_law_17 rfl (by decide) rfl (by omega) (Nat.le_of_ble_eq_true rfl) (Nat.le_of_ble_eq_true rfl) (Nat.le_of_ble_eq_true rfl) ?_
  show Jl Ls xs mL_law room_1 QL 0 19 [some (.ref (CST + 200)), some (.ref 0), some (.ref 63), none, none, none, none, none] [.ref 82] ((mdClass 0 ++ mdO 63) ++ [.inl (1, 1, .inr (.inl (fun _ => 0)))]) 83 30311
  rw [List.append_assoc, g0_Wd]
  refine Jl_astore_n (nx := 20) dL_law_19 rfl rfl (Nat.le_of_ble_eq_true rfl) ?_
  refine Jl_iconst (nx := 21) (v := 0) (by decide) dL_law_20 rfl ?_
  refine Jl_istore (nx := 23) dL_law_21 rfl rfl (Nat.le_of_ble_eq_true rfl) ?_
  exact law_loop hLs 513 0 g0 83 30311 rfl (by omega) g0_Rel (by omega) (by omega)
theorem law_end {p : Program} {l : Launch} {e : Env} {s : State} {m : MethodId} {args : Array Value} {below : List Frame} {meth : Method} {c : Code} {H : Heap} {locs : List Loc} {k ks : Nat} {g : JFrame} {n0 : Nat} {ad0 : Nat → Nat} {D : va_G} {cA : Nat → ClassId} {A : Nat → Prop} (hA : ∀ q, A q → s.heap.size ≤ q)
    (h : W p l e room_1 s m args below meth c H locs k ks (vx_MQ below (jQ QL n0 ad0 D cA A) (jX QL n0 ad0 D cA A) args s room_1.cells room_1.slots A) g) :
    W p l e room_1 s m args below meth c H locs k ks (fun t => ∃ o, t.status = .running ∧ Ended t below o ∧ o = .returned (some (.int 1)) ∧ Framed s o t [] 601024 7293034) g := by
  intro T hT X
  obtain ⟨t, a1, o, b1, b2, b3⟩ := h T hT X
  rcases b3 with ⟨⟨⟨v, es, ad, h1, h2, -⟩, -⟩, L, hF, hL⟩ | ⟨q, -, E, ce, L, hx, -⟩
  · have hv : v = some (.int 1) := by
      have h2' : (Sum.inl v : Res) = Sum.inl (some (.int 1)) := h2
      injection h2'
    subst hv
    exact ⟨t, a1, o, b1, b2, h1, hF.1, hF.2.1, State.sameButNew.drop_fresh (L := []) (J := L) hF.2.2 (fun x hx => hA _ (hL x hx))⟩
  · obtain ⟨⟨es, ad, h2, -⟩, -⟩ := hx
    have h2' : (Sum.inr E : Res) = Sum.inl (some (.int 1)) := h2
    cases h2'
