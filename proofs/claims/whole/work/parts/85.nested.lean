
/-! the class's parts made: constructors with others in them -/
def mdBook (c : Nat) : List ME := [.inr (1, [.ref (c + 1), .ref (c + 2), .ref (c + 3), .ref (c + 4), .ref (c + 5), .ref (c + 6), .ref (c + 9), .ref (c + 6), .int 0, .int 0, .int 0, .int 0, .int (2), .int (20), .int 0, .int 0, .int 0, .int 0]), .inl (0, 1088, .inl (fun _ => 0)), .inl (0, 8, .inl (fun _ => 0)), .inl (0, 6, .inl (fun _ => 0)), .inl (0, 6, .inl (fun _ => 0)), .inl (0, 192, .inl (fun _ => 0)), .inr (2, [.int (0), .ref ((c + 6) + 1), .ref ((c + 6) + 2)]), .inl (0, 0, .inl (fun _ => 0)), .inl (0, 0, .inl (fun _ => 0)), .inl (3, 4, .inr (.inr (.inr (.inr (fun _ => none)))))]
set_option maxRecDepth 100000 in
set_option maxHeartbeats 4000000 in
theorem ct_mdBook (P : List ME) (c : Nat) (hc : P.length = c) (hc2 : c < 900) : Ct mX1_init (rm 2 9 1307) [.ref c] (P ++ [.inr (1, [.null, .null, .null, .null, .null, .null, .null, .null, .int 0, .int 0, .int 0, .int 0, .int 0, .int 0, .int 0, .int 0, .int 0, .int 0])]) (fun r es => r = .inl none ∧ es = P ++ mdBook c) := by
  have hcst : CST = 1000000 := rfl
  refine Ct.of (by decide +kernel) (Nat.le_of_ble_eq_true rfl) ?_
  show J _ _ _ _ 0 [some (.ref c)] [] _ 0 0
  have h0 : ∀ (x : ME) (T : List ME), (P ++ (x :: T))[c]? = some x := fun x T => by rw [List.getElem?_append_right (by omega), hc, Nat.sub_self]; rfl
  have s0 : ∀ (x y : ME) (T : List ME), (P ++ (x :: T)).set c y = P ++ (y :: T) := fun x y T => by rw [List.set_append_right _ _ (by omega), hc, Nat.sub_self]; rfl
  have hl : ∀ T : List ME, (P ++ T).length = c + T.length := fun T => by rw [List.length_append, hc]
  have happ : ∀ (T : List ME) (e : ME), (P ++ T) ++ [e] = P ++ (T ++ [e]) := fun T e => List.append_assoc _ _ _
  refine J_aload_n (nx := 1) dX1_init_0 rfl rfl ?_
  refine J_objInit (nx := 4) dX1_init_1 rfl lk_X1_3 oi_ins oi_code (Nat.le_of_ble_eq_true rfl) ⟨(Nat.le_of_ble_eq_true rfl), (Nat.le_of_ble_eq_true rfl)⟩ ?_
  refine J_aload_n (nx := 5) dX1_init_4 rfl rfl ?_
  refine J_sipush (nx := 8) (i := 1088) (v := 1088) (by decide) dX1_init_5 rfl ?_
  refine J_newi (nx := 10) (N := 1088) ar_int dX1_init_8 rfl (by decide) rfl (by omega) (by rw [hl]; show c + 1 < CST; omega) (show 0 + 1 ≤ 9 by omega) (show 0 + 1088 ≤ 1307 by omega) ?_
  rw [show List.length ((P ++ [.inr (1, [.null, .null, .null, .null, .null, .null, .null, .null, .int 0, .int 0, .int 0, .int 0, .int 0, .int 0, .int 0, .int 0, .int 0, .int 0])]) : List ME) = c + 1 from hl _]
  refine J.es (es1 := (P ++ [.inr (1, [.null, .null, .null, .null, .null, .null, .null, .null, .int 0, .int 0, .int 0, .int 0, .int 0, .int 0, .int 0, .int 0, .int 0, .int 0]), .inl (0, 1088, .inl (fun _ => 0))])) (happ _ _) ?_
  refine J_putF (nx := 13) dX1_init_10 rfl ff_X1_11 rfl (h0 _ _) (Nat.le_of_ble_eq_true rfl) (fun _ => rfl) (fun _ => rfl) ?_
  refine J.es (es1 := (P ++ [.inr (1, [.ref (c + 1), .null, .null, .null, .null, .null, .null, .null, .int 0, .int 0, .int 0, .int 0, .int 0, .int 0, .int 0, .int 0, .int 0, .int 0]), .inl (0, 1088, .inl (fun _ => 0))])) (s0 _ _ _) ?_
  refine J_aload_n (nx := 14) dX1_init_13 rfl rfl ?_
  refine J_bipush (nx := 16) (i := 8) (v := 8) (by decide) dX1_init_14 rfl ?_
  refine J_newi (nx := 18) (N := 8) ar_int dX1_init_16 rfl (by decide) rfl (by omega) (by rw [hl]; show c + 2 < CST; omega) (show 1 + 1 ≤ 9 by omega) (show 1088 + 8 ≤ 1307 by omega) ?_
  rw [show List.length ((P ++ [.inr (1, [.ref (c + 1), .null, .null, .null, .null, .null, .null, .null, .int 0, .int 0, .int 0, .int 0, .int 0, .int 0, .int 0, .int 0, .int 0, .int 0]), .inl (0, 1088, .inl (fun _ => 0))]) : List ME) = c + 2 from hl _]
  refine J.es (es1 := (P ++ [.inr (1, [.ref (c + 1), .null, .null, .null, .null, .null, .null, .null, .int 0, .int 0, .int 0, .int 0, .int 0, .int 0, .int 0, .int 0, .int 0, .int 0]), .inl (0, 1088, .inl (fun _ => 0)), .inl (0, 8, .inl (fun _ => 0))])) (happ _ _) ?_
  refine J_putF (nx := 21) dX1_init_18 rfl ff_X1_15 rfl (h0 _ _) (Nat.le_of_ble_eq_true rfl) (fun _ => rfl) (fun _ => rfl) ?_
  refine J.es (es1 := (P ++ [.inr (1, [.ref (c + 1), .ref (c + 2), .null, .null, .null, .null, .null, .null, .int 0, .int 0, .int 0, .int 0, .int 0, .int 0, .int 0, .int 0, .int 0, .int 0]), .inl (0, 1088, .inl (fun _ => 0)), .inl (0, 8, .inl (fun _ => 0))])) (s0 _ _ _) ?_
  refine J_aload_n (nx := 22) dX1_init_21 rfl rfl ?_
  refine J_bipush (nx := 24) (i := 6) (v := 6) (by decide) dX1_init_22 rfl ?_
  refine J_newi (nx := 26) (N := 6) ar_int dX1_init_24 rfl (by decide) rfl (by omega) (by rw [hl]; show c + 3 < CST; omega) (show 2 + 1 ≤ 9 by omega) (show 1096 + 6 ≤ 1307 by omega) ?_
  rw [show List.length ((P ++ [.inr (1, [.ref (c + 1), .ref (c + 2), .null, .null, .null, .null, .null, .null, .int 0, .int 0, .int 0, .int 0, .int 0, .int 0, .int 0, .int 0, .int 0, .int 0]), .inl (0, 1088, .inl (fun _ => 0)), .inl (0, 8, .inl (fun _ => 0))]) : List ME) = c + 3 from hl _]
  refine J.es (es1 := (P ++ [.inr (1, [.ref (c + 1), .ref (c + 2), .null, .null, .null, .null, .null, .null, .int 0, .int 0, .int 0, .int 0, .int 0, .int 0, .int 0, .int 0, .int 0, .int 0]), .inl (0, 1088, .inl (fun _ => 0)), .inl (0, 8, .inl (fun _ => 0)), .inl (0, 6, .inl (fun _ => 0))])) (happ _ _) ?_
  refine J_putF (nx := 29) dX1_init_26 rfl ff_X1_18 rfl (h0 _ _) (Nat.le_of_ble_eq_true rfl) (fun _ => rfl) (fun _ => rfl) ?_
  refine J.es (es1 := (P ++ [.inr (1, [.ref (c + 1), .ref (c + 2), .ref (c + 3), .null, .null, .null, .null, .null, .int 0, .int 0, .int 0, .int 0, .int 0, .int 0, .int 0, .int 0, .int 0, .int 0]), .inl (0, 1088, .inl (fun _ => 0)), .inl (0, 8, .inl (fun _ => 0)), .inl (0, 6, .inl (fun _ => 0))])) (s0 _ _ _) ?_
  refine J_aload_n (nx := 30) dX1_init_29 rfl rfl ?_
  refine J_bipush (nx := 32) (i := 6) (v := 6) (by decide) dX1_init_30 rfl ?_
  refine J_newi (nx := 34) (N := 6) ar_int dX1_init_32 rfl (by decide) rfl (by omega) (by rw [hl]; show c + 4 < CST; omega) (show 3 + 1 ≤ 9 by omega) (show 1102 + 6 ≤ 1307 by omega) ?_
  rw [show List.length ((P ++ [.inr (1, [.ref (c + 1), .ref (c + 2), .ref (c + 3), .null, .null, .null, .null, .null, .int 0, .int 0, .int 0, .int 0, .int 0, .int 0, .int 0, .int 0, .int 0, .int 0]), .inl (0, 1088, .inl (fun _ => 0)), .inl (0, 8, .inl (fun _ => 0)), .inl (0, 6, .inl (fun _ => 0))]) : List ME) = c + 4 from hl _]
  refine J.es (es1 := (P ++ [.inr (1, [.ref (c + 1), .ref (c + 2), .ref (c + 3), .null, .null, .null, .null, .null, .int 0, .int 0, .int 0, .int 0, .int 0, .int 0, .int 0, .int 0, .int 0, .int 0]), .inl (0, 1088, .inl (fun _ => 0)), .inl (0, 8, .inl (fun _ => 0)), .inl (0, 6, .inl (fun _ => 0)), .inl (0, 6, .inl (fun _ => 0))])) (happ _ _) ?_
  refine J_putF (nx := 37) dX1_init_34 rfl ff_X1_21 rfl (h0 _ _) (Nat.le_of_ble_eq_true rfl) (fun _ => rfl) (fun _ => rfl) ?_
  refine J.es (es1 := (P ++ [.inr (1, [.ref (c + 1), .ref (c + 2), .ref (c + 3), .ref (c + 4), .null, .null, .null, .null, .int 0, .int 0, .int 0, .int 0, .int 0, .int 0, .int 0, .int 0, .int 0, .int 0]), .inl (0, 1088, .inl (fun _ => 0)), .inl (0, 8, .inl (fun _ => 0)), .inl (0, 6, .inl (fun _ => 0)), .inl (0, 6, .inl (fun _ => 0))])) (s0 _ _ _) ?_
  refine J_aload_n (nx := 38) dX1_init_37 rfl rfl ?_
  refine J_sipush (nx := 41) (i := 192) (v := 192) (by decide) dX1_init_38 rfl ?_
  refine J_newi (nx := 43) (N := 192) ar_int dX1_init_41 rfl (by decide) rfl (by omega) (by rw [hl]; show c + 5 < CST; omega) (show 4 + 1 ≤ 9 by omega) (show 1108 + 192 ≤ 1307 by omega) ?_
  rw [show List.length ((P ++ [.inr (1, [.ref (c + 1), .ref (c + 2), .ref (c + 3), .ref (c + 4), .null, .null, .null, .null, .int 0, .int 0, .int 0, .int 0, .int 0, .int 0, .int 0, .int 0, .int 0, .int 0]), .inl (0, 1088, .inl (fun _ => 0)), .inl (0, 8, .inl (fun _ => 0)), .inl (0, 6, .inl (fun _ => 0)), .inl (0, 6, .inl (fun _ => 0))]) : List ME) = c + 5 from hl _]
  refine J.es (es1 := (P ++ [.inr (1, [.ref (c + 1), .ref (c + 2), .ref (c + 3), .ref (c + 4), .null, .null, .null, .null, .int 0, .int 0, .int 0, .int 0, .int 0, .int 0, .int 0, .int 0, .int 0, .int 0]), .inl (0, 1088, .inl (fun _ => 0)), .inl (0, 8, .inl (fun _ => 0)), .inl (0, 6, .inl (fun _ => 0)), .inl (0, 6, .inl (fun _ => 0)), .inl (0, 192, .inl (fun _ => 0))])) (happ _ _) ?_
  refine J_putF (nx := 46) dX1_init_43 rfl ff_X1_24 rfl (h0 _ _) (Nat.le_of_ble_eq_true rfl) (fun _ => rfl) (fun _ => rfl) ?_
  refine J.es (es1 := (P ++ [.inr (1, [.ref (c + 1), .ref (c + 2), .ref (c + 3), .ref (c + 4), .ref (c + 5), .null, .null, .null, .int 0, .int 0, .int 0, .int 0, .int 0, .int 0, .int 0, .int 0, .int 0, .int 0]), .inl (0, 1088, .inl (fun _ => 0)), .inl (0, 8, .inl (fun _ => 0)), .inl (0, 6, .inl (fun _ => 0)), .inl (0, 6, .inl (fun _ => 0)), .inl (0, 192, .inl (fun _ => 0))])) (s0 _ _ _) ?_
  refine J_aload_n (nx := 47) dX1_init_46 rfl rfl ?_
  refine J_new (nx := 50) dX1_init_47 rfl nl_X1_27 (by rw [hl]; show c + 6 < CST; omega) (show 5 + 1 ≤ 9 by omega) (show 1300 + 3 ≤ 1307 by omega) ?_
  rw [show List.length ((P ++ [.inr (1, [.ref (c + 1), .ref (c + 2), .ref (c + 3), .ref (c + 4), .ref (c + 5), .null, .null, .null, .int 0, .int 0, .int 0, .int 0, .int 0, .int 0, .int 0, .int 0, .int 0, .int 0]), .inl (0, 1088, .inl (fun _ => 0)), .inl (0, 8, .inl (fun _ => 0)), .inl (0, 6, .inl (fun _ => 0)), .inl (0, 6, .inl (fun _ => 0)), .inl (0, 192, .inl (fun _ => 0))]) : List ME) = c + 6 from hl _]
  refine J_dup (nx := 51) rfl dX1_init_50 rfl ?_
  refine J_callI (R' := rm 1 2 0) (nx := 54) (b := c + 6) (As := []) dX1_init_51 rfl ml_X2_init_ lk_X1_29 ic_X2_init_ rfl rfl rfl ⟨(Nat.le_of_ble_eq_true rfl), (Nat.le_of_ble_eq_true rfl)⟩ (Nat.le_of_ble_eq_true rfl) ⟨(show 6 + 2 ≤ 9 by omega), (show 1303 + 0 ≤ 1307 by omega)⟩ (ct_mdCode (P ++ [.inr (1, [.ref (c + 1), .ref (c + 2), .ref (c + 3), .ref (c + 4), .ref (c + 5), .null, .null, .null, .int 0, .int 0, .int 0, .int 0, .int 0, .int 0, .int 0, .int 0, .int 0, .int 0]), .inl (0, 1088, .inl (fun _ => 0)), .inl (0, 8, .inl (fun _ => 0)), .inl (0, 6, .inl (fun _ => 0)), .inl (0, 6, .inl (fun _ => 0)), .inl (0, 192, .inl (fun _ => 0))]) (c + 6)  (hl _) (by omega)) (fun E es' q => by cases q.1) (fun v es' q => ?_)
  obtain ⟨q1, rfl⟩ := q
  cases q1
  refine J.es (es1 := (P ++ [.inr (1, [.ref (c + 1), .ref (c + 2), .ref (c + 3), .ref (c + 4), .ref (c + 5), .null, .null, .null, .int 0, .int 0, .int 0, .int 0, .int 0, .int 0, .int 0, .int 0, .int 0, .int 0]), .inl (0, 1088, .inl (fun _ => 0)), .inl (0, 8, .inl (fun _ => 0)), .inl (0, 6, .inl (fun _ => 0)), .inl (0, 6, .inl (fun _ => 0)), .inl (0, 192, .inl (fun _ => 0)), .inr (2, [.int (0), .ref ((c + 6) + 1), .ref ((c + 6) + 2)]), .inl (0, 0, .inl (fun _ => 0)), .inl (0, 0, .inl (fun _ => 0))])) (List.append_assoc _ _ _) ?_
  refine J_putF (nx := 57) dX1_init_54 rfl ff_X1_30 rfl (h0 _ _) (Nat.le_of_ble_eq_true rfl) (fun _ => rfl) (fun _ => rfl) ?_
  refine J.es (es1 := (P ++ [.inr (1, [.ref (c + 1), .ref (c + 2), .ref (c + 3), .ref (c + 4), .ref (c + 5), .ref (c + 6), .null, .null, .int 0, .int 0, .int 0, .int 0, .int 0, .int 0, .int 0, .int 0, .int 0, .int 0]), .inl (0, 1088, .inl (fun _ => 0)), .inl (0, 8, .inl (fun _ => 0)), .inl (0, 6, .inl (fun _ => 0)), .inl (0, 6, .inl (fun _ => 0)), .inl (0, 192, .inl (fun _ => 0)), .inr (2, [.int (0), .ref ((c + 6) + 1), .ref ((c + 6) + 2)]), .inl (0, 0, .inl (fun _ => 0)), .inl (0, 0, .inl (fun _ => 0))])) (s0 _ _ _) ?_
  refine J_aload_n (nx := 58) dX1_init_57 rfl rfl ?_
  refine J_iconst (nx := 59) (i := 4) (v := 4) (by decide) dX1_init_58 rfl ?_
  refine J_newq (nx := 62) (t := 3) (N := 4) (Or.inl ⟨rfl, rfl⟩) (TT_of (i := 191) (by decide +kernel) rfl) dX1_init_59 rfl (by decide) rfl (by omega) (by rw [hl]; show c + 9 < CST; omega) (show 8 + 1 ≤ 9 by omega) (show 1303 + 4 ≤ 1307 by omega) ?_
  rw [show List.length ((P ++ [.inr (1, [.ref (c + 1), .ref (c + 2), .ref (c + 3), .ref (c + 4), .ref (c + 5), .ref (c + 6), .null, .null, .int 0, .int 0, .int 0, .int 0, .int 0, .int 0, .int 0, .int 0, .int 0, .int 0]), .inl (0, 1088, .inl (fun _ => 0)), .inl (0, 8, .inl (fun _ => 0)), .inl (0, 6, .inl (fun _ => 0)), .inl (0, 6, .inl (fun _ => 0)), .inl (0, 192, .inl (fun _ => 0)), .inr (2, [.int (0), .ref ((c + 6) + 1), .ref ((c + 6) + 2)]), .inl (0, 0, .inl (fun _ => 0)), .inl (0, 0, .inl (fun _ => 0))]) : List ME) = c + 9 from hl _]
  refine J.es (es1 := (P ++ [.inr (1, [.ref (c + 1), .ref (c + 2), .ref (c + 3), .ref (c + 4), .ref (c + 5), .ref (c + 6), .null, .null, .int 0, .int 0, .int 0, .int 0, .int 0, .int 0, .int 0, .int 0, .int 0, .int 0]), .inl (0, 1088, .inl (fun _ => 0)), .inl (0, 8, .inl (fun _ => 0)), .inl (0, 6, .inl (fun _ => 0)), .inl (0, 6, .inl (fun _ => 0)), .inl (0, 192, .inl (fun _ => 0)), .inr (2, [.int (0), .ref ((c + 6) + 1), .ref ((c + 6) + 2)]), .inl (0, 0, .inl (fun _ => 0)), .inl (0, 0, .inl (fun _ => 0)), .inl (3, 4, .inr (.inr (.inr (.inr (fun _ => none)))))])) (happ _ _) ?_
  refine J_putF (nx := 65) dX1_init_62 rfl ff_X1_34 rfl (h0 _ _) (Nat.le_of_ble_eq_true rfl) (fun _ => rfl) (fun _ => rfl) ?_
  refine J.es (es1 := (P ++ [.inr (1, [.ref (c + 1), .ref (c + 2), .ref (c + 3), .ref (c + 4), .ref (c + 5), .ref (c + 6), .ref (c + 9), .null, .int 0, .int 0, .int 0, .int 0, .int 0, .int 0, .int 0, .int 0, .int 0, .int 0]), .inl (0, 1088, .inl (fun _ => 0)), .inl (0, 8, .inl (fun _ => 0)), .inl (0, 6, .inl (fun _ => 0)), .inl (0, 6, .inl (fun _ => 0)), .inl (0, 192, .inl (fun _ => 0)), .inr (2, [.int (0), .ref ((c + 6) + 1), .ref ((c + 6) + 2)]), .inl (0, 0, .inl (fun _ => 0)), .inl (0, 0, .inl (fun _ => 0)), .inl (3, 4, .inr (.inr (.inr (.inr (fun _ => none)))))])) (s0 _ _ _) ?_
  refine J_aload_n (nx := 66) dX1_init_65 rfl rfl ?_
  refine J_aload_n (nx := 67) dX1_init_66 rfl rfl ?_
  refine J_get (nx := 70) dX1_init_67 rfl fl_X1_30 (h0 _ _) rfl ?_
  refine J_put (nx := 73) dX1_init_70 rfl fl_X1_38 (h0 _ _) (Nat.le_of_ble_eq_true rfl) (fun _ => rfl) (fun _ => rfl) ?_
  refine J.es (es1 := (P ++ [.inr (1, [.ref (c + 1), .ref (c + 2), .ref (c + 3), .ref (c + 4), .ref (c + 5), .ref (c + 6), .ref (c + 9), .ref (c + 6), .int 0, .int 0, .int 0, .int 0, .int 0, .int 0, .int 0, .int 0, .int 0, .int 0]), .inl (0, 1088, .inl (fun _ => 0)), .inl (0, 8, .inl (fun _ => 0)), .inl (0, 6, .inl (fun _ => 0)), .inl (0, 6, .inl (fun _ => 0)), .inl (0, 192, .inl (fun _ => 0)), .inr (2, [.int (0), .ref ((c + 6) + 1), .ref ((c + 6) + 2)]), .inl (0, 0, .inl (fun _ => 0)), .inl (0, 0, .inl (fun _ => 0)), .inl (3, 4, .inr (.inr (.inr (.inr (fun _ => none)))))])) (s0 _ _ _) ?_
  refine J_aload_n (nx := 74) dX1_init_73 rfl rfl ?_
  refine J_iconst (nx := 75) (i := 2) (v := 2) (by decide) dX1_init_74 rfl ?_
  refine J_put (nx := 78) dX1_init_75 rfl fl_X1_41 (h0 _ _) (Nat.le_of_ble_eq_true rfl) (fun _ => rfl) (fun _ => rfl) ?_
  refine J.es (es1 := (P ++ [.inr (1, [.ref (c + 1), .ref (c + 2), .ref (c + 3), .ref (c + 4), .ref (c + 5), .ref (c + 6), .ref (c + 9), .ref (c + 6), .int 0, .int 0, .int 0, .int 0, .int (2), .int 0, .int 0, .int 0, .int 0, .int 0]), .inl (0, 1088, .inl (fun _ => 0)), .inl (0, 8, .inl (fun _ => 0)), .inl (0, 6, .inl (fun _ => 0)), .inl (0, 6, .inl (fun _ => 0)), .inl (0, 192, .inl (fun _ => 0)), .inr (2, [.int (0), .ref ((c + 6) + 1), .ref ((c + 6) + 2)]), .inl (0, 0, .inl (fun _ => 0)), .inl (0, 0, .inl (fun _ => 0)), .inl (3, 4, .inr (.inr (.inr (.inr (fun _ => none)))))])) (s0 _ _ _) ?_
  refine J_aload_n (nx := 79) dX1_init_78 rfl rfl ?_
  refine J_bipush (nx := 81) (i := 20) (v := 20) (by decide) dX1_init_79 rfl ?_
  refine J_put (nx := 84) dX1_init_81 rfl fl_X1_45 (h0 _ _) (Nat.le_of_ble_eq_true rfl) (fun _ => rfl) (fun _ => rfl) ?_
  refine J.es (es1 := (P ++ [.inr (1, [.ref (c + 1), .ref (c + 2), .ref (c + 3), .ref (c + 4), .ref (c + 5), .ref (c + 6), .ref (c + 9), .ref (c + 6), .int 0, .int 0, .int 0, .int 0, .int (2), .int (20), .int 0, .int 0, .int 0, .int 0]), .inl (0, 1088, .inl (fun _ => 0)), .inl (0, 8, .inl (fun _ => 0)), .inl (0, 6, .inl (fun _ => 0)), .inl (0, 6, .inl (fun _ => 0)), .inl (0, 192, .inl (fun _ => 0)), .inr (2, [.int (0), .ref ((c + 6) + 1), .ref ((c + 6) + 2)]), .inl (0, 0, .inl (fun _ => 0)), .inl (0, 0, .inl (fun _ => 0)), .inl (3, 4, .inr (.inr (.inr (.inr (fun _ => none)))))])) (s0 _ _ _) ?_
  exact Jrv dX1_init_84 rfl (Nat.le_of_ble_eq_true rfl) (Nat.le_of_ble_eq_true rfl) ⟨rfl, rfl⟩

