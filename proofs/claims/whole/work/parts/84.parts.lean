
/-! the class's parts made: constructors without others in them, behind any cells P -/
def mdWays (c : Nat) : List ME := [.inr (8, [.ref (c + 1), .ref (c + 2), .ref (c + 3), .ref (c + 4), .ref (c + 5), .ref (c + 6)]), .inl (0, 144, .inl (fun _ => 0)), .inl (0, 144, .inl (fun _ => 0)), .inl (0, 33, .inl (fun _ => 0)), .inl (0, 32, .inl (fun _ => 0)), .inl (0, 32, .inl (fun _ => 0)), .inl (0, 32, .inl (fun _ => 0))]
set_option maxRecDepth 100000 in
set_option maxHeartbeats 4000000 in
theorem ct_mdWays (P : List ME) (c : Nat) (hc : P.length = c) (hc2 : c < 1000) : Ct mX9_init (rm 1 6 417) [.ref c] (P ++ [.inr (8, [.null, .null, .null, .null, .null, .null])]) (fun r es => r = .inl none ∧ es = P ++ mdWays c) := by
  have hcst : CST = 1000000 := rfl
  refine Ct.of (by decide +kernel) (Nat.le_of_ble_eq_true rfl) ?_
  show J _ _ _ _ 0 [some (.ref c)] [] _ 0 0
  have h0 : ∀ (x : ME) (T : List ME), (P ++ (x :: T))[c]? = some x := fun x T => by rw [List.getElem?_append_right (by omega), hc, Nat.sub_self]; rfl
  have s0 : ∀ (x y : ME) (T : List ME), (P ++ (x :: T)).set c y = P ++ (y :: T) := fun x y T => by rw [List.set_append_right _ _ (by omega), hc, Nat.sub_self]; rfl
  have hl : ∀ T : List ME, (P ++ T).length = c + T.length := fun T => by rw [List.length_append, hc]
  have happ : ∀ (T : List ME) (e : ME), (P ++ T) ++ [e] = P ++ (T ++ [e]) := fun T e => List.append_assoc _ _ _
  refine J_aload_n (nx := 1) dX9_init_0 rfl rfl ?_
  refine J_objInit (nx := 4) dX9_init_1 rfl lk_X9_3 oi_ins oi_code (Nat.le_of_ble_eq_true rfl) ⟨(Nat.le_of_ble_eq_true rfl), (Nat.le_of_ble_eq_true rfl)⟩ ?_
  refine J_aload_n (nx := 5) dX9_init_4 rfl rfl ?_
  refine J_sipush (nx := 8) (i := 144) (v := 144) (by decide) dX9_init_5 rfl ?_
  refine J_newi (nx := 10) (N := 144) ar_int dX9_init_8 rfl (by decide) rfl (by omega) (by rw [hl]; show c + 1 < CST; omega) (show 0 + 1 ≤ 6 by omega) (show 0 + 144 ≤ 417 by omega) ?_
  rw [show List.length ((P ++ [.inr (8, [.null, .null, .null, .null, .null, .null])]) : List ME) = c + 1 from hl _]
  refine J.es (es1 := (P ++ [.inr (8, [.null, .null, .null, .null, .null, .null]), .inl (0, 144, .inl (fun _ => 0))])) (happ _ _) ?_
  refine J_putF (nx := 13) dX9_init_10 rfl ff_X9_9 rfl (h0 _ _) (Nat.le_of_ble_eq_true rfl) (fun _ => rfl) (fun _ => rfl) ?_
  refine J.es (es1 := (P ++ [.inr (8, [.ref (c + 1), .null, .null, .null, .null, .null]), .inl (0, 144, .inl (fun _ => 0))])) (s0 _ _ _) ?_
  refine J_aload_n (nx := 14) dX9_init_13 rfl rfl ?_
  refine J_sipush (nx := 17) (i := 144) (v := 144) (by decide) dX9_init_14 rfl ?_
  refine J_newi (nx := 19) (N := 144) ar_int dX9_init_17 rfl (by decide) rfl (by omega) (by rw [hl]; show c + 2 < CST; omega) (show 1 + 1 ≤ 6 by omega) (show 144 + 144 ≤ 417 by omega) ?_
  rw [show List.length ((P ++ [.inr (8, [.ref (c + 1), .null, .null, .null, .null, .null]), .inl (0, 144, .inl (fun _ => 0))]) : List ME) = c + 2 from hl _]
  refine J.es (es1 := (P ++ [.inr (8, [.ref (c + 1), .null, .null, .null, .null, .null]), .inl (0, 144, .inl (fun _ => 0)), .inl (0, 144, .inl (fun _ => 0))])) (happ _ _) ?_
  refine J_putF (nx := 22) dX9_init_19 rfl ff_X9_15 rfl (h0 _ _) (Nat.le_of_ble_eq_true rfl) (fun _ => rfl) (fun _ => rfl) ?_
  refine J.es (es1 := (P ++ [.inr (8, [.ref (c + 1), .ref (c + 2), .null, .null, .null, .null]), .inl (0, 144, .inl (fun _ => 0)), .inl (0, 144, .inl (fun _ => 0))])) (s0 _ _ _) ?_
  refine J_aload_n (nx := 23) dX9_init_22 rfl rfl ?_
  refine J_bipush (nx := 25) (i := 33) (v := 33) (by decide) dX9_init_23 rfl ?_
  refine J_newi (nx := 27) (N := 33) ar_int dX9_init_25 rfl (by decide) rfl (by omega) (by rw [hl]; show c + 3 < CST; omega) (show 2 + 1 ≤ 6 by omega) (show 288 + 33 ≤ 417 by omega) ?_
  rw [show List.length ((P ++ [.inr (8, [.ref (c + 1), .ref (c + 2), .null, .null, .null, .null]), .inl (0, 144, .inl (fun _ => 0)), .inl (0, 144, .inl (fun _ => 0))]) : List ME) = c + 3 from hl _]
  refine J.es (es1 := (P ++ [.inr (8, [.ref (c + 1), .ref (c + 2), .null, .null, .null, .null]), .inl (0, 144, .inl (fun _ => 0)), .inl (0, 144, .inl (fun _ => 0)), .inl (0, 33, .inl (fun _ => 0))])) (happ _ _) ?_
  refine J_putF (nx := 30) dX9_init_27 rfl ff_X9_18 rfl (h0 _ _) (Nat.le_of_ble_eq_true rfl) (fun _ => rfl) (fun _ => rfl) ?_
  refine J.es (es1 := (P ++ [.inr (8, [.ref (c + 1), .ref (c + 2), .ref (c + 3), .null, .null, .null]), .inl (0, 144, .inl (fun _ => 0)), .inl (0, 144, .inl (fun _ => 0)), .inl (0, 33, .inl (fun _ => 0))])) (s0 _ _ _) ?_
  refine J_aload_n (nx := 31) dX9_init_30 rfl rfl ?_
  refine J_bipush (nx := 33) (i := 32) (v := 32) (by decide) dX9_init_31 rfl ?_
  refine J_newi (nx := 35) (N := 32) ar_int dX9_init_33 rfl (by decide) rfl (by omega) (by rw [hl]; show c + 4 < CST; omega) (show 3 + 1 ≤ 6 by omega) (show 321 + 32 ≤ 417 by omega) ?_
  rw [show List.length ((P ++ [.inr (8, [.ref (c + 1), .ref (c + 2), .ref (c + 3), .null, .null, .null]), .inl (0, 144, .inl (fun _ => 0)), .inl (0, 144, .inl (fun _ => 0)), .inl (0, 33, .inl (fun _ => 0))]) : List ME) = c + 4 from hl _]
  refine J.es (es1 := (P ++ [.inr (8, [.ref (c + 1), .ref (c + 2), .ref (c + 3), .null, .null, .null]), .inl (0, 144, .inl (fun _ => 0)), .inl (0, 144, .inl (fun _ => 0)), .inl (0, 33, .inl (fun _ => 0)), .inl (0, 32, .inl (fun _ => 0))])) (happ _ _) ?_
  refine J_putF (nx := 38) dX9_init_35 rfl ff_X9_21 rfl (h0 _ _) (Nat.le_of_ble_eq_true rfl) (fun _ => rfl) (fun _ => rfl) ?_
  refine J.es (es1 := (P ++ [.inr (8, [.ref (c + 1), .ref (c + 2), .ref (c + 3), .ref (c + 4), .null, .null]), .inl (0, 144, .inl (fun _ => 0)), .inl (0, 144, .inl (fun _ => 0)), .inl (0, 33, .inl (fun _ => 0)), .inl (0, 32, .inl (fun _ => 0))])) (s0 _ _ _) ?_
  refine J_aload_n (nx := 39) dX9_init_38 rfl rfl ?_
  refine J_bipush (nx := 41) (i := 32) (v := 32) (by decide) dX9_init_39 rfl ?_
  refine J_newi (nx := 43) (N := 32) ar_int dX9_init_41 rfl (by decide) rfl (by omega) (by rw [hl]; show c + 5 < CST; omega) (show 4 + 1 ≤ 6 by omega) (show 353 + 32 ≤ 417 by omega) ?_
  rw [show List.length ((P ++ [.inr (8, [.ref (c + 1), .ref (c + 2), .ref (c + 3), .ref (c + 4), .null, .null]), .inl (0, 144, .inl (fun _ => 0)), .inl (0, 144, .inl (fun _ => 0)), .inl (0, 33, .inl (fun _ => 0)), .inl (0, 32, .inl (fun _ => 0))]) : List ME) = c + 5 from hl _]
  refine J.es (es1 := (P ++ [.inr (8, [.ref (c + 1), .ref (c + 2), .ref (c + 3), .ref (c + 4), .null, .null]), .inl (0, 144, .inl (fun _ => 0)), .inl (0, 144, .inl (fun _ => 0)), .inl (0, 33, .inl (fun _ => 0)), .inl (0, 32, .inl (fun _ => 0)), .inl (0, 32, .inl (fun _ => 0))])) (happ _ _) ?_
  refine J_putF (nx := 46) dX9_init_43 rfl ff_X9_24 rfl (h0 _ _) (Nat.le_of_ble_eq_true rfl) (fun _ => rfl) (fun _ => rfl) ?_
  refine J.es (es1 := (P ++ [.inr (8, [.ref (c + 1), .ref (c + 2), .ref (c + 3), .ref (c + 4), .ref (c + 5), .null]), .inl (0, 144, .inl (fun _ => 0)), .inl (0, 144, .inl (fun _ => 0)), .inl (0, 33, .inl (fun _ => 0)), .inl (0, 32, .inl (fun _ => 0)), .inl (0, 32, .inl (fun _ => 0))])) (s0 _ _ _) ?_
  refine J_aload_n (nx := 47) dX9_init_46 rfl rfl ?_
  refine J_bipush (nx := 49) (i := 32) (v := 32) (by decide) dX9_init_47 rfl ?_
  refine J_newi (nx := 51) (N := 32) ar_int dX9_init_49 rfl (by decide) rfl (by omega) (by rw [hl]; show c + 6 < CST; omega) (show 5 + 1 ≤ 6 by omega) (show 385 + 32 ≤ 417 by omega) ?_
  rw [show List.length ((P ++ [.inr (8, [.ref (c + 1), .ref (c + 2), .ref (c + 3), .ref (c + 4), .ref (c + 5), .null]), .inl (0, 144, .inl (fun _ => 0)), .inl (0, 144, .inl (fun _ => 0)), .inl (0, 33, .inl (fun _ => 0)), .inl (0, 32, .inl (fun _ => 0)), .inl (0, 32, .inl (fun _ => 0))]) : List ME) = c + 6 from hl _]
  refine J.es (es1 := (P ++ [.inr (8, [.ref (c + 1), .ref (c + 2), .ref (c + 3), .ref (c + 4), .ref (c + 5), .null]), .inl (0, 144, .inl (fun _ => 0)), .inl (0, 144, .inl (fun _ => 0)), .inl (0, 33, .inl (fun _ => 0)), .inl (0, 32, .inl (fun _ => 0)), .inl (0, 32, .inl (fun _ => 0)), .inl (0, 32, .inl (fun _ => 0))])) (happ _ _) ?_
  refine J_putF (nx := 54) dX9_init_51 rfl ff_X9_27 rfl (h0 _ _) (Nat.le_of_ble_eq_true rfl) (fun _ => rfl) (fun _ => rfl) ?_
  refine J.es (es1 := (P ++ [.inr (8, [.ref (c + 1), .ref (c + 2), .ref (c + 3), .ref (c + 4), .ref (c + 5), .ref (c + 6)]), .inl (0, 144, .inl (fun _ => 0)), .inl (0, 144, .inl (fun _ => 0)), .inl (0, 33, .inl (fun _ => 0)), .inl (0, 32, .inl (fun _ => 0)), .inl (0, 32, .inl (fun _ => 0)), .inl (0, 32, .inl (fun _ => 0))])) (s0 _ _ _) ?_
  exact Jrv dX9_init_54 rfl (Nat.le_of_ble_eq_true rfl) (Nat.le_of_ble_eq_true rfl) ⟨rfl, rfl⟩

def mdLesson (c a1 a2 : Nat) : List ME := [.inr (4, [.ref a1, .ref a2, .ref (c + 1), .ref (c + 2), .ref (c + 3)]), .inl (0, 192, .inl (fun _ => 0)), .inl (0, 192, .inl (fun _ => 0)), .inl (0, 192, .inl (fun _ => 0))]
set_option maxRecDepth 100000 in
set_option maxHeartbeats 4000000 in
theorem ct_mdLesson (P : List ME) (c a1 a2 : Nat) (hc : P.length = c) (hc2 : c < 1000) : Ct mX4_init (rm 1 3 576) [.ref c, .ref a1, .ref a2] (P ++ [.inr (4, [.null, .null, .null, .null, .null])]) (fun r es => r = .inl none ∧ es = P ++ mdLesson c a1 a2) := by
  have hcst : CST = 1000000 := rfl
  refine Ct.of (by decide +kernel) (Nat.le_of_ble_eq_true rfl) ?_
  show J _ _ _ _ 0 [some (.ref c), some (.ref a1), some (.ref a2)] [] _ 0 0
  have h0 : ∀ (x : ME) (T : List ME), (P ++ (x :: T))[c]? = some x := fun x T => by rw [List.getElem?_append_right (by omega), hc, Nat.sub_self]; rfl
  have s0 : ∀ (x y : ME) (T : List ME), (P ++ (x :: T)).set c y = P ++ (y :: T) := fun x y T => by rw [List.set_append_right _ _ (by omega), hc, Nat.sub_self]; rfl
  have hl : ∀ T : List ME, (P ++ T).length = c + T.length := fun T => by rw [List.length_append, hc]
  have happ : ∀ (T : List ME) (e : ME), (P ++ T) ++ [e] = P ++ (T ++ [e]) := fun T e => List.append_assoc _ _ _
  refine J_aload_n (nx := 1) dX4_init_0 rfl rfl ?_
  refine J_objInit (nx := 4) dX4_init_1 rfl lk_X4_3 oi_ins oi_code (Nat.le_of_ble_eq_true rfl) ⟨(Nat.le_of_ble_eq_true rfl), (Nat.le_of_ble_eq_true rfl)⟩ ?_
  refine J_aload_n (nx := 5) dX4_init_4 rfl rfl ?_
  refine J_sipush (nx := 8) (i := 192) (v := 192) (by decide) dX4_init_5 rfl ?_
  refine J_newi (nx := 10) (N := 192) ar_int dX4_init_8 rfl (by decide) rfl (by omega) (by rw [hl]; show c + 1 < CST; omega) (show 0 + 1 ≤ 3 by omega) (show 0 + 192 ≤ 576 by omega) ?_
  rw [show List.length ((P ++ [.inr (4, [.null, .null, .null, .null, .null])]) : List ME) = c + 1 from hl _]
  refine J.es (es1 := (P ++ [.inr (4, [.null, .null, .null, .null, .null]), .inl (0, 192, .inl (fun _ => 0))])) (happ _ _) ?_
  refine J_putF (nx := 13) dX4_init_10 rfl ff_X4_9 rfl (h0 _ _) (Nat.le_of_ble_eq_true rfl) (fun _ => rfl) (fun _ => rfl) ?_
  refine J.es (es1 := (P ++ [.inr (4, [.null, .null, .ref (c + 1), .null, .null]), .inl (0, 192, .inl (fun _ => 0))])) (s0 _ _ _) ?_
  refine J_aload_n (nx := 14) dX4_init_13 rfl rfl ?_
  refine J_sipush (nx := 17) (i := 192) (v := 192) (by decide) dX4_init_14 rfl ?_
  refine J_newi (nx := 19) (N := 192) ar_int dX4_init_17 rfl (by decide) rfl (by omega) (by rw [hl]; show c + 2 < CST; omega) (show 1 + 1 ≤ 3 by omega) (show 192 + 192 ≤ 576 by omega) ?_
  rw [show List.length ((P ++ [.inr (4, [.null, .null, .ref (c + 1), .null, .null]), .inl (0, 192, .inl (fun _ => 0))]) : List ME) = c + 2 from hl _]
  refine J.es (es1 := (P ++ [.inr (4, [.null, .null, .ref (c + 1), .null, .null]), .inl (0, 192, .inl (fun _ => 0)), .inl (0, 192, .inl (fun _ => 0))])) (happ _ _) ?_
  refine J_putF (nx := 22) dX4_init_19 rfl ff_X4_15 rfl (h0 _ _) (Nat.le_of_ble_eq_true rfl) (fun _ => rfl) (fun _ => rfl) ?_
  refine J.es (es1 := (P ++ [.inr (4, [.null, .null, .ref (c + 1), .ref (c + 2), .null]), .inl (0, 192, .inl (fun _ => 0)), .inl (0, 192, .inl (fun _ => 0))])) (s0 _ _ _) ?_
  refine J_aload_n (nx := 23) dX4_init_22 rfl rfl ?_
  refine J_sipush (nx := 26) (i := 192) (v := 192) (by decide) dX4_init_23 rfl ?_
  refine J_newi (nx := 28) (N := 192) ar_int dX4_init_26 rfl (by decide) rfl (by omega) (by rw [hl]; show c + 3 < CST; omega) (show 2 + 1 ≤ 3 by omega) (show 384 + 192 ≤ 576 by omega) ?_
  rw [show List.length ((P ++ [.inr (4, [.null, .null, .ref (c + 1), .ref (c + 2), .null]), .inl (0, 192, .inl (fun _ => 0)), .inl (0, 192, .inl (fun _ => 0))]) : List ME) = c + 3 from hl _]
  refine J.es (es1 := (P ++ [.inr (4, [.null, .null, .ref (c + 1), .ref (c + 2), .null]), .inl (0, 192, .inl (fun _ => 0)), .inl (0, 192, .inl (fun _ => 0)), .inl (0, 192, .inl (fun _ => 0))])) (happ _ _) ?_
  refine J_putF (nx := 31) dX4_init_28 rfl ff_X4_18 rfl (h0 _ _) (Nat.le_of_ble_eq_true rfl) (fun _ => rfl) (fun _ => rfl) ?_
  refine J.es (es1 := (P ++ [.inr (4, [.null, .null, .ref (c + 1), .ref (c + 2), .ref (c + 3)]), .inl (0, 192, .inl (fun _ => 0)), .inl (0, 192, .inl (fun _ => 0)), .inl (0, 192, .inl (fun _ => 0))])) (s0 _ _ _) ?_
  refine J_aload_n (nx := 32) dX4_init_31 rfl rfl ?_
  refine J_aload_n (nx := 33) dX4_init_32 rfl rfl ?_
  refine J_putF (nx := 36) dX4_init_33 rfl ff_X4_21 rfl (h0 _ _) (Nat.le_of_ble_eq_true rfl) (fun _ => rfl) (fun _ => rfl) ?_
  refine J.es (es1 := (P ++ [.inr (4, [.ref a1, .null, .ref (c + 1), .ref (c + 2), .ref (c + 3)]), .inl (0, 192, .inl (fun _ => 0)), .inl (0, 192, .inl (fun _ => 0)), .inl (0, 192, .inl (fun _ => 0))])) (s0 _ _ _) ?_
  refine J_aload_n (nx := 37) dX4_init_36 rfl rfl ?_
  refine J_aload_n (nx := 38) dX4_init_37 rfl rfl ?_
  refine J_putF (nx := 41) dX4_init_38 rfl ff_X4_25 rfl (h0 _ _) (Nat.le_of_ble_eq_true rfl) (fun _ => rfl) (fun _ => rfl) ?_
  refine J.es (es1 := (P ++ [.inr (4, [.ref a1, .ref a2, .ref (c + 1), .ref (c + 2), .ref (c + 3)]), .inl (0, 192, .inl (fun _ => 0)), .inl (0, 192, .inl (fun _ => 0)), .inl (0, 192, .inl (fun _ => 0))])) (s0 _ _ _) ?_
  exact Jrv dX4_init_41 rfl (Nat.le_of_ble_eq_true rfl) (Nat.le_of_ble_eq_true rfl) ⟨rfl, rfl⟩

def mdCourse (c a1 a2 : Nat) : List ME := [.inr (3, [.ref a1, .ref a2, .ref (c + 1), .ref (c + 2), .int 0, .int 0, .int 0, .int 0, .int 0, .int 0]), .inl (0, 1952, .inl (fun _ => 0)), .inl (0, 352, .inl (fun _ => 0))]
set_option maxRecDepth 100000 in
set_option maxHeartbeats 4000000 in
theorem ct_mdCourse (P : List ME) (c a1 a2 : Nat) (hc : P.length = c) (hc2 : c < 1000) : Ct mX3_init (rm 1 2 2304) [.ref c, .ref a1, .ref a2] (P ++ [.inr (3, [.null, .null, .null, .null, .int 0, .int 0, .int 0, .int 0, .int 0, .int 0])]) (fun r es => r = .inl none ∧ es = P ++ mdCourse c a1 a2) := by
  have hcst : CST = 1000000 := rfl
  refine Ct.of (by decide +kernel) (Nat.le_of_ble_eq_true rfl) ?_
  show J _ _ _ _ 0 [some (.ref c), some (.ref a1), some (.ref a2)] [] _ 0 0
  have h0 : ∀ (x : ME) (T : List ME), (P ++ (x :: T))[c]? = some x := fun x T => by rw [List.getElem?_append_right (by omega), hc, Nat.sub_self]; rfl
  have s0 : ∀ (x y : ME) (T : List ME), (P ++ (x :: T)).set c y = P ++ (y :: T) := fun x y T => by rw [List.set_append_right _ _ (by omega), hc, Nat.sub_self]; rfl
  have hl : ∀ T : List ME, (P ++ T).length = c + T.length := fun T => by rw [List.length_append, hc]
  have happ : ∀ (T : List ME) (e : ME), (P ++ T) ++ [e] = P ++ (T ++ [e]) := fun T e => List.append_assoc _ _ _
  refine J_aload_n (nx := 1) dX3_init_0 rfl rfl ?_
  refine J_objInit (nx := 4) dX3_init_1 rfl lk_X3_3 oi_ins oi_code (Nat.le_of_ble_eq_true rfl) ⟨(Nat.le_of_ble_eq_true rfl), (Nat.le_of_ble_eq_true rfl)⟩ ?_
  refine J_aload_n (nx := 5) dX3_init_4 rfl rfl ?_
  refine J_sipush (nx := 8) (i := 1952) (v := 1952) (by decide) dX3_init_5 rfl ?_
  refine J_newi (nx := 10) (N := 1952) ar_int dX3_init_8 rfl (by decide) rfl (by omega) (by rw [hl]; show c + 1 < CST; omega) (show 0 + 1 ≤ 2 by omega) (show 0 + 1952 ≤ 2304 by omega) ?_
  rw [show List.length ((P ++ [.inr (3, [.null, .null, .null, .null, .int 0, .int 0, .int 0, .int 0, .int 0, .int 0])]) : List ME) = c + 1 from hl _]
  refine J.es (es1 := (P ++ [.inr (3, [.null, .null, .null, .null, .int 0, .int 0, .int 0, .int 0, .int 0, .int 0]), .inl (0, 1952, .inl (fun _ => 0))])) (happ _ _) ?_
  refine J_putF (nx := 13) dX3_init_10 rfl ff_X3_9 rfl (h0 _ _) (Nat.le_of_ble_eq_true rfl) (fun _ => rfl) (fun _ => rfl) ?_
  refine J.es (es1 := (P ++ [.inr (3, [.null, .null, .ref (c + 1), .null, .int 0, .int 0, .int 0, .int 0, .int 0, .int 0]), .inl (0, 1952, .inl (fun _ => 0))])) (s0 _ _ _) ?_
  refine J_aload_n (nx := 14) dX3_init_13 rfl rfl ?_
  refine J_sipush (nx := 17) (i := 352) (v := 352) (by decide) dX3_init_14 rfl ?_
  refine J_newi (nx := 19) (N := 352) ar_int dX3_init_17 rfl (by decide) rfl (by omega) (by rw [hl]; show c + 2 < CST; omega) (show 1 + 1 ≤ 2 by omega) (show 1952 + 352 ≤ 2304 by omega) ?_
  rw [show List.length ((P ++ [.inr (3, [.null, .null, .ref (c + 1), .null, .int 0, .int 0, .int 0, .int 0, .int 0, .int 0]), .inl (0, 1952, .inl (fun _ => 0))]) : List ME) = c + 2 from hl _]
  refine J.es (es1 := (P ++ [.inr (3, [.null, .null, .ref (c + 1), .null, .int 0, .int 0, .int 0, .int 0, .int 0, .int 0]), .inl (0, 1952, .inl (fun _ => 0)), .inl (0, 352, .inl (fun _ => 0))])) (happ _ _) ?_
  refine J_putF (nx := 22) dX3_init_19 rfl ff_X3_15 rfl (h0 _ _) (Nat.le_of_ble_eq_true rfl) (fun _ => rfl) (fun _ => rfl) ?_
  refine J.es (es1 := (P ++ [.inr (3, [.null, .null, .ref (c + 1), .ref (c + 2), .int 0, .int 0, .int 0, .int 0, .int 0, .int 0]), .inl (0, 1952, .inl (fun _ => 0)), .inl (0, 352, .inl (fun _ => 0))])) (s0 _ _ _) ?_
  refine J_aload_n (nx := 23) dX3_init_22 rfl rfl ?_
  refine J_aload_n (nx := 24) dX3_init_23 rfl rfl ?_
  refine J_putF (nx := 27) dX3_init_24 rfl ff_X3_18 rfl (h0 _ _) (Nat.le_of_ble_eq_true rfl) (fun _ => rfl) (fun _ => rfl) ?_
  refine J.es (es1 := (P ++ [.inr (3, [.ref a1, .null, .ref (c + 1), .ref (c + 2), .int 0, .int 0, .int 0, .int 0, .int 0, .int 0]), .inl (0, 1952, .inl (fun _ => 0)), .inl (0, 352, .inl (fun _ => 0))])) (s0 _ _ _) ?_
  refine J_aload_n (nx := 28) dX3_init_27 rfl rfl ?_
  refine J_aload_n (nx := 29) dX3_init_28 rfl rfl ?_
  refine J_putF (nx := 32) dX3_init_29 rfl ff_X3_22 rfl (h0 _ _) (Nat.le_of_ble_eq_true rfl) (fun _ => rfl) (fun _ => rfl) ?_
  refine J.es (es1 := (P ++ [.inr (3, [.ref a1, .ref a2, .ref (c + 1), .ref (c + 2), .int 0, .int 0, .int 0, .int 0, .int 0, .int 0]), .inl (0, 1952, .inl (fun _ => 0)), .inl (0, 352, .inl (fun _ => 0))])) (s0 _ _ _) ?_
  exact Jrv dX3_init_32 rfl (Nat.le_of_ble_eq_true rfl) (Nat.le_of_ble_eq_true rfl) ⟨rfl, rfl⟩

def mdRest (c a1 a2 : Nat) : List ME := [.inr (5, [.ref a1, .ref a2, .ref (c + 1), .int 0, .int 0, .int 0, .int 0]), .inl (0, 32, .inl (fun _ => 0))]
set_option maxRecDepth 100000 in
set_option maxHeartbeats 4000000 in
theorem ct_mdRest (P : List ME) (c a1 a2 : Nat) (hc : P.length = c) (hc2 : c < 1000) : Ct mX5_init (rm 1 1 32) [.ref c, .ref a1, .ref a2] (P ++ [.inr (5, [.null, .null, .null, .int 0, .int 0, .int 0, .int 0])]) (fun r es => r = .inl none ∧ es = P ++ mdRest c a1 a2) := by
  have hcst : CST = 1000000 := rfl
  refine Ct.of (by decide +kernel) (Nat.le_of_ble_eq_true rfl) ?_
  show J _ _ _ _ 0 [some (.ref c), some (.ref a1), some (.ref a2)] [] _ 0 0
  have h0 : ∀ (x : ME) (T : List ME), (P ++ (x :: T))[c]? = some x := fun x T => by rw [List.getElem?_append_right (by omega), hc, Nat.sub_self]; rfl
  have s0 : ∀ (x y : ME) (T : List ME), (P ++ (x :: T)).set c y = P ++ (y :: T) := fun x y T => by rw [List.set_append_right _ _ (by omega), hc, Nat.sub_self]; rfl
  have hl : ∀ T : List ME, (P ++ T).length = c + T.length := fun T => by rw [List.length_append, hc]
  have happ : ∀ (T : List ME) (e : ME), (P ++ T) ++ [e] = P ++ (T ++ [e]) := fun T e => List.append_assoc _ _ _
  refine J_aload_n (nx := 1) dX5_init_0 rfl rfl ?_
  refine J_objInit (nx := 4) dX5_init_1 rfl lk_X5_3 oi_ins oi_code (Nat.le_of_ble_eq_true rfl) ⟨(Nat.le_of_ble_eq_true rfl), (Nat.le_of_ble_eq_true rfl)⟩ ?_
  refine J_aload_n (nx := 5) dX5_init_4 rfl rfl ?_
  refine J_bipush (nx := 7) (i := 32) (v := 32) (by decide) dX5_init_5 rfl ?_
  refine J_newi (nx := 9) (N := 32) ar_int dX5_init_7 rfl (by decide) rfl (by omega) (by rw [hl]; show c + 1 < CST; omega) (show 0 + 1 ≤ 1 by omega) (show 0 + 32 ≤ 32 by omega) ?_
  rw [show List.length ((P ++ [.inr (5, [.null, .null, .null, .int 0, .int 0, .int 0, .int 0])]) : List ME) = c + 1 from hl _]
  refine J.es (es1 := (P ++ [.inr (5, [.null, .null, .null, .int 0, .int 0, .int 0, .int 0]), .inl (0, 32, .inl (fun _ => 0))])) (happ _ _) ?_
  refine J_putF (nx := 12) dX5_init_9 rfl ff_X5_9 rfl (h0 _ _) (Nat.le_of_ble_eq_true rfl) (fun _ => rfl) (fun _ => rfl) ?_
  refine J.es (es1 := (P ++ [.inr (5, [.null, .null, .ref (c + 1), .int 0, .int 0, .int 0, .int 0]), .inl (0, 32, .inl (fun _ => 0))])) (s0 _ _ _) ?_
  refine J_aload_n (nx := 13) dX5_init_12 rfl rfl ?_
  refine J_aload_n (nx := 14) dX5_init_13 rfl rfl ?_
  refine J_putF (nx := 17) dX5_init_14 rfl ff_X5_15 rfl (h0 _ _) (Nat.le_of_ble_eq_true rfl) (fun _ => rfl) (fun _ => rfl) ?_
  refine J.es (es1 := (P ++ [.inr (5, [.ref a1, .null, .ref (c + 1), .int 0, .int 0, .int 0, .int 0]), .inl (0, 32, .inl (fun _ => 0))])) (s0 _ _ _) ?_
  refine J_aload_n (nx := 18) dX5_init_17 rfl rfl ?_
  refine J_aload_n (nx := 19) dX5_init_18 rfl rfl ?_
  refine J_putF (nx := 22) dX5_init_19 rfl ff_X5_19 rfl (h0 _ _) (Nat.le_of_ble_eq_true rfl) (fun _ => rfl) (fun _ => rfl) ?_
  refine J.es (es1 := (P ++ [.inr (5, [.ref a1, .ref a2, .ref (c + 1), .int 0, .int 0, .int 0, .int 0]), .inl (0, 32, .inl (fun _ => 0))])) (s0 _ _ _) ?_
  exact Jrv dX5_init_22 rfl (Nat.le_of_ble_eq_true rfl) (Nat.le_of_ble_eq_true rfl) ⟨rfl, rfl⟩

def mdCode (c : Nat) : List ME := [.inr (2, [.int (0), .ref (c + 1), .ref (c + 2)]), .inl (0, 0, .inl (fun _ => 0)), .inl (0, 0, .inl (fun _ => 0))]
set_option maxRecDepth 100000 in
set_option maxHeartbeats 4000000 in
theorem ct_mdCode (P : List ME) (c : Nat) (hc : P.length = c) (hc2 : c < 1000) : Ct mX2_init_ (rm 1 2 0) [.ref c] (P ++ [.inr (2, [.int 0, .null, .null])]) (fun r es => r = .inl none ∧ es = P ++ mdCode c) := by
  have hcst : CST = 1000000 := rfl
  refine Ct.of (by decide +kernel) (Nat.le_of_ble_eq_true rfl) ?_
  show J _ _ _ _ 0 [some (.ref c)] [] _ 0 0
  have h0 : ∀ (x : ME) (T : List ME), (P ++ (x :: T))[c]? = some x := fun x T => by rw [List.getElem?_append_right (by omega), hc, Nat.sub_self]; rfl
  have s0 : ∀ (x y : ME) (T : List ME), (P ++ (x :: T)).set c y = P ++ (y :: T) := fun x y T => by rw [List.set_append_right _ _ (by omega), hc, Nat.sub_self]; rfl
  have hl : ∀ T : List ME, (P ++ T).length = c + T.length := fun T => by rw [List.length_append, hc]
  have happ : ∀ (T : List ME) (e : ME), (P ++ T) ++ [e] = P ++ (T ++ [e]) := fun T e => List.append_assoc _ _ _
  refine J_aload_n (nx := 1) dX2_init__0 rfl rfl ?_
  refine J_objInit (nx := 4) dX2_init__1 rfl lk_X2_3 oi_ins oi_code (Nat.le_of_ble_eq_true rfl) ⟨(Nat.le_of_ble_eq_true rfl), (Nat.le_of_ble_eq_true rfl)⟩ ?_
  refine J_aload_n (nx := 5) dX2_init__4 rfl rfl ?_
  refine J_iconst (nx := 6) (i := 0) (v := 0) (by decide) dX2_init__5 rfl ?_
  refine J_putF (nx := 9) dX2_init__6 rfl ff_X2_9 rfl (h0 _ _) (Nat.le_of_ble_eq_true rfl) (fun _ => rfl) (fun _ => rfl) ?_
  refine J.es (es1 := (P ++ [.inr (2, [.int (0), .null, .null])])) (s0 _ _ _) ?_
  refine J_aload_n (nx := 10) dX2_init__9 rfl rfl ?_
  refine J_iconst (nx := 11) (i := 0) (v := 0) (by decide) dX2_init__10 rfl ?_
  refine J_newi (nx := 13) (N := 0) ar_int dX2_init__11 rfl (by decide) rfl (by omega) (by rw [hl]; show c + 1 < CST; omega) (show 0 + 1 ≤ 2 by omega) (show 0 + 0 ≤ 0 by omega) ?_
  rw [show List.length ((P ++ [.inr (2, [.int (0), .null, .null])]) : List ME) = c + 1 from hl _]
  refine J.es (es1 := (P ++ [.inr (2, [.int (0), .null, .null]), .inl (0, 0, .inl (fun _ => 0))])) (happ _ _) ?_
  refine J_putF (nx := 16) dX2_init__13 rfl ff_X2_21 rfl (h0 _ _) (Nat.le_of_ble_eq_true rfl) (fun _ => rfl) (fun _ => rfl) ?_
  refine J.es (es1 := (P ++ [.inr (2, [.int (0), .ref (c + 1), .null]), .inl (0, 0, .inl (fun _ => 0))])) (s0 _ _ _) ?_
  refine J_aload_n (nx := 17) dX2_init__16 rfl rfl ?_
  refine J_iconst (nx := 18) (i := 0) (v := 0) (by decide) dX2_init__17 rfl ?_
  refine J_newi (nx := 20) (N := 0) ar_int dX2_init__18 rfl (by decide) rfl (by omega) (by rw [hl]; show c + 2 < CST; omega) (show 1 + 1 ≤ 2 by omega) (show 0 + 0 ≤ 0 by omega) ?_
  rw [show List.length ((P ++ [.inr (2, [.int (0), .ref (c + 1), .null]), .inl (0, 0, .inl (fun _ => 0))]) : List ME) = c + 2 from hl _]
  refine J.es (es1 := (P ++ [.inr (2, [.int (0), .ref (c + 1), .null]), .inl (0, 0, .inl (fun _ => 0)), .inl (0, 0, .inl (fun _ => 0))])) (happ _ _) ?_
  refine J_putF (nx := 23) dX2_init__20 rfl ff_X2_25 rfl (h0 _ _) (Nat.le_of_ble_eq_true rfl) (fun _ => rfl) (fun _ => rfl) ?_
  refine J.es (es1 := (P ++ [.inr (2, [.int (0), .ref (c + 1), .ref (c + 2)]), .inl (0, 0, .inl (fun _ => 0)), .inl (0, 0, .inl (fun _ => 0))])) (s0 _ _ _) ?_
  exact Jrv dX2_init__23 rfl (Nat.le_of_ble_eq_true rfl) (Nat.le_of_ble_eq_true rfl) ⟨rfl, rfl⟩

def mdTape (c : Nat) : List ME := [.inr (6, [.ref (c + 1), .int 0, .ref (c + 2), .ref (c + 3), .ref (c + 4), .ref (c + 5), .int 0, .int 0, .int 0, .int 0, .int 0, .ref (CST + 0)]), .inl (0, 400, .inl (fun _ => 0)), .inl (0, 401, .inl (fun _ => 0)), .inl (0, 401, .inl (fun _ => 0)), .inl (0, 401, .inl (fun _ => 0)), .inl (4, 401, .inr (.inr (.inr (.inr (fun _ => none)))))]
set_option maxRecDepth 100000 in
set_option maxHeartbeats 4000000 in
theorem ct_mdTape (P : List ME) (c : Nat) (hc : P.length = c) (hc2 : c < 1000) : Ct mX7_init (rm 1 5 2004) [.ref c] (P ++ [.inr (6, [.null, .int 0, .null, .null, .null, .null, .int 0, .int 0, .int 0, .int 0, .int 0, .null])]) (fun r es => r = .inl none ∧ es = P ++ mdTape c) := by
  have hcst : CST = 1000000 := rfl
  refine Ct.of (by decide +kernel) (Nat.le_of_ble_eq_true rfl) ?_
  show J _ _ _ _ 0 [some (.ref c)] [] _ 0 0
  have h0 : ∀ (x : ME) (T : List ME), (P ++ (x :: T))[c]? = some x := fun x T => by rw [List.getElem?_append_right (by omega), hc, Nat.sub_self]; rfl
  have s0 : ∀ (x y : ME) (T : List ME), (P ++ (x :: T)).set c y = P ++ (y :: T) := fun x y T => by rw [List.set_append_right _ _ (by omega), hc, Nat.sub_self]; rfl
  have hl : ∀ T : List ME, (P ++ T).length = c + T.length := fun T => by rw [List.length_append, hc]
  have happ : ∀ (T : List ME) (e : ME), (P ++ T) ++ [e] = P ++ (T ++ [e]) := fun T e => List.append_assoc _ _ _
  refine J_aload_n (nx := 1) dX7_init_0 rfl rfl ?_
  refine J_objInit (nx := 4) dX7_init_1 rfl lk_X7_3 oi_ins oi_code (Nat.le_of_ble_eq_true rfl) ⟨(Nat.le_of_ble_eq_true rfl), (Nat.le_of_ble_eq_true rfl)⟩ ?_
  refine J_aload_n (nx := 5) dX7_init_4 rfl rfl ?_
  refine J_sipush (nx := 8) (i := 400) (v := 400) (by decide) dX7_init_5 rfl ?_
  refine J_newi (nx := 10) (N := 400) ar_int dX7_init_8 rfl (by decide) rfl (by omega) (by rw [hl]; show c + 1 < CST; omega) (show 0 + 1 ≤ 5 by omega) (show 0 + 400 ≤ 2004 by omega) ?_
  rw [show List.length ((P ++ [.inr (6, [.null, .int 0, .null, .null, .null, .null, .int 0, .int 0, .int 0, .int 0, .int 0, .null])]) : List ME) = c + 1 from hl _]
  refine J.es (es1 := (P ++ [.inr (6, [.null, .int 0, .null, .null, .null, .null, .int 0, .int 0, .int 0, .int 0, .int 0, .null]), .inl (0, 400, .inl (fun _ => 0))])) (happ _ _) ?_
  refine J_putF (nx := 13) dX7_init_10 rfl ff_X7_9 rfl (h0 _ _) (Nat.le_of_ble_eq_true rfl) (fun _ => rfl) (fun _ => rfl) ?_
  refine J.es (es1 := (P ++ [.inr (6, [.ref (c + 1), .int 0, .null, .null, .null, .null, .int 0, .int 0, .int 0, .int 0, .int 0, .null]), .inl (0, 400, .inl (fun _ => 0))])) (s0 _ _ _) ?_
  refine J_aload_n (nx := 14) dX7_init_13 rfl rfl ?_
  refine J_sipush (nx := 17) (i := 401) (v := 401) (by decide) dX7_init_14 rfl ?_
  refine J_newi (nx := 19) (N := 401) ar_int dX7_init_17 rfl (by decide) rfl (by omega) (by rw [hl]; show c + 2 < CST; omega) (show 1 + 1 ≤ 5 by omega) (show 400 + 401 ≤ 2004 by omega) ?_
  rw [show List.length ((P ++ [.inr (6, [.ref (c + 1), .int 0, .null, .null, .null, .null, .int 0, .int 0, .int 0, .int 0, .int 0, .null]), .inl (0, 400, .inl (fun _ => 0))]) : List ME) = c + 2 from hl _]
  refine J.es (es1 := (P ++ [.inr (6, [.ref (c + 1), .int 0, .null, .null, .null, .null, .int 0, .int 0, .int 0, .int 0, .int 0, .null]), .inl (0, 400, .inl (fun _ => 0)), .inl (0, 401, .inl (fun _ => 0))])) (happ _ _) ?_
  refine J_putF (nx := 22) dX7_init_19 rfl ff_X7_15 rfl (h0 _ _) (Nat.le_of_ble_eq_true rfl) (fun _ => rfl) (fun _ => rfl) ?_
  refine J.es (es1 := (P ++ [.inr (6, [.ref (c + 1), .int 0, .ref (c + 2), .null, .null, .null, .int 0, .int 0, .int 0, .int 0, .int 0, .null]), .inl (0, 400, .inl (fun _ => 0)), .inl (0, 401, .inl (fun _ => 0))])) (s0 _ _ _) ?_
  refine J_aload_n (nx := 23) dX7_init_22 rfl rfl ?_
  refine J_sipush (nx := 26) (i := 401) (v := 401) (by decide) dX7_init_23 rfl ?_
  refine J_newi (nx := 28) (N := 401) ar_int dX7_init_26 rfl (by decide) rfl (by omega) (by rw [hl]; show c + 3 < CST; omega) (show 2 + 1 ≤ 5 by omega) (show 801 + 401 ≤ 2004 by omega) ?_
  rw [show List.length ((P ++ [.inr (6, [.ref (c + 1), .int 0, .ref (c + 2), .null, .null, .null, .int 0, .int 0, .int 0, .int 0, .int 0, .null]), .inl (0, 400, .inl (fun _ => 0)), .inl (0, 401, .inl (fun _ => 0))]) : List ME) = c + 3 from hl _]
  refine J.es (es1 := (P ++ [.inr (6, [.ref (c + 1), .int 0, .ref (c + 2), .null, .null, .null, .int 0, .int 0, .int 0, .int 0, .int 0, .null]), .inl (0, 400, .inl (fun _ => 0)), .inl (0, 401, .inl (fun _ => 0)), .inl (0, 401, .inl (fun _ => 0))])) (happ _ _) ?_
  refine J_putF (nx := 31) dX7_init_28 rfl ff_X7_18 rfl (h0 _ _) (Nat.le_of_ble_eq_true rfl) (fun _ => rfl) (fun _ => rfl) ?_
  refine J.es (es1 := (P ++ [.inr (6, [.ref (c + 1), .int 0, .ref (c + 2), .ref (c + 3), .null, .null, .int 0, .int 0, .int 0, .int 0, .int 0, .null]), .inl (0, 400, .inl (fun _ => 0)), .inl (0, 401, .inl (fun _ => 0)), .inl (0, 401, .inl (fun _ => 0))])) (s0 _ _ _) ?_
  refine J_aload_n (nx := 32) dX7_init_31 rfl rfl ?_
  refine J_sipush (nx := 35) (i := 401) (v := 401) (by decide) dX7_init_32 rfl ?_
  refine J_newi (nx := 37) (N := 401) ar_int dX7_init_35 rfl (by decide) rfl (by omega) (by rw [hl]; show c + 4 < CST; omega) (show 3 + 1 ≤ 5 by omega) (show 1202 + 401 ≤ 2004 by omega) ?_
  rw [show List.length ((P ++ [.inr (6, [.ref (c + 1), .int 0, .ref (c + 2), .ref (c + 3), .null, .null, .int 0, .int 0, .int 0, .int 0, .int 0, .null]), .inl (0, 400, .inl (fun _ => 0)), .inl (0, 401, .inl (fun _ => 0)), .inl (0, 401, .inl (fun _ => 0))]) : List ME) = c + 4 from hl _]
  refine J.es (es1 := (P ++ [.inr (6, [.ref (c + 1), .int 0, .ref (c + 2), .ref (c + 3), .null, .null, .int 0, .int 0, .int 0, .int 0, .int 0, .null]), .inl (0, 400, .inl (fun _ => 0)), .inl (0, 401, .inl (fun _ => 0)), .inl (0, 401, .inl (fun _ => 0)), .inl (0, 401, .inl (fun _ => 0))])) (happ _ _) ?_
  refine J_putF (nx := 40) dX7_init_37 rfl ff_X7_21 rfl (h0 _ _) (Nat.le_of_ble_eq_true rfl) (fun _ => rfl) (fun _ => rfl) ?_
  refine J.es (es1 := (P ++ [.inr (6, [.ref (c + 1), .int 0, .ref (c + 2), .ref (c + 3), .ref (c + 4), .null, .int 0, .int 0, .int 0, .int 0, .int 0, .null]), .inl (0, 400, .inl (fun _ => 0)), .inl (0, 401, .inl (fun _ => 0)), .inl (0, 401, .inl (fun _ => 0)), .inl (0, 401, .inl (fun _ => 0))])) (s0 _ _ _) ?_
  refine J_aload_n (nx := 41) dX7_init_40 rfl rfl ?_
  refine J_sipush (nx := 44) (i := 401) (v := 401) (by decide) dX7_init_41 rfl ?_
  refine J_newq (nx := 47) (t := 4) (N := 401) (Or.inr ⟨rfl, rfl⟩) (TT_of (i := 132) (by decide +kernel) rfl) dX7_init_44 rfl (by decide) rfl (by omega) (by rw [hl]; show c + 5 < CST; omega) (show 4 + 1 ≤ 5 by omega) (show 1603 + 401 ≤ 2004 by omega) ?_
  rw [show List.length ((P ++ [.inr (6, [.ref (c + 1), .int 0, .ref (c + 2), .ref (c + 3), .ref (c + 4), .null, .int 0, .int 0, .int 0, .int 0, .int 0, .null]), .inl (0, 400, .inl (fun _ => 0)), .inl (0, 401, .inl (fun _ => 0)), .inl (0, 401, .inl (fun _ => 0)), .inl (0, 401, .inl (fun _ => 0))]) : List ME) = c + 5 from hl _]
  refine J.es (es1 := (P ++ [.inr (6, [.ref (c + 1), .int 0, .ref (c + 2), .ref (c + 3), .ref (c + 4), .null, .int 0, .int 0, .int 0, .int 0, .int 0, .null]), .inl (0, 400, .inl (fun _ => 0)), .inl (0, 401, .inl (fun _ => 0)), .inl (0, 401, .inl (fun _ => 0)), .inl (0, 401, .inl (fun _ => 0)), .inl (4, 401, .inr (.inr (.inr (.inr (fun _ => none)))))])) (happ _ _) ?_
  refine J_putF (nx := 50) dX7_init_47 rfl ff_X7_26 rfl (h0 _ _) (Nat.le_of_ble_eq_true rfl) (fun _ => rfl) (fun _ => rfl) ?_
  refine J.es (es1 := (P ++ [.inr (6, [.ref (c + 1), .int 0, .ref (c + 2), .ref (c + 3), .ref (c + 4), .ref (c + 5), .int 0, .int 0, .int 0, .int 0, .int 0, .null]), .inl (0, 400, .inl (fun _ => 0)), .inl (0, 401, .inl (fun _ => 0)), .inl (0, 401, .inl (fun _ => 0)), .inl (0, 401, .inl (fun _ => 0)), .inl (4, 401, .inr (.inr (.inr (.inr (fun _ => none)))))])) (s0 _ _ _) ?_
  refine J_aload_n (nx := 51) dX7_init_50 rfl rfl ?_
  refine J_getsW (nx := 54) (j := 0) dX7_init_51 rfl (by decide) gs_X7_30 ?_
  refine J_put (nx := 57) dX7_init_54 rfl fl_X7_34 (h0 _ _) (Nat.le_of_ble_eq_true rfl) (fun _ => rfl) (fun _ => rfl) ?_
  refine J.es (es1 := (P ++ [.inr (6, [.ref (c + 1), .int 0, .ref (c + 2), .ref (c + 3), .ref (c + 4), .ref (c + 5), .int 0, .int 0, .int 0, .int 0, .int 0, .ref (CST + 0)]), .inl (0, 400, .inl (fun _ => 0)), .inl (0, 401, .inl (fun _ => 0)), .inl (0, 401, .inl (fun _ => 0)), .inl (0, 401, .inl (fun _ => 0)), .inl (4, 401, .inr (.inr (.inr (.inr (fun _ => none)))))])) (s0 _ _ _) ?_
  exact Jrv dX7_init_57 rfl (Nat.le_of_ble_eq_true rfl) (Nat.le_of_ble_eq_true rfl) ⟨rfl, rfl⟩

