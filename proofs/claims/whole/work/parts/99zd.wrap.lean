/-! the wrappers -/
abbrev mL_worth : MI := (yL_worth, cL_worth, 5, some .int)
abbrev hL_worth : List (Nat × Nat × Nat × Nat) := [(0, 9, 12, 27), (0, 9, 16, 13)]
set_option maxRecDepth 100000 in
set_option maxHeartbeats 4000000 in
theorem cw_worth {g : GS} (p0 : Int32) (p1 : Int32) {C : Int32 → Int64 → GS → Prop} (hc : Ct mX11_worth (rm 10 2 12) [.ref 0, .int p0, .int p1] (Wd g) (PLl [x_iob, x_iae] C)) : CtX hL_worth mL_worth (rm 11 2 12) [.ref 0, .int p0, .int p1, .ref 82] (Wd g) (WrL C) := by
  refine CtX.of (by decide +kernel) (Nat.le_of_ble_eq_true rfl) ?_
  show Jx _ _ _ _ _ 0 [some (.ref 0), some (.int p0), some (.int p1), some (.ref 82), none] [] _ 0 0
  refine Jx_aload_n (nx := 1) dL_worth_0 rfl rfl ?_
  refine Jx_iconst (nx := 2) (v := 0) (by decide) dL_worth_1 rfl ?_
  refine Jx_aload_n (nx := 3) dL_worth_2 rfl rfl ?_
  refine Jx_iload_n (nx := 4) dL_worth_3 rfl rfl ?_
  refine Jx_iload_n (nx := 5) dL_worth_4 rfl rfl ?_
  refine Jx_callV (As := [.int p0, .int p1]) (nx := 8) dL_worth_5 rfl ml_X11_worth lk_L_55 iv_X11_worth rfl rfl rfl ⟨(Nat.le_of_ble_eq_true rfl), (Nat.le_of_ble_eq_true rfl)⟩ (Nat.le_of_ble_eq_true rfl) ⟨(Nat.le_of_ble_eq_true rfl), (Nat.le_of_ble_eq_true rfl)⟩ hc (fun E' es' hq => ?_) (fun v' es' hq => ?_)
  · obtain ⟨k, v, g1, e1, hC, ⟨-, e2⟩ | ⟨i, hi, e2, e3⟩⟩ := hq
    · cases e2
    · have h01 : i = 0 ∨ i = 1 := by have : i < 2 := hi; omega
      rcases h01 with rfl | rfl
      · cases e3
        have hC' : C 1 v g1 := by rw [e2] at hC; exact hC
        exact ⟨[], _, _, x_iob, 4, 14, rfl, fun z hz => (by cases hz), rfl, (by decide), cw_27, ca_iob, Or.inr ⟨dL_worth_12, rfl⟩, (by decide), Jx_iconst (nx := 15) (v := 1) (by decide) dL_worth_14 rfl (Jxrz dL_worth_15 rfl (by decide) (Nat.le_of_ble_eq_true rfl) (Nat.le_of_ble_eq_true rfl) (WrL.thr e1 (by decide) hC'))⟩
      · cases e3
        have hC' : C 2 v g1 := by rw [e2] at hC; exact hC
        exact ⟨[_], _, _, x_iae, 4, 18, rfl, fun z hz => (by cases hz with | head => exact Or.inr ⟨by decide, x_iob, cw_27, by decide⟩ | tail _ hz => (cases hz)), rfl, (by decide), cw_13, ca_iae, Or.inr ⟨dL_worth_16, rfl⟩, (by decide), Jx_iconst (nx := 19) (v := 2) (by decide) dL_worth_18 rfl (Jxrz dL_worth_19 rfl (by decide) (Nat.le_of_ble_eq_true rfl) (Nat.le_of_ble_eq_true rfl) (WrL.thr e1 (by decide) hC'))⟩
  · obtain ⟨k, v, g1, e1, hC, ⟨e2, e3⟩ | ⟨i, hi, e2, e3⟩⟩ := hq
    · cases e3
      subst e1
      refine Jxt_82 (nx := 9) dL_worth_8 rfl ?_
      refine Jx_goto (nx := 20) dL_worth_9 (by decide) ?_
      refine Jx_iconst (nx := 21) (v := 0) (by decide) dL_worth_20 rfl ?_
      exact Jxrz dL_worth_21 rfl (by decide) (Nat.le_of_ble_eq_true rfl) (Nat.le_of_ble_eq_true rfl) ⟨0, _, rfl, rfl, v, g1, _, rfl, fun _ => rfl, e2 ▸ hC⟩
    · cases e3
abbrev mL_follows : MI := (yL_follows, cL_follows, 5, some .int)
abbrev hL_follows : List (Nat × Nat × Nat × Nat) := [(0, 10, 13, 27), (0, 10, 17, 29)]
set_option maxRecDepth 100000 in
set_option maxHeartbeats 4000000 in
theorem cw_follows {g : GS} (p0 : Int32) (p1 : Int32) {C : Int32 → Int32 → GS → Prop} (hc : Ct mX11_follows (rm 10 2 12) [.ref 0, .int p0, .int p1] (Wd g) (PLi [x_iob, x_nse] C)) : CtX hL_follows mL_follows (rm 11 2 12) [.ref 0, .int p0, .int p1, .ref 82] (Wd g) (WrI C) := by
  refine CtX.of (by decide +kernel) (Nat.le_of_ble_eq_true rfl) ?_
  show Jx _ _ _ _ _ 0 [some (.ref 0), some (.int p0), some (.int p1), some (.ref 82), none] [] _ 0 0
  refine Jx_aload_n (nx := 1) dL_follows_0 rfl rfl ?_
  refine Jx_iconst (nx := 2) (v := 0) (by decide) dL_follows_1 rfl ?_
  refine Jx_aload_n (nx := 3) dL_follows_2 rfl rfl ?_
  refine Jx_iload_n (nx := 4) dL_follows_3 rfl rfl ?_
  refine Jx_iload_n (nx := 5) dL_follows_4 rfl rfl ?_
  refine Jx_callV (As := [.int p0, .int p1]) (nx := 8) dL_follows_5 rfl ml_X11_follows lk_L_23 iv_X11_follows rfl rfl rfl ⟨(Nat.le_of_ble_eq_true rfl), (Nat.le_of_ble_eq_true rfl)⟩ (Nat.le_of_ble_eq_true rfl) ⟨(Nat.le_of_ble_eq_true rfl), (Nat.le_of_ble_eq_true rfl)⟩ hc (fun E' es' hq => ?_) (fun v' es' hq => ?_)
  · obtain ⟨k, v, g1, e1, hC, ⟨-, e2⟩ | ⟨i, hi, e2, e3⟩⟩ := hq
    · cases e2
    · have h01 : i = 0 ∨ i = 1 := by have : i < 2 := hi; omega
      rcases h01 with rfl | rfl
      · cases e3
        have hC' : C 1 v g1 := by rw [e2] at hC; exact hC
        exact ⟨[], _, _, x_iob, 4, 15, rfl, fun z hz => (by cases hz), rfl, (by decide), cw_27, ca_iob, Or.inr ⟨dL_follows_13, rfl⟩, (by decide), Jx_iconst (nx := 16) (v := 1) (by decide) dL_follows_15 rfl (Jxrz dL_follows_16 rfl (by decide) (Nat.le_of_ble_eq_true rfl) (Nat.le_of_ble_eq_true rfl) (WrI.thr e1 (by decide) hC'))⟩
      · cases e3
        have hC' : C 2 v g1 := by rw [e2] at hC; exact hC
        exact ⟨[_], _, _, x_nse, 4, 19, rfl, fun z hz => (by cases hz with | head => exact Or.inr ⟨by decide, x_iob, cw_27, by decide⟩ | tail _ hz => (cases hz)), rfl, (by decide), cw_29, ca_nse, Or.inr ⟨dL_follows_17, rfl⟩, (by decide), Jx_iconst (nx := 20) (v := 2) (by decide) dL_follows_19 rfl (Jxrz dL_follows_20 rfl (by decide) (Nat.le_of_ble_eq_true rfl) (Nat.le_of_ble_eq_true rfl) (WrI.thr e1 (by decide) hC'))⟩
  · obtain ⟨k, v, g1, e1, hC, ⟨e2, e3⟩ | ⟨i, hi, e2, e3⟩⟩ := hq
    · cases e3
      subst e1
      refine Jx_i2l (nx := 9) dL_follows_8 rfl ?_
      refine Jxt_82 (nx := 10) dL_follows_9 rfl ?_
      refine Jx_goto (nx := 21) dL_follows_10 (by decide) ?_
      refine Jx_iconst (nx := 22) (v := 0) (by decide) dL_follows_21 rfl ?_
      exact Jxrz dL_follows_22 rfl (by decide) (Nat.le_of_ble_eq_true rfl) (Nat.le_of_ble_eq_true rfl) ⟨0, _, rfl, rfl, v, g1, _, rfl, fun _ => rfl, e2 ▸ hC⟩
    · cases e3
abbrev mL_kick : MI := (yL_kick, cL_kick, 4, some .int)
abbrev hL_kick : List (Nat × Nat × Nat × Nat) := [(0, 9, 12, 27)]
set_option maxRecDepth 100000 in
set_option maxHeartbeats 4000000 in
theorem cw_kick {g : GS} (p0 : Int32) {C : Int32 → Int32 → GS → Prop} (hc : Ct mX11_kick (rm 10 1 6) [.ref 0, .int p0] (Wd g) (PLi [x_iob] C)) : CtX hL_kick mL_kick (rm 11 1 6) [.ref 0, .int p0, .ref 82] (Wd g) (WrI C) := by
  refine CtX.of (by decide +kernel) (Nat.le_of_ble_eq_true rfl) ?_
  show Jx _ _ _ _ _ 0 [some (.ref 0), some (.int p0), some (.ref 82), none] [] _ 0 0
  refine Jx_aload_n (nx := 1) dL_kick_0 rfl rfl ?_
  refine Jx_iconst (nx := 2) (v := 0) (by decide) dL_kick_1 rfl ?_
  refine Jx_aload_n (nx := 3) dL_kick_2 rfl rfl ?_
  refine Jx_iload_n (nx := 4) dL_kick_3 rfl rfl ?_
  refine Jx_callV (As := [.int p0]) (nx := 7) dL_kick_4 rfl ml_X11_kick lk_L_31 iv_X11_kick rfl rfl rfl ⟨(Nat.le_of_ble_eq_true rfl), (Nat.le_of_ble_eq_true rfl)⟩ (Nat.le_of_ble_eq_true rfl) ⟨(Nat.le_of_ble_eq_true rfl), (Nat.le_of_ble_eq_true rfl)⟩ hc (fun E' es' hq => ?_) (fun v' es' hq => ?_)
  · obtain ⟨k, v, g1, e1, hC, ⟨-, e2⟩ | ⟨i, hi, e2, e3⟩⟩ := hq
    · cases e2
    · have h01 : i = 0 := by have : i < 1 := hi; omega
      rcases h01 with rfl
      · cases e3
        have hC' : C 1 v g1 := by rw [e2] at hC; exact hC
        exact ⟨[], _, _, x_iob, 3, 13, rfl, fun z hz => (by cases hz), rfl, (by decide), cw_27, ca_iob, Or.inl ⟨3, rfl, dL_kick_12, rfl⟩, (by decide), Jx_iconst (nx := 14) (v := 1) (by decide) dL_kick_13 rfl (Jxrz dL_kick_14 rfl (by decide) (Nat.le_of_ble_eq_true rfl) (Nat.le_of_ble_eq_true rfl) (WrI.thr e1 (by decide) hC'))⟩
  · obtain ⟨k, v, g1, e1, hC, ⟨e2, e3⟩ | ⟨i, hi, e2, e3⟩⟩ := hq
    · cases e3
      subst e1
      refine Jx_i2l (nx := 8) dL_kick_7 rfl ?_
      refine Jxt_82 (nx := 9) dL_kick_8 rfl ?_
      refine Jx_goto (nx := 15) dL_kick_9 (by decide) ?_
      refine Jx_iconst (nx := 16) (v := 0) (by decide) dL_kick_15 rfl ?_
      exact Jxrz dL_kick_16 rfl (by decide) (Nat.le_of_ble_eq_true rfl) (Nat.le_of_ble_eq_true rfl) ⟨0, _, rfl, rfl, v, g1, _, rfl, fun _ => rfl, e2 ▸ hC⟩
    · cases e3
abbrev mL_now : MI := (yL_now, cL_now, 4, some .int)
abbrev hL_now : List (Nat × Nat × Nat × Nat) := [(0, 6, 9, 13)]
set_option maxRecDepth 100000 in
set_option maxHeartbeats 4000000 in
theorem cw_now {g : GS} (p0 : Int32) (p1 : Int32) {C : Int32 → GS → Prop} (hc : Ct mX11_now (rm 10 1 6) [.ref 0, .int p0, .int p1] (Wd g) (PLv [x_iae] C)) : CtX hL_now mL_now (rm 11 1 6) [.ref 0, .int p0, .int p1] (Wd g) (WrV C) := by
  refine CtX.of (by decide +kernel) (Nat.le_of_ble_eq_true rfl) ?_
  show Jx _ _ _ _ _ 0 [some (.ref 0), some (.int p0), some (.int p1), none] [] _ 0 0
  refine Jx_aload_n (nx := 1) dL_now_0 rfl rfl ?_
  refine Jx_iload_n (nx := 2) dL_now_1 rfl rfl ?_
  refine Jx_iload_n (nx := 3) dL_now_2 rfl rfl ?_
  refine Jx_callV (As := [.int p0, .int p1]) (nx := 6) dL_now_3 rfl ml_X11_now lk_L_35 iv_X11_now rfl rfl rfl ⟨(Nat.le_of_ble_eq_true rfl), (Nat.le_of_ble_eq_true rfl)⟩ (Nat.le_of_ble_eq_true rfl) ⟨(Nat.le_of_ble_eq_true rfl), (Nat.le_of_ble_eq_true rfl)⟩ hc (fun E' es' hq => ?_) (fun v' es' hq => ?_)
  · obtain ⟨k, g1, e1, hC, ⟨-, e2⟩ | ⟨i, hi, e2, e3⟩⟩ := hq
    · cases e2
    · have h01 : i = 0 := by have : i < 1 := hi; omega
      rcases h01 with rfl
      · cases e3
        have hC' : C 1 g1 := by rw [e2] at hC; exact hC
        exact ⟨[], _, _, x_iae, 3, 10, rfl, fun z hz => (by cases hz), rfl, (by decide), cw_13, ca_iae, Or.inl ⟨3, rfl, dL_now_9, rfl⟩, (by decide), Jx_iconst (nx := 11) (v := 1) (by decide) dL_now_10 rfl (Jxrz dL_now_11 rfl (by decide) (Nat.le_of_ble_eq_true rfl) (Nat.le_of_ble_eq_true rfl) (⟨_, g1, rfl, e1, hC'⟩))⟩
  · obtain ⟨k, g1, e1, hC, ⟨e2, e3⟩ | ⟨i, hi, e2, e3⟩⟩ := hq
    · cases e3
      subst e1
      refine Jx_goto (nx := 12) dL_now_6 (by decide) ?_
      refine Jx_iconst (nx := 13) (v := 0) (by decide) dL_now_12 rfl ?_
      exact Jxrz dL_now_13 rfl (by decide) (Nat.le_of_ble_eq_true rfl) (Nat.le_of_ble_eq_true rfl) ⟨0, g1, rfl, rfl, e2 ▸ hC⟩
    · cases e3
abbrev mL_lost : MI := (yL_lost, cL_lost, 3, some .int)
abbrev hL_lost : List (Nat × Nat × Nat × Nat) := [(0, 5, 8, 13)]
set_option maxRecDepth 100000 in
set_option maxHeartbeats 4000000 in
theorem cw_lost {g : GS} (p0 : Int32) {C : Int32 → GS → Prop} (hc : Ct mX11_lost (rm 10 1 6) [.ref 0, .int p0] (Wd g) (PLv [x_iae] C)) : CtX hL_lost mL_lost (rm 11 1 6) [.ref 0, .int p0] (Wd g) (WrV C) := by
  refine CtX.of (by decide +kernel) (Nat.le_of_ble_eq_true rfl) ?_
  show Jx _ _ _ _ _ 0 [some (.ref 0), some (.int p0), none] [] _ 0 0
  refine Jx_aload_n (nx := 1) dL_lost_0 rfl rfl ?_
  refine Jx_iload_n (nx := 2) dL_lost_1 rfl rfl ?_
  refine Jx_callV (As := [.int p0]) (nx := 5) dL_lost_2 rfl ml_X11_lost lk_L_39 iv_X11_lost rfl rfl rfl ⟨(Nat.le_of_ble_eq_true rfl), (Nat.le_of_ble_eq_true rfl)⟩ (Nat.le_of_ble_eq_true rfl) ⟨(Nat.le_of_ble_eq_true rfl), (Nat.le_of_ble_eq_true rfl)⟩ hc (fun E' es' hq => ?_) (fun v' es' hq => ?_)
  · obtain ⟨k, g1, e1, hC, ⟨-, e2⟩ | ⟨i, hi, e2, e3⟩⟩ := hq
    · cases e2
    · have h01 : i = 0 := by have : i < 1 := hi; omega
      rcases h01 with rfl
      · cases e3
        have hC' : C 1 g1 := by rw [e2] at hC; exact hC
        exact ⟨[], _, _, x_iae, 2, 9, rfl, fun z hz => (by cases hz), rfl, (by decide), cw_13, ca_iae, Or.inl ⟨2, rfl, dL_lost_8, rfl⟩, (by decide), Jx_iconst (nx := 10) (v := 1) (by decide) dL_lost_9 rfl (Jxrz dL_lost_10 rfl (by decide) (Nat.le_of_ble_eq_true rfl) (Nat.le_of_ble_eq_true rfl) (⟨_, g1, rfl, e1, hC'⟩))⟩
  · obtain ⟨k, g1, e1, hC, ⟨e2, e3⟩ | ⟨i, hi, e2, e3⟩⟩ := hq
    · cases e3
      subst e1
      refine Jx_goto (nx := 11) dL_lost_5 (by decide) ?_
      refine Jx_iconst (nx := 12) (v := 0) (by decide) dL_lost_11 rfl ?_
      exact Jxrz dL_lost_12 rfl (by decide) (Nat.le_of_ble_eq_true rfl) (Nat.le_of_ble_eq_true rfl) ⟨0, g1, rfl, rfl, e2 ▸ hC⟩
    · cases e3
abbrev mL_horizon : MI := (yL_horizon, cL_horizon, 3, some .int)
abbrev hL_horizon : List (Nat × Nat × Nat × Nat) := [(0, 5, 8, 13)]
set_option maxRecDepth 100000 in
set_option maxHeartbeats 4000000 in
theorem cw_horizon {g : GS} (p0 : Int32) {C : Int32 → GS → Prop} (hc : Ct mX11_horizon (rm 10 1 6) [.ref 0, .int p0] (Wd g) (PLv [x_iae] C)) : CtX hL_horizon mL_horizon (rm 11 1 6) [.ref 0, .int p0] (Wd g) (WrV C) := by
  refine CtX.of (by decide +kernel) (Nat.le_of_ble_eq_true rfl) ?_
  show Jx _ _ _ _ _ 0 [some (.ref 0), some (.int p0), none] [] _ 0 0
  refine Jx_aload_n (nx := 1) dL_horizon_0 rfl rfl ?_
  refine Jx_iload_n (nx := 2) dL_horizon_1 rfl rfl ?_
  refine Jx_callV (As := [.int p0]) (nx := 5) dL_horizon_2 rfl ml_X11_horizon lk_L_43 iv_X11_horizon rfl rfl rfl ⟨(Nat.le_of_ble_eq_true rfl), (Nat.le_of_ble_eq_true rfl)⟩ (Nat.le_of_ble_eq_true rfl) ⟨(Nat.le_of_ble_eq_true rfl), (Nat.le_of_ble_eq_true rfl)⟩ hc (fun E' es' hq => ?_) (fun v' es' hq => ?_)
  · obtain ⟨k, g1, e1, hC, ⟨-, e2⟩ | ⟨i, hi, e2, e3⟩⟩ := hq
    · cases e2
    · have h01 : i = 0 := by have : i < 1 := hi; omega
      rcases h01 with rfl
      · cases e3
        have hC' : C 1 g1 := by rw [e2] at hC; exact hC
        exact ⟨[], _, _, x_iae, 2, 9, rfl, fun z hz => (by cases hz), rfl, (by decide), cw_13, ca_iae, Or.inl ⟨2, rfl, dL_horizon_8, rfl⟩, (by decide), Jx_iconst (nx := 10) (v := 1) (by decide) dL_horizon_9 rfl (Jxrz dL_horizon_10 rfl (by decide) (Nat.le_of_ble_eq_true rfl) (Nat.le_of_ble_eq_true rfl) (⟨_, g1, rfl, e1, hC'⟩))⟩
  · obtain ⟨k, g1, e1, hC, ⟨e2, e3⟩ | ⟨i, hi, e2, e3⟩⟩ := hq
    · cases e3
      subst e1
      refine Jx_goto (nx := 11) dL_horizon_5 (by decide) ?_
      refine Jx_iconst (nx := 12) (v := 0) (by decide) dL_horizon_11 rfl ?_
      exact Jxrz dL_horizon_12 rfl (by decide) (Nat.le_of_ble_eq_true rfl) (Nat.le_of_ble_eq_true rfl) ⟨0, g1, rfl, rfl, e2 ▸ hC⟩
    · cases e3
abbrev mL_grace : MI := (yL_grace, cL_grace, 3, some .int)
abbrev hL_grace : List (Nat × Nat × Nat × Nat) := [(0, 5, 8, 13)]
set_option maxRecDepth 100000 in
set_option maxHeartbeats 4000000 in
theorem cw_grace {g : GS} (p0 : Int32) {C : Int32 → GS → Prop} (hc : Ct mX11_grace (rm 10 1 6) [.ref 0, .int p0] (Wd g) (PLv [x_iae] C)) : CtX hL_grace mL_grace (rm 11 1 6) [.ref 0, .int p0] (Wd g) (WrV C) := by
  refine CtX.of (by decide +kernel) (Nat.le_of_ble_eq_true rfl) ?_
  show Jx _ _ _ _ _ 0 [some (.ref 0), some (.int p0), none] [] _ 0 0
  refine Jx_aload_n (nx := 1) dL_grace_0 rfl rfl ?_
  refine Jx_iload_n (nx := 2) dL_grace_1 rfl rfl ?_
  refine Jx_callV (As := [.int p0]) (nx := 5) dL_grace_2 rfl ml_X11_grace lk_L_46 iv_X11_grace rfl rfl rfl ⟨(Nat.le_of_ble_eq_true rfl), (Nat.le_of_ble_eq_true rfl)⟩ (Nat.le_of_ble_eq_true rfl) ⟨(Nat.le_of_ble_eq_true rfl), (Nat.le_of_ble_eq_true rfl)⟩ hc (fun E' es' hq => ?_) (fun v' es' hq => ?_)
  · obtain ⟨k, g1, e1, hC, ⟨-, e2⟩ | ⟨i, hi, e2, e3⟩⟩ := hq
    · cases e2
    · have h01 : i = 0 := by have : i < 1 := hi; omega
      rcases h01 with rfl
      · cases e3
        have hC' : C 1 g1 := by rw [e2] at hC; exact hC
        exact ⟨[], _, _, x_iae, 2, 9, rfl, fun z hz => (by cases hz), rfl, (by decide), cw_13, ca_iae, Or.inl ⟨2, rfl, dL_grace_8, rfl⟩, (by decide), Jx_iconst (nx := 10) (v := 1) (by decide) dL_grace_9 rfl (Jxrz dL_grace_10 rfl (by decide) (Nat.le_of_ble_eq_true rfl) (Nat.le_of_ble_eq_true rfl) (⟨_, g1, rfl, e1, hC'⟩))⟩
  · obtain ⟨k, g1, e1, hC, ⟨e2, e3⟩ | ⟨i, hi, e2, e3⟩⟩ := hq
    · cases e3
      subst e1
      refine Jx_goto (nx := 11) dL_grace_5 (by decide) ?_
      refine Jx_iconst (nx := 12) (v := 0) (by decide) dL_grace_11 rfl ?_
      exact Jxrz dL_grace_12 rfl (by decide) (Nat.le_of_ble_eq_true rfl) (Nat.le_of_ble_eq_true rfl) ⟨0, g1, rfl, rfl, e2 ▸ hC⟩
    · cases e3
abbrev mL_sort : MI := (yL_sort, cL_sort, 5, some .int)
abbrev hL_sort : List (Nat × Nat × Nat × Nat) := [(0, 10, 13, 13), (0, 10, 17, 15)]
set_option maxRecDepth 100000 in
set_option maxHeartbeats 4000000 in
theorem cw_sort {g : GS} (p0 : Int32) (p1 : Int32) {C : Int32 → Int32 → GS → Prop} (hc : Ct mX11_sort (rm 10 2 12) [.ref 0, .int p0, .int p1] (Wd g) (PLi [x_iae, x_uoe] C)) : CtX hL_sort mL_sort (rm 11 2 12) [.ref 0, .int p0, .int p1, .ref 82] (Wd g) (WrI C) := by
  refine CtX.of (by decide +kernel) (Nat.le_of_ble_eq_true rfl) ?_
  show Jx _ _ _ _ _ 0 [some (.ref 0), some (.int p0), some (.int p1), some (.ref 82), none] [] _ 0 0
  refine Jx_aload_n (nx := 1) dL_sort_0 rfl rfl ?_
  refine Jx_iconst (nx := 2) (v := 0) (by decide) dL_sort_1 rfl ?_
  refine Jx_aload_n (nx := 3) dL_sort_2 rfl rfl ?_
  refine Jx_iload_n (nx := 4) dL_sort_3 rfl rfl ?_
  refine Jx_iload_n (nx := 5) dL_sort_4 rfl rfl ?_
  refine Jx_callV (As := [.int p0, .int p1]) (nx := 8) dL_sort_5 rfl ml_X11_sort lk_L_49 iv_X11_sort rfl rfl rfl ⟨(Nat.le_of_ble_eq_true rfl), (Nat.le_of_ble_eq_true rfl)⟩ (Nat.le_of_ble_eq_true rfl) ⟨(Nat.le_of_ble_eq_true rfl), (Nat.le_of_ble_eq_true rfl)⟩ hc (fun E' es' hq => ?_) (fun v' es' hq => ?_)
  · obtain ⟨k, v, g1, e1, hC, ⟨-, e2⟩ | ⟨i, hi, e2, e3⟩⟩ := hq
    · cases e2
    · have h01 : i = 0 ∨ i = 1 := by have : i < 2 := hi; omega
      rcases h01 with rfl | rfl
      · cases e3
        have hC' : C 1 v g1 := by rw [e2] at hC; exact hC
        exact ⟨[], _, _, x_iae, 4, 15, rfl, fun z hz => (by cases hz), rfl, (by decide), cw_13, ca_iae, Or.inr ⟨dL_sort_13, rfl⟩, (by decide), Jx_iconst (nx := 16) (v := 1) (by decide) dL_sort_15 rfl (Jxrz dL_sort_16 rfl (by decide) (Nat.le_of_ble_eq_true rfl) (Nat.le_of_ble_eq_true rfl) (WrI.thr e1 (by decide) hC'))⟩
      · cases e3
        have hC' : C 2 v g1 := by rw [e2] at hC; exact hC
        exact ⟨[_], _, _, x_uoe, 4, 19, rfl, fun z hz => (by cases hz with | head => exact Or.inr ⟨by decide, x_iae, cw_13, by decide⟩ | tail _ hz => (cases hz)), rfl, (by decide), cw_15, ca_uoe, Or.inr ⟨dL_sort_17, rfl⟩, (by decide), Jx_iconst (nx := 20) (v := 2) (by decide) dL_sort_19 rfl (Jxrz dL_sort_20 rfl (by decide) (Nat.le_of_ble_eq_true rfl) (Nat.le_of_ble_eq_true rfl) (WrI.thr e1 (by decide) hC'))⟩
  · obtain ⟨k, v, g1, e1, hC, ⟨e2, e3⟩ | ⟨i, hi, e2, e3⟩⟩ := hq
    · cases e3
      subst e1
      refine Jx_i2l (nx := 9) dL_sort_8 rfl ?_
      refine Jxt_82 (nx := 10) dL_sort_9 rfl ?_
      refine Jx_goto (nx := 21) dL_sort_10 (by decide) ?_
      refine Jx_iconst (nx := 22) (v := 0) (by decide) dL_sort_21 rfl ?_
      exact Jxrz dL_sort_22 rfl (by decide) (Nat.le_of_ble_eq_true rfl) (Nat.le_of_ble_eq_true rfl) ⟨0, _, rfl, rfl, v, g1, _, rfl, fun _ => rfl, e2 ▸ hC⟩
    · cases e3
abbrev mL_patience : MI := (yL_patience, cL_patience, 3, some .int)
abbrev hL_patience : List (Nat × Nat × Nat × Nat) := [(0, 5, 8, 13)]
set_option maxRecDepth 100000 in
set_option maxHeartbeats 4000000 in
theorem cw_patience {g : GS} (p0 : Int32) {C : Int32 → GS → Prop} (hc : Ct mX11_patience (rm 10 1 6) [.ref 0, .int p0] (Wd g) (PLv [x_iae] C)) : CtX hL_patience mL_patience (rm 11 1 6) [.ref 0, .int p0] (Wd g) (WrV C) := by
  refine CtX.of (by decide +kernel) (Nat.le_of_ble_eq_true rfl) ?_
  show Jx _ _ _ _ _ 0 [some (.ref 0), some (.int p0), none] [] _ 0 0
  refine Jx_aload_n (nx := 1) dL_patience_0 rfl rfl ?_
  refine Jx_iload_n (nx := 2) dL_patience_1 rfl rfl ?_
  refine Jx_callV (As := [.int p0]) (nx := 5) dL_patience_2 rfl ml_X11_patience lk_L_52 iv_X11_patience rfl rfl rfl ⟨(Nat.le_of_ble_eq_true rfl), (Nat.le_of_ble_eq_true rfl)⟩ (Nat.le_of_ble_eq_true rfl) ⟨(Nat.le_of_ble_eq_true rfl), (Nat.le_of_ble_eq_true rfl)⟩ hc (fun E' es' hq => ?_) (fun v' es' hq => ?_)
  · obtain ⟨k, g1, e1, hC, ⟨-, e2⟩ | ⟨i, hi, e2, e3⟩⟩ := hq
    · cases e2
    · have h01 : i = 0 := by have : i < 1 := hi; omega
      rcases h01 with rfl
      · cases e3
        have hC' : C 1 g1 := by rw [e2] at hC; exact hC
        exact ⟨[], _, _, x_iae, 2, 9, rfl, fun z hz => (by cases hz), rfl, (by decide), cw_13, ca_iae, Or.inl ⟨2, rfl, dL_patience_8, rfl⟩, (by decide), Jx_iconst (nx := 10) (v := 1) (by decide) dL_patience_9 rfl (Jxrz dL_patience_10 rfl (by decide) (Nat.le_of_ble_eq_true rfl) (Nat.le_of_ble_eq_true rfl) (⟨_, g1, rfl, e1, hC'⟩))⟩
  · obtain ⟨k, g1, e1, hC, ⟨e2, e3⟩ | ⟨i, hi, e2, e3⟩⟩ := hq
    · cases e3
      subst e1
      refine Jx_goto (nx := 11) dL_patience_5 (by decide) ?_
      refine Jx_iconst (nx := 12) (v := 0) (by decide) dL_patience_11 rfl ?_
      exact Jxrz dL_patience_12 rfl (by decide) (Nat.le_of_ble_eq_true rfl) (Nat.le_of_ble_eq_true rfl) ⟨0, g1, rfl, rfl, e2 ▸ hC⟩
    · cases e3
abbrev mL_stop : MI := (yL_stop, cL_stop, 6, some .int)
abbrev hL_stop : List (Nat × Nat × Nat × Nat) := [(0, 12, 15, 27)]
set_option maxRecDepth 100000 in
set_option maxHeartbeats 4000000 in
theorem cw_stop {g : GS} (p0 : Int32) (p1 : Int32) (p2 : Bool) {C : Int32 → Int32 → GS → Prop} (hc : Ct mX11_stop (rm 10 1 6) [.ref 0, .int p0, .int p1, .int (bI p2)] (Wd g) (PLi [x_iob] C)) : CtX hL_stop mL_stop (rm 11 1 6) [.ref 0, .int p0, .int p1, .int (bI p2), .ref 82] (Wd g) (WrI C) := by
  refine CtX.of (by decide +kernel) (Nat.le_of_ble_eq_true rfl) ?_
  show Jx _ _ _ _ _ 0 [some (.ref 0), some (.int p0), some (.int p1), some (.int (bI p2)), some (.ref 82), none] [] _ 0 0
  refine Jx_aload (nx := 2) dL_stop_0 rfl rfl ?_
  refine Jx_iconst (nx := 3) (v := 0) (by decide) dL_stop_2 rfl ?_
  refine Jx_aload_n (nx := 4) dL_stop_3 rfl rfl ?_
  refine Jx_iload_n (nx := 5) dL_stop_4 rfl rfl ?_
  refine Jx_iload_n (nx := 6) dL_stop_5 rfl rfl ?_
  refine Jx_iload_n (nx := 7) dL_stop_6 rfl rfl ?_
  refine Jx_callV (As := [.int p0, .int p1, .int (bI p2)]) (nx := 10) dL_stop_7 rfl ml_X11_stop lk_L_59 iv_X11_stop rfl rfl rfl ⟨(Nat.le_of_ble_eq_true rfl), (Nat.le_of_ble_eq_true rfl)⟩ (Nat.le_of_ble_eq_true rfl) ⟨(Nat.le_of_ble_eq_true rfl), (Nat.le_of_ble_eq_true rfl)⟩ hc (fun E' es' hq => ?_) (fun v' es' hq => ?_)
  · obtain ⟨k, v, g1, e1, hC, ⟨-, e2⟩ | ⟨i, hi, e2, e3⟩⟩ := hq
    · cases e2
    · have h01 : i = 0 := by have : i < 1 := hi; omega
      rcases h01 with rfl
      · cases e3
        have hC' : C 1 v g1 := by rw [e2] at hC; exact hC
        exact ⟨[], _, _, x_iob, 5, 17, rfl, fun z hz => (by cases hz), rfl, (by decide), cw_27, ca_iob, Or.inr ⟨dL_stop_15, rfl⟩, (by decide), Jx_iconst (nx := 18) (v := 1) (by decide) dL_stop_17 rfl (Jxrz dL_stop_18 rfl (by decide) (Nat.le_of_ble_eq_true rfl) (Nat.le_of_ble_eq_true rfl) (WrI.thr e1 (by decide) hC'))⟩
  · obtain ⟨k, v, g1, e1, hC, ⟨e2, e3⟩ | ⟨i, hi, e2, e3⟩⟩ := hq
    · cases e3
      subst e1
      refine Jx_i2l (nx := 11) dL_stop_10 rfl ?_
      refine Jxt_82 (nx := 12) dL_stop_11 rfl ?_
      refine Jx_goto (nx := 19) dL_stop_12 (by decide) ?_
      refine Jx_iconst (nx := 20) (v := 0) (by decide) dL_stop_19 rfl ?_
      exact Jxrz dL_stop_20 rfl (by decide) (Nat.le_of_ble_eq_true rfl) (Nat.le_of_ble_eq_true rfl) ⟨0, _, rfl, rfl, v, g1, _, rfl, fun _ => rfl, e2 ▸ hC⟩
    · cases e3
abbrev mL_judge : MI := (yL_judge, cL_judge, 9, some .int)
abbrev hL_judge : List (Nat × Nat × Nat × Nat) := [(0, 17, 20, 27), (0, 17, 24, 13)]
set_option maxRecDepth 100000 in
set_option maxHeartbeats 4000000 in
theorem cw_judge {g : GS} (p0 : Int32) (p1 : Int32) (p2 : Int32) (p3 : Int32) (p4 : Int32) (p5 : Int32) {C : Int32 → Int64 → GS → Prop} (hc : Ct mX11_judge (rm 10 4 24) [.ref 0, .int p0, .int p1, .int p2, .int p3, .int p4, .int p5] (Wd g) (PLl [x_iob, x_iae] C)) : CtX hL_judge mL_judge (rm 11 4 24) [.ref 0, .int p0, .int p1, .int p2, .int p3, .int p4, .int p5, .ref 82] (Wd g) (WrL C) := by
  refine CtX.of (by decide +kernel) (Nat.le_of_ble_eq_true rfl) ?_
  show Jx _ _ _ _ _ 0 [some (.ref 0), some (.int p0), some (.int p1), some (.int p2), some (.int p3), some (.int p4), some (.int p5), some (.ref 82), none] [] _ 0 0
  refine Jx_aload (nx := 2) dL_judge_0 rfl rfl ?_
  refine Jx_iconst (nx := 3) (v := 0) (by decide) dL_judge_2 rfl ?_
  refine Jx_aload_n (nx := 4) dL_judge_3 rfl rfl ?_
  refine Jx_iload_n (nx := 5) dL_judge_4 rfl rfl ?_
  refine Jx_iload_n (nx := 6) dL_judge_5 rfl rfl ?_
  refine Jx_iload_n (nx := 7) dL_judge_6 rfl rfl ?_
  refine Jx_iload (nx := 9) dL_judge_7 rfl rfl ?_
  refine Jx_iload (nx := 11) dL_judge_9 rfl rfl ?_
  refine Jx_iload (nx := 13) dL_judge_11 rfl rfl ?_
  refine Jx_callV (As := [.int p0, .int p1, .int p2, .int p3, .int p4, .int p5]) (nx := 16) dL_judge_13 rfl ml_X11_judge lk_L_63 iv_X11_judge rfl rfl rfl ⟨(Nat.le_of_ble_eq_true rfl), (Nat.le_of_ble_eq_true rfl)⟩ (Nat.le_of_ble_eq_true rfl) ⟨(Nat.le_of_ble_eq_true rfl), (Nat.le_of_ble_eq_true rfl)⟩ hc (fun E' es' hq => ?_) (fun v' es' hq => ?_)
  · obtain ⟨k, v, g1, e1, hC, ⟨-, e2⟩ | ⟨i, hi, e2, e3⟩⟩ := hq
    · cases e2
    · have h01 : i = 0 ∨ i = 1 := by have : i < 2 := hi; omega
      rcases h01 with rfl | rfl
      · cases e3
        have hC' : C 1 v g1 := by rw [e2] at hC; exact hC
        exact ⟨[], _, _, x_iob, 8, 22, rfl, fun z hz => (by cases hz), rfl, (by decide), cw_27, ca_iob, Or.inr ⟨dL_judge_20, rfl⟩, (by decide), Jx_iconst (nx := 23) (v := 1) (by decide) dL_judge_22 rfl (Jxrz dL_judge_23 rfl (by decide) (Nat.le_of_ble_eq_true rfl) (Nat.le_of_ble_eq_true rfl) (WrL.thr e1 (by decide) hC'))⟩
      · cases e3
        have hC' : C 2 v g1 := by rw [e2] at hC; exact hC
        exact ⟨[_], _, _, x_iae, 8, 26, rfl, fun z hz => (by cases hz with | head => exact Or.inr ⟨by decide, x_iob, cw_27, by decide⟩ | tail _ hz => (cases hz)), rfl, (by decide), cw_13, ca_iae, Or.inr ⟨dL_judge_24, rfl⟩, (by decide), Jx_iconst (nx := 27) (v := 2) (by decide) dL_judge_26 rfl (Jxrz dL_judge_27 rfl (by decide) (Nat.le_of_ble_eq_true rfl) (Nat.le_of_ble_eq_true rfl) (WrL.thr e1 (by decide) hC'))⟩
  · obtain ⟨k, v, g1, e1, hC, ⟨e2, e3⟩ | ⟨i, hi, e2, e3⟩⟩ := hq
    · cases e3
      subst e1
      refine Jxt_82 (nx := 17) dL_judge_16 rfl ?_
      refine Jx_goto (nx := 28) dL_judge_17 (by decide) ?_
      refine Jx_iconst (nx := 29) (v := 0) (by decide) dL_judge_28 rfl ?_
      exact Jxrz dL_judge_29 rfl (by decide) (Nat.le_of_ble_eq_true rfl) (Nat.le_of_ble_eq_true rfl) ⟨0, _, rfl, rfl, v, g1, _, rfl, fun _ => rfl, e2 ▸ hC⟩
    · cases e3
abbrev mL_does : MI := (yL_does, cL_does, 9, some .int)
abbrev hL_does : List (Nat × Nat × Nat × Nat) := [(0, 18, 21, 27), (0, 18, 25, 13)]
set_option maxRecDepth 100000 in
set_option maxHeartbeats 4000000 in
theorem cw_does {g : GS} (p0 : Int32) (p1 : Int32) (p2 : Int32) (p3 : Int32) (p4 : Int32) (p5 : Int32) {C : Int32 → Int32 → GS → Prop} (hc : Ct mX11_does (rm 10 4 24) [.ref 0, .int p0, .int p1, .int p2, .int p3, .int p4, .int p5] (Wd g) (PLi [x_iob, x_iae] C)) : CtX hL_does mL_does (rm 11 4 24) [.ref 0, .int p0, .int p1, .int p2, .int p3, .int p4, .int p5, .ref 82] (Wd g) (WrI C) := by
  refine CtX.of (by decide +kernel) (Nat.le_of_ble_eq_true rfl) ?_
  show Jx _ _ _ _ _ 0 [some (.ref 0), some (.int p0), some (.int p1), some (.int p2), some (.int p3), some (.int p4), some (.int p5), some (.ref 82), none] [] _ 0 0
  refine Jx_aload (nx := 2) dL_does_0 rfl rfl ?_
  refine Jx_iconst (nx := 3) (v := 0) (by decide) dL_does_2 rfl ?_
  refine Jx_aload_n (nx := 4) dL_does_3 rfl rfl ?_
  refine Jx_iload_n (nx := 5) dL_does_4 rfl rfl ?_
  refine Jx_iload_n (nx := 6) dL_does_5 rfl rfl ?_
  refine Jx_iload_n (nx := 7) dL_does_6 rfl rfl ?_
  refine Jx_iload (nx := 9) dL_does_7 rfl rfl ?_
  refine Jx_iload (nx := 11) dL_does_9 rfl rfl ?_
  refine Jx_iload (nx := 13) dL_does_11 rfl rfl ?_
  refine Jx_callV (As := [.int p0, .int p1, .int p2, .int p3, .int p4, .int p5]) (nx := 16) dL_does_13 rfl ml_X11_does lk_L_67 iv_X11_does rfl rfl rfl ⟨(Nat.le_of_ble_eq_true rfl), (Nat.le_of_ble_eq_true rfl)⟩ (Nat.le_of_ble_eq_true rfl) ⟨(Nat.le_of_ble_eq_true rfl), (Nat.le_of_ble_eq_true rfl)⟩ hc (fun E' es' hq => ?_) (fun v' es' hq => ?_)
  · obtain ⟨k, v, g1, e1, hC, ⟨-, e2⟩ | ⟨i, hi, e2, e3⟩⟩ := hq
    · cases e2
    · have h01 : i = 0 ∨ i = 1 := by have : i < 2 := hi; omega
      rcases h01 with rfl | rfl
      · cases e3
        have hC' : C 1 v g1 := by rw [e2] at hC; exact hC
        exact ⟨[], _, _, x_iob, 8, 23, rfl, fun z hz => (by cases hz), rfl, (by decide), cw_27, ca_iob, Or.inr ⟨dL_does_21, rfl⟩, (by decide), Jx_iconst (nx := 24) (v := 1) (by decide) dL_does_23 rfl (Jxrz dL_does_24 rfl (by decide) (Nat.le_of_ble_eq_true rfl) (Nat.le_of_ble_eq_true rfl) (WrI.thr e1 (by decide) hC'))⟩
      · cases e3
        have hC' : C 2 v g1 := by rw [e2] at hC; exact hC
        exact ⟨[_], _, _, x_iae, 8, 27, rfl, fun z hz => (by cases hz with | head => exact Or.inr ⟨by decide, x_iob, cw_27, by decide⟩ | tail _ hz => (cases hz)), rfl, (by decide), cw_13, ca_iae, Or.inr ⟨dL_does_25, rfl⟩, (by decide), Jx_iconst (nx := 28) (v := 2) (by decide) dL_does_27 rfl (Jxrz dL_does_28 rfl (by decide) (Nat.le_of_ble_eq_true rfl) (Nat.le_of_ble_eq_true rfl) (WrI.thr e1 (by decide) hC'))⟩
  · obtain ⟨k, v, g1, e1, hC, ⟨e2, e3⟩ | ⟨i, hi, e2, e3⟩⟩ := hq
    · cases e3
      subst e1
      refine Jx_i2l (nx := 17) dL_does_16 rfl ?_
      refine Jxt_82 (nx := 18) dL_does_17 rfl ?_
      refine Jx_goto (nx := 29) dL_does_18 (by decide) ?_
      refine Jx_iconst (nx := 30) (v := 0) (by decide) dL_does_29 rfl ?_
      exact Jxrz dL_does_30 rfl (by decide) (Nat.le_of_ble_eq_true rfl) (Nat.le_of_ble_eq_true rfl) ⟨0, _, rfl, rfl, v, g1, _, rfl, fun _ => rfl, e2 ▸ hC⟩
    · cases e3
abbrev mL_waits : MI := (yL_waits, cL_waits, 6, some .int)
abbrev hL_waits : List (Nat × Nat × Nat × Nat) := [(0, 11, 14, 27)]
set_option maxRecDepth 100000 in
set_option maxHeartbeats 4000000 in
theorem cw_waits {g : GS} (p0 : Int32) (p1 : Int32) (p2 : Int32) {C : Int32 → Int64 → GS → Prop} (hc : Ct mX11_waits (rm 10 2 12) [.ref 0, .int p0, .int p1, .int p2] (Wd g) (PLl [x_iob] C)) : CtX hL_waits mL_waits (rm 11 2 12) [.ref 0, .int p0, .int p1, .int p2, .ref 82] (Wd g) (WrL C) := by
  refine CtX.of (by decide +kernel) (Nat.le_of_ble_eq_true rfl) ?_
  show Jx _ _ _ _ _ 0 [some (.ref 0), some (.int p0), some (.int p1), some (.int p2), some (.ref 82), none] [] _ 0 0
  refine Jx_aload (nx := 2) dL_waits_0 rfl rfl ?_
  refine Jx_iconst (nx := 3) (v := 0) (by decide) dL_waits_2 rfl ?_
  refine Jx_aload_n (nx := 4) dL_waits_3 rfl rfl ?_
  refine Jx_iload_n (nx := 5) dL_waits_4 rfl rfl ?_
  refine Jx_iload_n (nx := 6) dL_waits_5 rfl rfl ?_
  refine Jx_iload_n (nx := 7) dL_waits_6 rfl rfl ?_
  refine Jx_callV (As := [.int p0, .int p1, .int p2]) (nx := 10) dL_waits_7 rfl ml_X11_waits lk_L_71 iv_X11_waits rfl rfl rfl ⟨(Nat.le_of_ble_eq_true rfl), (Nat.le_of_ble_eq_true rfl)⟩ (Nat.le_of_ble_eq_true rfl) ⟨(Nat.le_of_ble_eq_true rfl), (Nat.le_of_ble_eq_true rfl)⟩ hc (fun E' es' hq => ?_) (fun v' es' hq => ?_)
  · obtain ⟨k, v, g1, e1, hC, ⟨-, e2⟩ | ⟨i, hi, e2, e3⟩⟩ := hq
    · cases e2
    · have h01 : i = 0 := by have : i < 1 := hi; omega
      rcases h01 with rfl
      · cases e3
        have hC' : C 1 v g1 := by rw [e2] at hC; exact hC
        exact ⟨[], _, _, x_iob, 5, 16, rfl, fun z hz => (by cases hz), rfl, (by decide), cw_27, ca_iob, Or.inr ⟨dL_waits_14, rfl⟩, (by decide), Jx_iconst (nx := 17) (v := 1) (by decide) dL_waits_16 rfl (Jxrz dL_waits_17 rfl (by decide) (Nat.le_of_ble_eq_true rfl) (Nat.le_of_ble_eq_true rfl) (WrL.thr e1 (by decide) hC'))⟩
  · obtain ⟨k, v, g1, e1, hC, ⟨e2, e3⟩ | ⟨i, hi, e2, e3⟩⟩ := hq
    · cases e3
      subst e1
      refine Jxt_82 (nx := 11) dL_waits_10 rfl ?_
      refine Jx_goto (nx := 18) dL_waits_11 (by decide) ?_
      refine Jx_iconst (nx := 19) (v := 0) (by decide) dL_waits_18 rfl ?_
      exact Jxrz dL_waits_19 rfl (by decide) (Nat.le_of_ble_eq_true rfl) (Nat.le_of_ble_eq_true rfl) ⟨0, _, rfl, rfl, v, g1, _, rfl, fun _ => rfl, e2 ▸ hC⟩
    · cases e3
abbrev mL_enough : MI := (yL_enough, cL_enough, 6, some .int)
abbrev hL_enough : List (Nat × Nat × Nat × Nat) := [(0, 12, 15, 27)]
set_option maxRecDepth 100000 in
set_option maxHeartbeats 4000000 in
theorem cw_enough {g : GS} (p0 : Int32) (p1 : Int32) (p2 : Int32) {C : Int32 → Int32 → GS → Prop} (hc : Ct mX11_enough (rm 8 2 12) [.ref 0, .int p0, .int p1, .int p2] (Wd g) (PLi [x_iob] C)) : CtX hL_enough mL_enough (rm 9 2 12) [.ref 0, .int p0, .int p1, .int p2, .ref 82] (Wd g) (WrI C) := by
  refine CtX.of (by decide +kernel) (Nat.le_of_ble_eq_true rfl) ?_
  show Jx _ _ _ _ _ 0 [some (.ref 0), some (.int p0), some (.int p1), some (.int p2), some (.ref 82), none] [] _ 0 0
  refine Jx_aload (nx := 2) dL_enough_0 rfl rfl ?_
  refine Jx_iconst (nx := 3) (v := 0) (by decide) dL_enough_2 rfl ?_
  refine Jx_aload_n (nx := 4) dL_enough_3 rfl rfl ?_
  refine Jx_iload_n (nx := 5) dL_enough_4 rfl rfl ?_
  refine Jx_iload_n (nx := 6) dL_enough_5 rfl rfl ?_
  refine Jx_iload_n (nx := 7) dL_enough_6 rfl rfl ?_
  refine Jx_callV (As := [.int p0, .int p1, .int p2]) (nx := 10) dL_enough_7 rfl ml_X11_enough lk_L_75 iv_X11_enough rfl rfl rfl ⟨(Nat.le_of_ble_eq_true rfl), (Nat.le_of_ble_eq_true rfl)⟩ (Nat.le_of_ble_eq_true rfl) ⟨(Nat.le_of_ble_eq_true rfl), (Nat.le_of_ble_eq_true rfl)⟩ hc (fun E' es' hq => ?_) (fun v' es' hq => ?_)
  · obtain ⟨k, v, g1, e1, hC, ⟨-, e2⟩ | ⟨i, hi, e2, e3⟩⟩ := hq
    · cases e2
    · have h01 : i = 0 := by have : i < 1 := hi; omega
      rcases h01 with rfl
      · cases e3
        have hC' : C 1 v g1 := by rw [e2] at hC; exact hC
        exact ⟨[], _, _, x_iob, 5, 17, rfl, fun z hz => (by cases hz), rfl, (by decide), cw_27, ca_iob, Or.inr ⟨dL_enough_15, rfl⟩, (by decide), Jx_iconst (nx := 18) (v := 1) (by decide) dL_enough_17 rfl (Jxrz dL_enough_18 rfl (by decide) (Nat.le_of_ble_eq_true rfl) (Nat.le_of_ble_eq_true rfl) (WrI.thr e1 (by decide) hC'))⟩
  · obtain ⟨k, v, g1, e1, hC, ⟨e2, e3⟩ | ⟨i, hi, e2, e3⟩⟩ := hq
    · cases e3
      subst e1
      refine Jx_i2l (nx := 11) dL_enough_10 rfl ?_
      refine Jxt_82 (nx := 12) dL_enough_11 rfl ?_
      refine Jx_goto (nx := 19) dL_enough_12 (by decide) ?_
      refine Jx_iconst (nx := 20) (v := 0) (by decide) dL_enough_19 rfl ?_
      exact Jxrz dL_enough_20 rfl (by decide) (Nat.le_of_ble_eq_true rfl) (Nat.le_of_ble_eq_true rfl) ⟨0, _, rfl, rfl, v, g1, _, rfl, fun _ => rfl, e2 ▸ hC⟩
    · cases e3
abbrev mL_loses : MI := (yL_loses, cL_loses, 8, some .int)
abbrev hL_loses : List (Nat × Nat × Nat × Nat) := [(0, 15, 18, 27), (0, 15, 22, 13)]
set_option maxRecDepth 100000 in
set_option maxHeartbeats 4000000 in
theorem cw_loses {g : GS} (p0 : Int32) (p1 : Int32) (p2 : Int32) (p3 : Int32) (p4 : Int32) {C : Int32 → Int64 → GS → Prop} (hc : Ct mX11_loses (rm 10 4 24) [.ref 0, .int p0, .int p1, .int p2, .int p3, .int p4] (Wd g) (PLl [x_iob, x_iae] C)) : CtX hL_loses mL_loses (rm 11 4 24) [.ref 0, .int p0, .int p1, .int p2, .int p3, .int p4, .ref 82] (Wd g) (WrL C) := by
  refine CtX.of (by decide +kernel) (Nat.le_of_ble_eq_true rfl) ?_
  show Jx _ _ _ _ _ 0 [some (.ref 0), some (.int p0), some (.int p1), some (.int p2), some (.int p3), some (.int p4), some (.ref 82), none] [] _ 0 0
  refine Jx_aload (nx := 2) dL_loses_0 rfl rfl ?_
  refine Jx_iconst (nx := 3) (v := 0) (by decide) dL_loses_2 rfl ?_
  refine Jx_aload_n (nx := 4) dL_loses_3 rfl rfl ?_
  refine Jx_iload_n (nx := 5) dL_loses_4 rfl rfl ?_
  refine Jx_iload_n (nx := 6) dL_loses_5 rfl rfl ?_
  refine Jx_iload_n (nx := 7) dL_loses_6 rfl rfl ?_
  refine Jx_iload (nx := 9) dL_loses_7 rfl rfl ?_
  refine Jx_iload (nx := 11) dL_loses_9 rfl rfl ?_
  refine Jx_callV (As := [.int p0, .int p1, .int p2, .int p3, .int p4]) (nx := 14) dL_loses_11 rfl ml_X11_loses lk_L_79 iv_X11_loses rfl rfl rfl ⟨(Nat.le_of_ble_eq_true rfl), (Nat.le_of_ble_eq_true rfl)⟩ (Nat.le_of_ble_eq_true rfl) ⟨(Nat.le_of_ble_eq_true rfl), (Nat.le_of_ble_eq_true rfl)⟩ hc (fun E' es' hq => ?_) (fun v' es' hq => ?_)
  · obtain ⟨k, v, g1, e1, hC, ⟨-, e2⟩ | ⟨i, hi, e2, e3⟩⟩ := hq
    · cases e2
    · have h01 : i = 0 ∨ i = 1 := by have : i < 2 := hi; omega
      rcases h01 with rfl | rfl
      · cases e3
        have hC' : C 1 v g1 := by rw [e2] at hC; exact hC
        exact ⟨[], _, _, x_iob, 7, 20, rfl, fun z hz => (by cases hz), rfl, (by decide), cw_27, ca_iob, Or.inr ⟨dL_loses_18, rfl⟩, (by decide), Jx_iconst (nx := 21) (v := 1) (by decide) dL_loses_20 rfl (Jxrz dL_loses_21 rfl (by decide) (Nat.le_of_ble_eq_true rfl) (Nat.le_of_ble_eq_true rfl) (WrL.thr e1 (by decide) hC'))⟩
      · cases e3
        have hC' : C 2 v g1 := by rw [e2] at hC; exact hC
        exact ⟨[_], _, _, x_iae, 7, 24, rfl, fun z hz => (by cases hz with | head => exact Or.inr ⟨by decide, x_iob, cw_27, by decide⟩ | tail _ hz => (cases hz)), rfl, (by decide), cw_13, ca_iae, Or.inr ⟨dL_loses_22, rfl⟩, (by decide), Jx_iconst (nx := 25) (v := 2) (by decide) dL_loses_24 rfl (Jxrz dL_loses_25 rfl (by decide) (Nat.le_of_ble_eq_true rfl) (Nat.le_of_ble_eq_true rfl) (WrL.thr e1 (by decide) hC'))⟩
  · obtain ⟨k, v, g1, e1, hC, ⟨e2, e3⟩ | ⟨i, hi, e2, e3⟩⟩ := hq
    · cases e3
      subst e1
      refine Jxt_82 (nx := 15) dL_loses_14 rfl ?_
      refine Jx_goto (nx := 26) dL_loses_15 (by decide) ?_
      refine Jx_iconst (nx := 27) (v := 0) (by decide) dL_loses_26 rfl ?_
      exact Jxrz dL_loses_27 rfl (by decide) (Nat.le_of_ble_eq_true rfl) (Nat.le_of_ble_eq_true rfl) ⟨0, _, rfl, rfl, v, g1, _, rfl, fun _ => rfl, e2 ▸ hC⟩
    · cases e3
abbrev mL_part : MI := (yL_part, cL_part, 9, some .int)
abbrev hL_part : List (Nat × Nat × Nat × Nat) := [(0, 18, 21, 27), (0, 18, 25, 13)]
set_option maxRecDepth 100000 in
set_option maxHeartbeats 4000000 in
theorem cw_part {g : GS} (p0 : Int32) (p1 : Int32) (p2 : Int32) (p3 : Int32) (p4 : Int32) (p5 : Bool) {C : Int32 → Int32 → GS → Prop} (hc : Ct mX11_part (rm 10 4 24) [.ref 0, .int p0, .int p1, .int p2, .int p3, .int p4, .int (bI p5)] (Wd g) (PLi [x_iob, x_iae] C)) : CtX hL_part mL_part (rm 11 4 24) [.ref 0, .int p0, .int p1, .int p2, .int p3, .int p4, .int (bI p5), .ref 82] (Wd g) (WrI C) := by
  refine CtX.of (by decide +kernel) (Nat.le_of_ble_eq_true rfl) ?_
  show Jx _ _ _ _ _ 0 [some (.ref 0), some (.int p0), some (.int p1), some (.int p2), some (.int p3), some (.int p4), some (.int (bI p5)), some (.ref 82), none] [] _ 0 0
  refine Jx_aload (nx := 2) dL_part_0 rfl rfl ?_
  refine Jx_iconst (nx := 3) (v := 0) (by decide) dL_part_2 rfl ?_
  refine Jx_aload_n (nx := 4) dL_part_3 rfl rfl ?_
  refine Jx_iload_n (nx := 5) dL_part_4 rfl rfl ?_
  refine Jx_iload_n (nx := 6) dL_part_5 rfl rfl ?_
  refine Jx_iload_n (nx := 7) dL_part_6 rfl rfl ?_
  refine Jx_iload (nx := 9) dL_part_7 rfl rfl ?_
  refine Jx_iload (nx := 11) dL_part_9 rfl rfl ?_
  refine Jx_iload (nx := 13) dL_part_11 rfl rfl ?_
  refine Jx_callV (As := [.int p0, .int p1, .int p2, .int p3, .int p4, .int (bI p5)]) (nx := 16) dL_part_13 rfl ml_X11_part lk_L_83 iv_X11_part rfl rfl rfl ⟨(Nat.le_of_ble_eq_true rfl), (Nat.le_of_ble_eq_true rfl)⟩ (Nat.le_of_ble_eq_true rfl) ⟨(Nat.le_of_ble_eq_true rfl), (Nat.le_of_ble_eq_true rfl)⟩ hc (fun E' es' hq => ?_) (fun v' es' hq => ?_)
  · obtain ⟨k, v, g1, e1, hC, ⟨-, e2⟩ | ⟨i, hi, e2, e3⟩⟩ := hq
    · cases e2
    · have h01 : i = 0 ∨ i = 1 := by have : i < 2 := hi; omega
      rcases h01 with rfl | rfl
      · cases e3
        have hC' : C 1 v g1 := by rw [e2] at hC; exact hC
        exact ⟨[], _, _, x_iob, 8, 23, rfl, fun z hz => (by cases hz), rfl, (by decide), cw_27, ca_iob, Or.inr ⟨dL_part_21, rfl⟩, (by decide), Jx_iconst (nx := 24) (v := 1) (by decide) dL_part_23 rfl (Jxrz dL_part_24 rfl (by decide) (Nat.le_of_ble_eq_true rfl) (Nat.le_of_ble_eq_true rfl) (WrI.thr e1 (by decide) hC'))⟩
      · cases e3
        have hC' : C 2 v g1 := by rw [e2] at hC; exact hC
        exact ⟨[_], _, _, x_iae, 8, 27, rfl, fun z hz => (by cases hz with | head => exact Or.inr ⟨by decide, x_iob, cw_27, by decide⟩ | tail _ hz => (cases hz)), rfl, (by decide), cw_13, ca_iae, Or.inr ⟨dL_part_25, rfl⟩, (by decide), Jx_iconst (nx := 28) (v := 2) (by decide) dL_part_27 rfl (Jxrz dL_part_28 rfl (by decide) (Nat.le_of_ble_eq_true rfl) (Nat.le_of_ble_eq_true rfl) (WrI.thr e1 (by decide) hC'))⟩
  · obtain ⟨k, v, g1, e1, hC, ⟨e2, e3⟩ | ⟨i, hi, e2, e3⟩⟩ := hq
    · cases e3
      subst e1
      refine Jx_i2l (nx := 17) dL_part_16 rfl ?_
      refine Jxt_82 (nx := 18) dL_part_17 rfl ?_
      refine Jx_goto (nx := 29) dL_part_18 (by decide) ?_
      refine Jx_iconst (nx := 30) (v := 0) (by decide) dL_part_29 rfl ?_
      exact Jxrz dL_part_30 rfl (by decide) (Nat.le_of_ble_eq_true rfl) (Nat.le_of_ble_eq_true rfl) ⟨0, _, rfl, rfl, v, g1, _, rfl, fun _ => rfl, e2 ▸ hC⟩
    · cases e3
abbrev mL_bar : MI := (yL_bar, cL_bar, 5, some .int)
abbrev hL_bar : List (Nat × Nat × Nat × Nat) := [(0, 10, 13, 27)]
set_option maxRecDepth 100000 in
set_option maxHeartbeats 4000000 in
theorem cw_bar {g : GS} (p0 : Int32) (p1 : Int32) {C : Int32 → Int32 → GS → Prop} (hc : Ct mX11_bar (rm 8 1 6) [.ref 0, .int p0, .int p1] (Wd g) (PLi [x_iob] C)) : CtX hL_bar mL_bar (rm 9 1 6) [.ref 0, .int p0, .int p1, .ref 82] (Wd g) (WrI C) := by
  refine CtX.of (by decide +kernel) (Nat.le_of_ble_eq_true rfl) ?_
  show Jx _ _ _ _ _ 0 [some (.ref 0), some (.int p0), some (.int p1), some (.ref 82), none] [] _ 0 0
  refine Jx_aload_n (nx := 1) dL_bar_0 rfl rfl ?_
  refine Jx_iconst (nx := 2) (v := 0) (by decide) dL_bar_1 rfl ?_
  refine Jx_aload_n (nx := 3) dL_bar_2 rfl rfl ?_
  refine Jx_iload_n (nx := 4) dL_bar_3 rfl rfl ?_
  refine Jx_iload_n (nx := 5) dL_bar_4 rfl rfl ?_
  refine Jx_callV (As := [.int p0, .int p1]) (nx := 8) dL_bar_5 rfl ml_X11_bar lk_L_87 iv_X11_bar rfl rfl rfl ⟨(Nat.le_of_ble_eq_true rfl), (Nat.le_of_ble_eq_true rfl)⟩ (Nat.le_of_ble_eq_true rfl) ⟨(Nat.le_of_ble_eq_true rfl), (Nat.le_of_ble_eq_true rfl)⟩ hc (fun E' es' hq => ?_) (fun v' es' hq => ?_)
  · obtain ⟨k, v, g1, e1, hC, ⟨-, e2⟩ | ⟨i, hi, e2, e3⟩⟩ := hq
    · cases e2
    · have h01 : i = 0 := by have : i < 1 := hi; omega
      rcases h01 with rfl
      · cases e3
        have hC' : C 1 v g1 := by rw [e2] at hC; exact hC
        exact ⟨[], _, _, x_iob, 4, 15, rfl, fun z hz => (by cases hz), rfl, (by decide), cw_27, ca_iob, Or.inr ⟨dL_bar_13, rfl⟩, (by decide), Jx_iconst (nx := 16) (v := 1) (by decide) dL_bar_15 rfl (Jxrz dL_bar_16 rfl (by decide) (Nat.le_of_ble_eq_true rfl) (Nat.le_of_ble_eq_true rfl) (WrI.thr e1 (by decide) hC'))⟩
  · obtain ⟨k, v, g1, e1, hC, ⟨e2, e3⟩ | ⟨i, hi, e2, e3⟩⟩ := hq
    · cases e3
      subst e1
      refine Jx_i2l (nx := 9) dL_bar_8 rfl ?_
      refine Jxt_82 (nx := 10) dL_bar_9 rfl ?_
      refine Jx_goto (nx := 17) dL_bar_10 (by decide) ?_
      refine Jx_iconst (nx := 18) (v := 0) (by decide) dL_bar_17 rfl ?_
      exact Jxrz dL_bar_18 rfl (by decide) (Nat.le_of_ble_eq_true rfl) (Nat.le_of_ble_eq_true rfl) ⟨0, _, rfl, rfl, v, g1, _, rfl, fun _ => rfl, e2 ▸ hC⟩
    · cases e3
abbrev mL_pays : MI := (yL_pays, cL_pays, 6, some .int)
abbrev hL_pays : List (Nat × Nat × Nat × Nat) := [(0, 12, 15, 27), (0, 12, 19, 13)]
set_option maxRecDepth 100000 in
set_option maxHeartbeats 4000000 in
theorem cw_pays {g : GS} (p0 : Int32) (p1 : Int32) (p2 : Int32) {C : Int32 → Int32 → GS → Prop} (hc : Ct mX11_pays (rm 10 3 18) [.ref 0, .int p0, .int p1, .int p2] (Wd g) (PLi [x_iob, x_iae] C)) : CtX hL_pays mL_pays (rm 11 3 18) [.ref 0, .int p0, .int p1, .int p2, .ref 82] (Wd g) (WrI C) := by
  refine CtX.of (by decide +kernel) (Nat.le_of_ble_eq_true rfl) ?_
  show Jx _ _ _ _ _ 0 [some (.ref 0), some (.int p0), some (.int p1), some (.int p2), some (.ref 82), none] [] _ 0 0
  refine Jx_aload (nx := 2) dL_pays_0 rfl rfl ?_
  refine Jx_iconst (nx := 3) (v := 0) (by decide) dL_pays_2 rfl ?_
  refine Jx_aload_n (nx := 4) dL_pays_3 rfl rfl ?_
  refine Jx_iload_n (nx := 5) dL_pays_4 rfl rfl ?_
  refine Jx_iload_n (nx := 6) dL_pays_5 rfl rfl ?_
  refine Jx_iload_n (nx := 7) dL_pays_6 rfl rfl ?_
  refine Jx_callV (As := [.int p0, .int p1, .int p2]) (nx := 10) dL_pays_7 rfl ml_X11_pays lk_L_90 iv_X11_pays rfl rfl rfl ⟨(Nat.le_of_ble_eq_true rfl), (Nat.le_of_ble_eq_true rfl)⟩ (Nat.le_of_ble_eq_true rfl) ⟨(Nat.le_of_ble_eq_true rfl), (Nat.le_of_ble_eq_true rfl)⟩ hc (fun E' es' hq => ?_) (fun v' es' hq => ?_)
  · obtain ⟨k, v, g1, e1, hC, ⟨-, e2⟩ | ⟨i, hi, e2, e3⟩⟩ := hq
    · cases e2
    · have h01 : i = 0 ∨ i = 1 := by have : i < 2 := hi; omega
      rcases h01 with rfl | rfl
      · cases e3
        have hC' : C 1 v g1 := by rw [e2] at hC; exact hC
        exact ⟨[], _, _, x_iob, 5, 17, rfl, fun z hz => (by cases hz), rfl, (by decide), cw_27, ca_iob, Or.inr ⟨dL_pays_15, rfl⟩, (by decide), Jx_iconst (nx := 18) (v := 1) (by decide) dL_pays_17 rfl (Jxrz dL_pays_18 rfl (by decide) (Nat.le_of_ble_eq_true rfl) (Nat.le_of_ble_eq_true rfl) (WrI.thr e1 (by decide) hC'))⟩
      · cases e3
        have hC' : C 2 v g1 := by rw [e2] at hC; exact hC
        exact ⟨[_], _, _, x_iae, 5, 21, rfl, fun z hz => (by cases hz with | head => exact Or.inr ⟨by decide, x_iob, cw_27, by decide⟩ | tail _ hz => (cases hz)), rfl, (by decide), cw_13, ca_iae, Or.inr ⟨dL_pays_19, rfl⟩, (by decide), Jx_iconst (nx := 22) (v := 2) (by decide) dL_pays_21 rfl (Jxrz dL_pays_22 rfl (by decide) (Nat.le_of_ble_eq_true rfl) (Nat.le_of_ble_eq_true rfl) (WrI.thr e1 (by decide) hC'))⟩
  · obtain ⟨k, v, g1, e1, hC, ⟨e2, e3⟩ | ⟨i, hi, e2, e3⟩⟩ := hq
    · cases e3
      subst e1
      refine Jx_i2l (nx := 11) dL_pays_10 rfl ?_
      refine Jxt_82 (nx := 12) dL_pays_11 rfl ?_
      refine Jx_goto (nx := 23) dL_pays_12 (by decide) ?_
      refine Jx_iconst (nx := 24) (v := 0) (by decide) dL_pays_23 rfl ?_
      exact Jxrz dL_pays_24 rfl (by decide) (Nat.le_of_ble_eq_true rfl) (Nat.le_of_ble_eq_true rfl) ⟨0, _, rfl, rfl, v, g1, _, rfl, fun _ => rfl, e2 ▸ hC⟩
    · cases e3
abbrev mL_least : MI := (yL_least, cL_least, 7, some .int)
abbrev hL_least : List (Nat × Nat × Nat × Nat) := [(0, 14, 17, 27), (0, 14, 21, 13)]
set_option maxRecDepth 100000 in
set_option maxHeartbeats 4000000 in
theorem cw_least {g : GS} (p0 : Int32) (p1 : Int32) (p2 : Int32) (p3 : Int32) {C : Int32 → Int32 → GS → Prop} (hc : Ct mX11_least (rm 9 3 18) [.ref 0, .int p0, .int p1, .int p2, .int p3] (Wd g) (PLi [x_iob, x_iae] C)) : CtX hL_least mL_least (rm 10 3 18) [.ref 0, .int p0, .int p1, .int p2, .int p3, .ref 82] (Wd g) (WrI C) := by
  refine CtX.of (by decide +kernel) (Nat.le_of_ble_eq_true rfl) ?_
  show Jx _ _ _ _ _ 0 [some (.ref 0), some (.int p0), some (.int p1), some (.int p2), some (.int p3), some (.ref 82), none] [] _ 0 0
  refine Jx_aload (nx := 2) dL_least_0 rfl rfl ?_
  refine Jx_iconst (nx := 3) (v := 0) (by decide) dL_least_2 rfl ?_
  refine Jx_aload_n (nx := 4) dL_least_3 rfl rfl ?_
  refine Jx_iload_n (nx := 5) dL_least_4 rfl rfl ?_
  refine Jx_iload_n (nx := 6) dL_least_5 rfl rfl ?_
  refine Jx_iload_n (nx := 7) dL_least_6 rfl rfl ?_
  refine Jx_iload (nx := 9) dL_least_7 rfl rfl ?_
  refine Jx_callV (As := [.int p0, .int p1, .int p2, .int p3]) (nx := 12) dL_least_9 rfl ml_X11_least lk_L_93 iv_X11_least rfl rfl rfl ⟨(Nat.le_of_ble_eq_true rfl), (Nat.le_of_ble_eq_true rfl)⟩ (Nat.le_of_ble_eq_true rfl) ⟨(Nat.le_of_ble_eq_true rfl), (Nat.le_of_ble_eq_true rfl)⟩ hc (fun E' es' hq => ?_) (fun v' es' hq => ?_)
  · obtain ⟨k, v, g1, e1, hC, ⟨-, e2⟩ | ⟨i, hi, e2, e3⟩⟩ := hq
    · cases e2
    · have h01 : i = 0 ∨ i = 1 := by have : i < 2 := hi; omega
      rcases h01 with rfl | rfl
      · cases e3
        have hC' : C 1 v g1 := by rw [e2] at hC; exact hC
        exact ⟨[], _, _, x_iob, 6, 19, rfl, fun z hz => (by cases hz), rfl, (by decide), cw_27, ca_iob, Or.inr ⟨dL_least_17, rfl⟩, (by decide), Jx_iconst (nx := 20) (v := 1) (by decide) dL_least_19 rfl (Jxrz dL_least_20 rfl (by decide) (Nat.le_of_ble_eq_true rfl) (Nat.le_of_ble_eq_true rfl) (WrI.thr e1 (by decide) hC'))⟩
      · cases e3
        have hC' : C 2 v g1 := by rw [e2] at hC; exact hC
        exact ⟨[_], _, _, x_iae, 6, 23, rfl, fun z hz => (by cases hz with | head => exact Or.inr ⟨by decide, x_iob, cw_27, by decide⟩ | tail _ hz => (cases hz)), rfl, (by decide), cw_13, ca_iae, Or.inr ⟨dL_least_21, rfl⟩, (by decide), Jx_iconst (nx := 24) (v := 2) (by decide) dL_least_23 rfl (Jxrz dL_least_24 rfl (by decide) (Nat.le_of_ble_eq_true rfl) (Nat.le_of_ble_eq_true rfl) (WrI.thr e1 (by decide) hC'))⟩
  · obtain ⟨k, v, g1, e1, hC, ⟨e2, e3⟩ | ⟨i, hi, e2, e3⟩⟩ := hq
    · cases e3
      subst e1
      refine Jx_i2l (nx := 13) dL_least_12 rfl ?_
      refine Jxt_82 (nx := 14) dL_least_13 rfl ?_
      refine Jx_goto (nx := 25) dL_least_14 (by decide) ?_
      refine Jx_iconst (nx := 26) (v := 0) (by decide) dL_least_25 rfl ?_
      exact Jxrz dL_least_26 rfl (by decide) (Nat.le_of_ble_eq_true rfl) (Nat.le_of_ble_eq_true rfl) ⟨0, _, rfl, rfl, v, g1, _, rfl, fun _ => rfl, e2 ▸ hC⟩
    · cases e3
abbrev mL_rate : MI := (yL_rate, cL_rate, 6, some .int)
abbrev hL_rate : List (Nat × Nat × Nat × Nat) := [(0, 12, 15, 27), (0, 12, 19, 13)]
set_option maxRecDepth 100000 in
set_option maxHeartbeats 4000000 in
theorem cw_rate {g : GS} (p0 : Int32) (p1 : Int32) (p2 : Int32) {C : Int32 → Int32 → GS → Prop} (hc : Ct mX11_rate (rm 10 2 12) [.ref 0, .int p0, .int p1, .int p2] (Wd g) (PLi [x_iob, x_iae] C)) : CtX hL_rate mL_rate (rm 11 2 12) [.ref 0, .int p0, .int p1, .int p2, .ref 82] (Wd g) (WrI C) := by
  refine CtX.of (by decide +kernel) (Nat.le_of_ble_eq_true rfl) ?_
  show Jx _ _ _ _ _ 0 [some (.ref 0), some (.int p0), some (.int p1), some (.int p2), some (.ref 82), none] [] _ 0 0
  refine Jx_aload (nx := 2) dL_rate_0 rfl rfl ?_
  refine Jx_iconst (nx := 3) (v := 0) (by decide) dL_rate_2 rfl ?_
  refine Jx_aload_n (nx := 4) dL_rate_3 rfl rfl ?_
  refine Jx_iload_n (nx := 5) dL_rate_4 rfl rfl ?_
  refine Jx_iload_n (nx := 6) dL_rate_5 rfl rfl ?_
  refine Jx_iload_n (nx := 7) dL_rate_6 rfl rfl ?_
  refine Jx_callV (As := [.int p0, .int p1, .int p2]) (nx := 10) dL_rate_7 rfl ml_X11_rate lk_L_97 iv_X11_rate rfl rfl rfl ⟨(Nat.le_of_ble_eq_true rfl), (Nat.le_of_ble_eq_true rfl)⟩ (Nat.le_of_ble_eq_true rfl) ⟨(Nat.le_of_ble_eq_true rfl), (Nat.le_of_ble_eq_true rfl)⟩ hc (fun E' es' hq => ?_) (fun v' es' hq => ?_)
  · obtain ⟨k, v, g1, e1, hC, ⟨-, e2⟩ | ⟨i, hi, e2, e3⟩⟩ := hq
    · cases e2
    · have h01 : i = 0 ∨ i = 1 := by have : i < 2 := hi; omega
      rcases h01 with rfl | rfl
      · cases e3
        have hC' : C 1 v g1 := by rw [e2] at hC; exact hC
        exact ⟨[], _, _, x_iob, 5, 17, rfl, fun z hz => (by cases hz), rfl, (by decide), cw_27, ca_iob, Or.inr ⟨dL_rate_15, rfl⟩, (by decide), Jx_iconst (nx := 18) (v := 1) (by decide) dL_rate_17 rfl (Jxrz dL_rate_18 rfl (by decide) (Nat.le_of_ble_eq_true rfl) (Nat.le_of_ble_eq_true rfl) (WrI.thr e1 (by decide) hC'))⟩
      · cases e3
        have hC' : C 2 v g1 := by rw [e2] at hC; exact hC
        exact ⟨[_], _, _, x_iae, 5, 21, rfl, fun z hz => (by cases hz with | head => exact Or.inr ⟨by decide, x_iob, cw_27, by decide⟩ | tail _ hz => (cases hz)), rfl, (by decide), cw_13, ca_iae, Or.inr ⟨dL_rate_19, rfl⟩, (by decide), Jx_iconst (nx := 22) (v := 2) (by decide) dL_rate_21 rfl (Jxrz dL_rate_22 rfl (by decide) (Nat.le_of_ble_eq_true rfl) (Nat.le_of_ble_eq_true rfl) (WrI.thr e1 (by decide) hC'))⟩
  · obtain ⟨k, v, g1, e1, hC, ⟨e2, e3⟩ | ⟨i, hi, e2, e3⟩⟩ := hq
    · cases e3
      subst e1
      refine Jx_i2l (nx := 11) dL_rate_10 rfl ?_
      refine Jxt_82 (nx := 12) dL_rate_11 rfl ?_
      refine Jx_goto (nx := 23) dL_rate_12 (by decide) ?_
      refine Jx_iconst (nx := 24) (v := 0) (by decide) dL_rate_23 rfl ?_
      exact Jxrz dL_rate_24 rfl (by decide) (Nat.le_of_ble_eq_true rfl) (Nat.le_of_ble_eq_true rfl) ⟨0, _, rfl, rfl, v, g1, _, rfl, fun _ => rfl, e2 ▸ hC⟩
    · cases e3
abbrev mL_often : MI := (yL_often, cL_often, 5, some .int)
abbrev hL_often : List (Nat × Nat × Nat × Nat) := [(0, 10, 13, 27)]
set_option maxRecDepth 100000 in
set_option maxHeartbeats 4000000 in
theorem cw_often {g : GS} (p0 : Int32) (p1 : Int32) {C : Int32 → Int32 → GS → Prop} (hc : Ct mX11_often (rm 10 1 6) [.ref 0, .int p0, .int p1] (Wd g) (PLi [x_iob] C)) : CtX hL_often mL_often (rm 11 1 6) [.ref 0, .int p0, .int p1, .ref 82] (Wd g) (WrI C) := by
  refine CtX.of (by decide +kernel) (Nat.le_of_ble_eq_true rfl) ?_
  show Jx _ _ _ _ _ 0 [some (.ref 0), some (.int p0), some (.int p1), some (.ref 82), none] [] _ 0 0
  refine Jx_aload_n (nx := 1) dL_often_0 rfl rfl ?_
  refine Jx_iconst (nx := 2) (v := 0) (by decide) dL_often_1 rfl ?_
  refine Jx_aload_n (nx := 3) dL_often_2 rfl rfl ?_
  refine Jx_iload_n (nx := 4) dL_often_3 rfl rfl ?_
  refine Jx_iload_n (nx := 5) dL_often_4 rfl rfl ?_
  refine Jx_callV (As := [.int p0, .int p1]) (nx := 8) dL_often_5 rfl ml_X11_often lk_L_100 iv_X11_often rfl rfl rfl ⟨(Nat.le_of_ble_eq_true rfl), (Nat.le_of_ble_eq_true rfl)⟩ (Nat.le_of_ble_eq_true rfl) ⟨(Nat.le_of_ble_eq_true rfl), (Nat.le_of_ble_eq_true rfl)⟩ hc (fun E' es' hq => ?_) (fun v' es' hq => ?_)
  · obtain ⟨k, v, g1, e1, hC, ⟨-, e2⟩ | ⟨i, hi, e2, e3⟩⟩ := hq
    · cases e2
    · have h01 : i = 0 := by have : i < 1 := hi; omega
      rcases h01 with rfl
      · cases e3
        have hC' : C 1 v g1 := by rw [e2] at hC; exact hC
        exact ⟨[], _, _, x_iob, 4, 15, rfl, fun z hz => (by cases hz), rfl, (by decide), cw_27, ca_iob, Or.inr ⟨dL_often_13, rfl⟩, (by decide), Jx_iconst (nx := 16) (v := 1) (by decide) dL_often_15 rfl (Jxrz dL_often_16 rfl (by decide) (Nat.le_of_ble_eq_true rfl) (Nat.le_of_ble_eq_true rfl) (WrI.thr e1 (by decide) hC'))⟩
  · obtain ⟨k, v, g1, e1, hC, ⟨e2, e3⟩ | ⟨i, hi, e2, e3⟩⟩ := hq
    · cases e3
      subst e1
      refine Jx_i2l (nx := 9) dL_often_8 rfl ?_
      refine Jxt_82 (nx := 10) dL_often_9 rfl ?_
      refine Jx_goto (nx := 17) dL_often_10 (by decide) ?_
      refine Jx_iconst (nx := 18) (v := 0) (by decide) dL_often_17 rfl ?_
      exact Jxrz dL_often_18 rfl (by decide) (Nat.le_of_ble_eq_true rfl) (Nat.le_of_ble_eq_true rfl) ⟨0, _, rfl, rfl, v, g1, _, rfl, fun _ => rfl, e2 ▸ hC⟩
    · cases e3
abbrev mL_match : MI := (yL_match, cL_match, 6, some .int)
abbrev hL_match : List (Nat × Nat × Nat × Nat) := [(0, 11, 14, 27), (0, 11, 18, 13)]
set_option maxRecDepth 100000 in
set_option maxHeartbeats 4000000 in
theorem cw_match {g : GS} (p0 : Int32) (p1 : Int32) (p2 : Bool) {C : Int32 → Int64 → GS → Prop} (hc : Ct mX11_match (rm 8 2 12) [.ref 0, .int p0, .int p1, .int (bI p2)] (Wd g) (PLl [x_iob, x_iae] C)) : CtX hL_match mL_match (rm 9 2 12) [.ref 0, .int p0, .int p1, .int (bI p2), .ref 82] (Wd g) (WrL C) := by
  refine CtX.of (by decide +kernel) (Nat.le_of_ble_eq_true rfl) ?_
  show Jx _ _ _ _ _ 0 [some (.ref 0), some (.int p0), some (.int p1), some (.int (bI p2)), some (.ref 82), none] [] _ 0 0
  refine Jx_aload (nx := 2) dL_match_0 rfl rfl ?_
  refine Jx_iconst (nx := 3) (v := 0) (by decide) dL_match_2 rfl ?_
  refine Jx_aload_n (nx := 4) dL_match_3 rfl rfl ?_
  refine Jx_iload_n (nx := 5) dL_match_4 rfl rfl ?_
  refine Jx_iload_n (nx := 6) dL_match_5 rfl rfl ?_
  refine Jx_iload_n (nx := 7) dL_match_6 rfl rfl ?_
  refine Jx_callV (As := [.int p0, .int p1, .int (bI p2)]) (nx := 10) dL_match_7 rfl ml_X11_match lk_L_103 iv_X11_match rfl rfl rfl ⟨(Nat.le_of_ble_eq_true rfl), (Nat.le_of_ble_eq_true rfl)⟩ (Nat.le_of_ble_eq_true rfl) ⟨(Nat.le_of_ble_eq_true rfl), (Nat.le_of_ble_eq_true rfl)⟩ hc (fun E' es' hq => ?_) (fun v' es' hq => ?_)
  · obtain ⟨k, v, g1, e1, hC, ⟨-, e2⟩ | ⟨i, hi, e2, e3⟩⟩ := hq
    · cases e2
    · have h01 : i = 0 ∨ i = 1 := by have : i < 2 := hi; omega
      rcases h01 with rfl | rfl
      · cases e3
        have hC' : C 1 v g1 := by rw [e2] at hC; exact hC
        exact ⟨[], _, _, x_iob, 5, 16, rfl, fun z hz => (by cases hz), rfl, (by decide), cw_27, ca_iob, Or.inr ⟨dL_match_14, rfl⟩, (by decide), Jx_iconst (nx := 17) (v := 1) (by decide) dL_match_16 rfl (Jxrz dL_match_17 rfl (by decide) (Nat.le_of_ble_eq_true rfl) (Nat.le_of_ble_eq_true rfl) (WrL.thr e1 (by decide) hC'))⟩
      · cases e3
        have hC' : C 2 v g1 := by rw [e2] at hC; exact hC
        exact ⟨[_], _, _, x_iae, 5, 20, rfl, fun z hz => (by cases hz with | head => exact Or.inr ⟨by decide, x_iob, cw_27, by decide⟩ | tail _ hz => (cases hz)), rfl, (by decide), cw_13, ca_iae, Or.inr ⟨dL_match_18, rfl⟩, (by decide), Jx_iconst (nx := 21) (v := 2) (by decide) dL_match_20 rfl (Jxrz dL_match_21 rfl (by decide) (Nat.le_of_ble_eq_true rfl) (Nat.le_of_ble_eq_true rfl) (WrL.thr e1 (by decide) hC'))⟩
  · obtain ⟨k, v, g1, e1, hC, ⟨e2, e3⟩ | ⟨i, hi, e2, e3⟩⟩ := hq
    · cases e3
      subst e1
      refine Jxt_82 (nx := 11) dL_match_10 rfl ?_
      refine Jx_goto (nx := 22) dL_match_11 (by decide) ?_
      refine Jx_iconst (nx := 23) (v := 0) (by decide) dL_match_22 rfl ?_
      exact Jxrz dL_match_23 rfl (by decide) (Nat.le_of_ble_eq_true rfl) (Nat.le_of_ble_eq_true rfl) ⟨0, _, rfl, rfl, v, g1, _, rfl, fun _ => rfl, e2 ▸ hC⟩
    · cases e3
abbrev mL_learn : MI := (yL_learn, cL_learn, 5, some .int)
abbrev hL_learn : List (Nat × Nat × Nat × Nat) := [(0, 10, 13, 27), (0, 10, 17, 13)]
set_option maxRecDepth 100000 in
set_option maxHeartbeats 4000000 in
theorem cw_learn {g : GS} (p0 : Int32) (p1 : Int32) {C : Int32 → Int32 → GS → Prop} (hc : Ct mX11_learn (rm 8 2 12) [.ref 0, .int p0, .int p1] (Wd g) (PLi [x_iob, x_iae] C)) : CtX hL_learn mL_learn (rm 9 2 12) [.ref 0, .int p0, .int p1, .ref 82] (Wd g) (WrI C) := by
  refine CtX.of (by decide +kernel) (Nat.le_of_ble_eq_true rfl) ?_
  show Jx _ _ _ _ _ 0 [some (.ref 0), some (.int p0), some (.int p1), some (.ref 82), none] [] _ 0 0
  refine Jx_aload_n (nx := 1) dL_learn_0 rfl rfl ?_
  refine Jx_iconst (nx := 2) (v := 0) (by decide) dL_learn_1 rfl ?_
  refine Jx_aload_n (nx := 3) dL_learn_2 rfl rfl ?_
  refine Jx_iload_n (nx := 4) dL_learn_3 rfl rfl ?_
  refine Jx_iload_n (nx := 5) dL_learn_4 rfl rfl ?_
  refine Jx_callV (As := [.int p0, .int p1]) (nx := 8) dL_learn_5 rfl ml_X11_learn lk_L_107 iv_X11_learn rfl rfl rfl ⟨(Nat.le_of_ble_eq_true rfl), (Nat.le_of_ble_eq_true rfl)⟩ (Nat.le_of_ble_eq_true rfl) ⟨(Nat.le_of_ble_eq_true rfl), (Nat.le_of_ble_eq_true rfl)⟩ hc (fun E' es' hq => ?_) (fun v' es' hq => ?_)
  · obtain ⟨k, v, g1, e1, hC, ⟨-, e2⟩ | ⟨i, hi, e2, e3⟩⟩ := hq
    · cases e2
    · have h01 : i = 0 ∨ i = 1 := by have : i < 2 := hi; omega
      rcases h01 with rfl | rfl
      · cases e3
        have hC' : C 1 v g1 := by rw [e2] at hC; exact hC
        exact ⟨[], _, _, x_iob, 4, 15, rfl, fun z hz => (by cases hz), rfl, (by decide), cw_27, ca_iob, Or.inr ⟨dL_learn_13, rfl⟩, (by decide), Jx_iconst (nx := 16) (v := 1) (by decide) dL_learn_15 rfl (Jxrz dL_learn_16 rfl (by decide) (Nat.le_of_ble_eq_true rfl) (Nat.le_of_ble_eq_true rfl) (WrI.thr e1 (by decide) hC'))⟩
      · cases e3
        have hC' : C 2 v g1 := by rw [e2] at hC; exact hC
        exact ⟨[_], _, _, x_iae, 4, 19, rfl, fun z hz => (by cases hz with | head => exact Or.inr ⟨by decide, x_iob, cw_27, by decide⟩ | tail _ hz => (cases hz)), rfl, (by decide), cw_13, ca_iae, Or.inr ⟨dL_learn_17, rfl⟩, (by decide), Jx_iconst (nx := 20) (v := 2) (by decide) dL_learn_19 rfl (Jxrz dL_learn_20 rfl (by decide) (Nat.le_of_ble_eq_true rfl) (Nat.le_of_ble_eq_true rfl) (WrI.thr e1 (by decide) hC'))⟩
  · obtain ⟨k, v, g1, e1, hC, ⟨e2, e3⟩ | ⟨i, hi, e2, e3⟩⟩ := hq
    · cases e3
      subst e1
      refine Jx_i2l (nx := 9) dL_learn_8 rfl ?_
      refine Jxt_82 (nx := 10) dL_learn_9 rfl ?_
      refine Jx_goto (nx := 21) dL_learn_10 (by decide) ?_
      refine Jx_iconst (nx := 22) (v := 0) (by decide) dL_learn_21 rfl ?_
      exact Jxrz dL_learn_22 rfl (by decide) (Nat.le_of_ble_eq_true rfl) (Nat.le_of_ble_eq_true rfl) ⟨0, _, rfl, rfl, v, g1, _, rfl, fun _ => rfl, e2 ▸ hC⟩
    · cases e3
abbrev mL_two : MI := (yL_two, cL_two, 9, some .int)
abbrev hL_two : List (Nat × Nat × Nat × Nat) := [(0, 17, 20, 27)]
set_option maxRecDepth 100000 in
set_option maxHeartbeats 4000000 in
theorem cw_two {g : GS} (p0 : Int32) (p1 : Int32) (p2 : Int32) (p3 : Int32) (p4 : Int32) (p5 : Bool) {C : Int32 → Int64 → GS → Prop} (hc : Ct mX11_two (rm 10 3 18) [.ref 0, .int p0, .int p1, .int p2, .int p3, .int p4, .int (bI p5)] (Wd g) (PLl [x_iob] C)) : CtX hL_two mL_two (rm 11 3 18) [.ref 0, .int p0, .int p1, .int p2, .int p3, .int p4, .int (bI p5), .ref 82] (Wd g) (WrL C) := by
  refine CtX.of (by decide +kernel) (Nat.le_of_ble_eq_true rfl) ?_
  show Jx _ _ _ _ _ 0 [some (.ref 0), some (.int p0), some (.int p1), some (.int p2), some (.int p3), some (.int p4), some (.int (bI p5)), some (.ref 82), none] [] _ 0 0
  refine Jx_aload (nx := 2) dL_two_0 rfl rfl ?_
  refine Jx_iconst (nx := 3) (v := 0) (by decide) dL_two_2 rfl ?_
  refine Jx_aload_n (nx := 4) dL_two_3 rfl rfl ?_
  refine Jx_iload_n (nx := 5) dL_two_4 rfl rfl ?_
  refine Jx_iload_n (nx := 6) dL_two_5 rfl rfl ?_
  refine Jx_iload_n (nx := 7) dL_two_6 rfl rfl ?_
  refine Jx_iload (nx := 9) dL_two_7 rfl rfl ?_
  refine Jx_iload (nx := 11) dL_two_9 rfl rfl ?_
  refine Jx_iload (nx := 13) dL_two_11 rfl rfl ?_
  refine Jx_callV (As := [.int p0, .int p1, .int p2, .int p3, .int p4, .int (bI p5)]) (nx := 16) dL_two_13 rfl ml_X11_two lk_L_110 iv_X11_two rfl rfl rfl ⟨(Nat.le_of_ble_eq_true rfl), (Nat.le_of_ble_eq_true rfl)⟩ (Nat.le_of_ble_eq_true rfl) ⟨(Nat.le_of_ble_eq_true rfl), (Nat.le_of_ble_eq_true rfl)⟩ hc (fun E' es' hq => ?_) (fun v' es' hq => ?_)
  · obtain ⟨k, v, g1, e1, hC, ⟨-, e2⟩ | ⟨i, hi, e2, e3⟩⟩ := hq
    · cases e2
    · have h01 : i = 0 := by have : i < 1 := hi; omega
      rcases h01 with rfl
      · cases e3
        have hC' : C 1 v g1 := by rw [e2] at hC; exact hC
        exact ⟨[], _, _, x_iob, 8, 22, rfl, fun z hz => (by cases hz), rfl, (by decide), cw_27, ca_iob, Or.inr ⟨dL_two_20, rfl⟩, (by decide), Jx_iconst (nx := 23) (v := 1) (by decide) dL_two_22 rfl (Jxrz dL_two_23 rfl (by decide) (Nat.le_of_ble_eq_true rfl) (Nat.le_of_ble_eq_true rfl) (WrL.thr e1 (by decide) hC'))⟩
  · obtain ⟨k, v, g1, e1, hC, ⟨e2, e3⟩ | ⟨i, hi, e2, e3⟩⟩ := hq
    · cases e3
      subst e1
      refine Jxt_82 (nx := 17) dL_two_16 rfl ?_
      refine Jx_goto (nx := 24) dL_two_17 (by decide) ?_
      refine Jx_iconst (nx := 25) (v := 0) (by decide) dL_two_24 rfl ?_
      exact Jxrz dL_two_25 rfl (by decide) (Nat.le_of_ble_eq_true rfl) (Nat.le_of_ble_eq_true rfl) ⟨0, _, rfl, rfl, v, g1, _, rfl, fun _ => rfl, e2 ▸ hC⟩
    · cases e3
abbrev mL_leans : MI := (yL_leans, cL_leans, 8, some .int)
abbrev hL_leans : List (Nat × Nat × Nat × Nat) := [(0, 15, 18, 13)]
set_option maxRecDepth 100000 in
set_option maxHeartbeats 4000000 in
theorem cw_leans {g : GS} (p0 : Int32) (p1 : Int32) (p2 : Int32) (p3 : Int32) (p4 : Bool) {C : Int32 → Int64 → GS → Prop} (hc : Ct mX11_leans (rm 2 2 12) [.ref 0, .int p0, .int p1, .int p2, .int p3, .int (bI p4)] (Wd g) (PLl [x_iae] C)) : CtX hL_leans mL_leans (rm 3 2 12) [.ref 0, .int p0, .int p1, .int p2, .int p3, .int (bI p4), .ref 82] (Wd g) (WrL C) := by
  refine CtX.of (by decide +kernel) (Nat.le_of_ble_eq_true rfl) ?_
  show Jx _ _ _ _ _ 0 [some (.ref 0), some (.int p0), some (.int p1), some (.int p2), some (.int p3), some (.int (bI p4)), some (.ref 82), none] [] _ 0 0
  refine Jx_aload (nx := 2) dL_leans_0 rfl rfl ?_
  refine Jx_iconst (nx := 3) (v := 0) (by decide) dL_leans_2 rfl ?_
  refine Jx_aload_n (nx := 4) dL_leans_3 rfl rfl ?_
  refine Jx_iload_n (nx := 5) dL_leans_4 rfl rfl ?_
  refine Jx_iload_n (nx := 6) dL_leans_5 rfl rfl ?_
  refine Jx_iload_n (nx := 7) dL_leans_6 rfl rfl ?_
  refine Jx_iload (nx := 9) dL_leans_7 rfl rfl ?_
  refine Jx_iload (nx := 11) dL_leans_9 rfl rfl ?_
  refine Jx_callV (As := [.int p0, .int p1, .int p2, .int p3, .int (bI p4)]) (nx := 14) dL_leans_11 rfl ml_X11_leans lk_L_114 iv_X11_leans rfl rfl rfl ⟨(Nat.le_of_ble_eq_true rfl), (Nat.le_of_ble_eq_true rfl)⟩ (Nat.le_of_ble_eq_true rfl) ⟨(Nat.le_of_ble_eq_true rfl), (Nat.le_of_ble_eq_true rfl)⟩ hc (fun E' es' hq => ?_) (fun v' es' hq => ?_)
  · obtain ⟨k, v, g1, e1, hC, ⟨-, e2⟩ | ⟨i, hi, e2, e3⟩⟩ := hq
    · cases e2
    · have h01 : i = 0 := by have : i < 1 := hi; omega
      rcases h01 with rfl
      · cases e3
        have hC' : C 1 v g1 := by rw [e2] at hC; exact hC
        exact ⟨[], _, _, x_iae, 7, 20, rfl, fun z hz => (by cases hz), rfl, (by decide), cw_13, ca_iae, Or.inr ⟨dL_leans_18, rfl⟩, (by decide), Jx_iconst (nx := 21) (v := 1) (by decide) dL_leans_20 rfl (Jxrz dL_leans_21 rfl (by decide) (Nat.le_of_ble_eq_true rfl) (Nat.le_of_ble_eq_true rfl) (WrL.thr e1 (by decide) hC'))⟩
  · obtain ⟨k, v, g1, e1, hC, ⟨e2, e3⟩ | ⟨i, hi, e2, e3⟩⟩ := hq
    · cases e3
      subst e1
      refine Jxt_82 (nx := 15) dL_leans_14 rfl ?_
      refine Jx_goto (nx := 22) dL_leans_15 (by decide) ?_
      refine Jx_iconst (nx := 23) (v := 0) (by decide) dL_leans_22 rfl ?_
      exact Jxrz dL_leans_23 rfl (by decide) (Nat.le_of_ble_eq_true rfl) (Nat.le_of_ble_eq_true rfl) ⟨0, _, rfl, rfl, v, g1, _, rfl, fun _ => rfl, e2 ▸ hC⟩
    · cases e3
abbrev mL_played : MI := (yL_played, cL_played, 9, some .int)
abbrev hL_played : List (Nat × Nat × Nat × Nat) := [(0, 18, 21, 27), (0, 18, 25, 13)]
set_option maxRecDepth 100000 in
set_option maxHeartbeats 4000000 in
theorem cw_played {g : GS} (p0 : Int32) (p1 : Int32) (p2 : Int32) (p3 : Int32) (p4 : Int32) (p5 : Int32) {C : Int32 → Int32 → GS → Prop} (hc : Ct mX11_played (rm 10 4 24) [.ref 0, .int p0, .int p1, .int p2, .int p3, .int p4, .int p5] (Wd g) (PLi [x_iob, x_iae] C)) : CtX hL_played mL_played (rm 11 4 24) [.ref 0, .int p0, .int p1, .int p2, .int p3, .int p4, .int p5, .ref 82] (Wd g) (WrI C) := by
  refine CtX.of (by decide +kernel) (Nat.le_of_ble_eq_true rfl) ?_
  show Jx _ _ _ _ _ 0 [some (.ref 0), some (.int p0), some (.int p1), some (.int p2), some (.int p3), some (.int p4), some (.int p5), some (.ref 82), none] [] _ 0 0
  refine Jx_aload (nx := 2) dL_played_0 rfl rfl ?_
  refine Jx_iconst (nx := 3) (v := 0) (by decide) dL_played_2 rfl ?_
  refine Jx_aload_n (nx := 4) dL_played_3 rfl rfl ?_
  refine Jx_iload_n (nx := 5) dL_played_4 rfl rfl ?_
  refine Jx_iload_n (nx := 6) dL_played_5 rfl rfl ?_
  refine Jx_iload_n (nx := 7) dL_played_6 rfl rfl ?_
  refine Jx_iload (nx := 9) dL_played_7 rfl rfl ?_
  refine Jx_iload (nx := 11) dL_played_9 rfl rfl ?_
  refine Jx_iload (nx := 13) dL_played_11 rfl rfl ?_
  refine Jx_callV (As := [.int p0, .int p1, .int p2, .int p3, .int p4, .int p5]) (nx := 16) dL_played_13 rfl ml_X11_played lk_L_118 iv_X11_played rfl rfl rfl ⟨(Nat.le_of_ble_eq_true rfl), (Nat.le_of_ble_eq_true rfl)⟩ (Nat.le_of_ble_eq_true rfl) ⟨(Nat.le_of_ble_eq_true rfl), (Nat.le_of_ble_eq_true rfl)⟩ hc (fun E' es' hq => ?_) (fun v' es' hq => ?_)
  · obtain ⟨k, v, g1, e1, hC, ⟨-, e2⟩ | ⟨i, hi, e2, e3⟩⟩ := hq
    · cases e2
    · have h01 : i = 0 ∨ i = 1 := by have : i < 2 := hi; omega
      rcases h01 with rfl | rfl
      · cases e3
        have hC' : C 1 v g1 := by rw [e2] at hC; exact hC
        exact ⟨[], _, _, x_iob, 8, 23, rfl, fun z hz => (by cases hz), rfl, (by decide), cw_27, ca_iob, Or.inr ⟨dL_played_21, rfl⟩, (by decide), Jx_iconst (nx := 24) (v := 1) (by decide) dL_played_23 rfl (Jxrz dL_played_24 rfl (by decide) (Nat.le_of_ble_eq_true rfl) (Nat.le_of_ble_eq_true rfl) (WrI.thr e1 (by decide) hC'))⟩
      · cases e3
        have hC' : C 2 v g1 := by rw [e2] at hC; exact hC
        exact ⟨[_], _, _, x_iae, 8, 27, rfl, fun z hz => (by cases hz with | head => exact Or.inr ⟨by decide, x_iob, cw_27, by decide⟩ | tail _ hz => (cases hz)), rfl, (by decide), cw_13, ca_iae, Or.inr ⟨dL_played_25, rfl⟩, (by decide), Jx_iconst (nx := 28) (v := 2) (by decide) dL_played_27 rfl (Jxrz dL_played_28 rfl (by decide) (Nat.le_of_ble_eq_true rfl) (Nat.le_of_ble_eq_true rfl) (WrI.thr e1 (by decide) hC'))⟩
  · obtain ⟨k, v, g1, e1, hC, ⟨e2, e3⟩ | ⟨i, hi, e2, e3⟩⟩ := hq
    · cases e3
      subst e1
      refine Jx_i2l (nx := 17) dL_played_16 rfl ?_
      refine Jxt_82 (nx := 18) dL_played_17 rfl ?_
      refine Jx_goto (nx := 29) dL_played_18 (by decide) ?_
      refine Jx_iconst (nx := 30) (v := 0) (by decide) dL_played_29 rfl ?_
      exact Jxrz dL_played_30 rfl (by decide) (Nat.le_of_ble_eq_true rfl) (Nat.le_of_ble_eq_true rfl) ⟨0, _, rfl, rfl, v, g1, _, rfl, fun _ => rfl, e2 ▸ hC⟩
    · cases e3
abbrev mL_ends : MI := (yL_ends, cL_ends, 9, some .int)
abbrev hL_ends : List (Nat × Nat × Nat × Nat) := [(0, 18, 21, 27), (0, 18, 25, 13), (0, 18, 29, 29)]
set_option maxRecDepth 100000 in
set_option maxHeartbeats 4000000 in
theorem cw_ends {g : GS} (p0 : Int32) (p1 : Int32) (p2 : Int32) (p3 : Int32) (p4 : Int32) (p5 : Int32) {C : Int32 → Int32 → GS → Prop} (hc : Ct mX11_ends (rm 10 5 30) [.ref 0, .int p0, .int p1, .int p2, .int p3, .int p4, .int p5] (Wd g) (PLi [x_iob, x_iae, x_nse] C)) : CtX hL_ends mL_ends (rm 11 5 30) [.ref 0, .int p0, .int p1, .int p2, .int p3, .int p4, .int p5, .ref 82] (Wd g) (WrI C) := by
  refine CtX.of (by decide +kernel) (Nat.le_of_ble_eq_true rfl) ?_
  show Jx _ _ _ _ _ 0 [some (.ref 0), some (.int p0), some (.int p1), some (.int p2), some (.int p3), some (.int p4), some (.int p5), some (.ref 82), none] [] _ 0 0
  refine Jx_aload (nx := 2) dL_ends_0 rfl rfl ?_
  refine Jx_iconst (nx := 3) (v := 0) (by decide) dL_ends_2 rfl ?_
  refine Jx_aload_n (nx := 4) dL_ends_3 rfl rfl ?_
  refine Jx_iload_n (nx := 5) dL_ends_4 rfl rfl ?_
  refine Jx_iload_n (nx := 6) dL_ends_5 rfl rfl ?_
  refine Jx_iload_n (nx := 7) dL_ends_6 rfl rfl ?_
  refine Jx_iload (nx := 9) dL_ends_7 rfl rfl ?_
  refine Jx_iload (nx := 11) dL_ends_9 rfl rfl ?_
  refine Jx_iload (nx := 13) dL_ends_11 rfl rfl ?_
  refine Jx_callV (As := [.int p0, .int p1, .int p2, .int p3, .int p4, .int p5]) (nx := 16) dL_ends_13 rfl ml_X11_ends lk_L_121 iv_X11_ends rfl rfl rfl ⟨(Nat.le_of_ble_eq_true rfl), (Nat.le_of_ble_eq_true rfl)⟩ (Nat.le_of_ble_eq_true rfl) ⟨(Nat.le_of_ble_eq_true rfl), (Nat.le_of_ble_eq_true rfl)⟩ hc (fun E' es' hq => ?_) (fun v' es' hq => ?_)
  · obtain ⟨k, v, g1, e1, hC, ⟨-, e2⟩ | ⟨i, hi, e2, e3⟩⟩ := hq
    · cases e2
    · have h01 : i = 0 ∨ i = 1 ∨ i = 2 := by have : i < 3 := hi; omega
      rcases h01 with rfl | rfl | rfl
      · cases e3
        have hC' : C 1 v g1 := by rw [e2] at hC; exact hC
        exact ⟨[], _, _, x_iob, 8, 23, rfl, fun z hz => (by cases hz), rfl, (by decide), cw_27, ca_iob, Or.inr ⟨dL_ends_21, rfl⟩, (by decide), Jx_iconst (nx := 24) (v := 1) (by decide) dL_ends_23 rfl (Jxrz dL_ends_24 rfl (by decide) (Nat.le_of_ble_eq_true rfl) (Nat.le_of_ble_eq_true rfl) (WrI.thr e1 (by decide) hC'))⟩
      · cases e3
        have hC' : C 2 v g1 := by rw [e2] at hC; exact hC
        exact ⟨[_], _, _, x_iae, 8, 27, rfl, fun z hz => (by cases hz with | head => exact Or.inr ⟨by decide, x_iob, cw_27, by decide⟩ | tail _ hz => (cases hz)), rfl, (by decide), cw_13, ca_iae, Or.inr ⟨dL_ends_25, rfl⟩, (by decide), Jx_iconst (nx := 28) (v := 2) (by decide) dL_ends_27 rfl (Jxrz dL_ends_28 rfl (by decide) (Nat.le_of_ble_eq_true rfl) (Nat.le_of_ble_eq_true rfl) (WrI.thr e1 (by decide) hC'))⟩
      · cases e3
        have hC' : C 3 v g1 := by rw [e2] at hC; exact hC
        exact ⟨[_, _], _, _, x_nse, 8, 31, rfl, fun z hz => (by cases hz with | head => exact Or.inr ⟨by decide, x_iob, cw_27, by decide⟩ | tail _ hz => (cases hz with | head => exact Or.inr ⟨by decide, x_iae, cw_13, by decide⟩ | tail _ hz => (cases hz))), rfl, (by decide), cw_29, ca_nse, Or.inr ⟨dL_ends_29, rfl⟩, (by decide), Jx_iconst (nx := 32) (v := 3) (by decide) dL_ends_31 rfl (Jxrz dL_ends_32 rfl (by decide) (Nat.le_of_ble_eq_true rfl) (Nat.le_of_ble_eq_true rfl) (WrI.thr e1 (by decide) hC'))⟩
  · obtain ⟨k, v, g1, e1, hC, ⟨e2, e3⟩ | ⟨i, hi, e2, e3⟩⟩ := hq
    · cases e3
      subst e1
      refine Jx_i2l (nx := 17) dL_ends_16 rfl ?_
      refine Jxt_82 (nx := 18) dL_ends_17 rfl ?_
      refine Jx_goto (nx := 33) dL_ends_18 (by decide) ?_
      refine Jx_iconst (nx := 34) (v := 0) (by decide) dL_ends_33 rfl ?_
      exact Jxrz dL_ends_34 rfl (by decide) (Nat.le_of_ble_eq_true rfl) (Nat.le_of_ble_eq_true rfl) ⟨0, _, rfl, rfl, v, g1, _, rfl, fun _ => rfl, e2 ▸ hC⟩
    · cases e3
abbrev mL_mean : MI := (yL_mean, cL_mean, 6, some .int)
abbrev hL_mean : List (Nat × Nat × Nat × Nat) := [(0, 11, 14, 27), (0, 11, 18, 13), (0, 11, 22, 29)]
set_option maxRecDepth 100000 in
set_option maxHeartbeats 4000000 in
theorem cw_mean {g : GS} (p0 : Int32) (p1 : Int32) (p2 : Int32) {C : Int32 → Int64 → GS → Prop} (hc : Ct mX11_mean (rm 8 3 18) [.ref 0, .int p0, .int p1, .int p2] (Wd g) (PLl [x_iob, x_iae, x_nse] C)) : CtX hL_mean mL_mean (rm 9 3 18) [.ref 0, .int p0, .int p1, .int p2, .ref 82] (Wd g) (WrL C) := by
  refine CtX.of (by decide +kernel) (Nat.le_of_ble_eq_true rfl) ?_
  show Jx _ _ _ _ _ 0 [some (.ref 0), some (.int p0), some (.int p1), some (.int p2), some (.ref 82), none] [] _ 0 0
  refine Jx_aload (nx := 2) dL_mean_0 rfl rfl ?_
  refine Jx_iconst (nx := 3) (v := 0) (by decide) dL_mean_2 rfl ?_
  refine Jx_aload_n (nx := 4) dL_mean_3 rfl rfl ?_
  refine Jx_iload_n (nx := 5) dL_mean_4 rfl rfl ?_
  refine Jx_iload_n (nx := 6) dL_mean_5 rfl rfl ?_
  refine Jx_iload_n (nx := 7) dL_mean_6 rfl rfl ?_
  refine Jx_callV (As := [.int p0, .int p1, .int p2]) (nx := 10) dL_mean_7 rfl ml_X11_mean lk_L_124 iv_X11_mean rfl rfl rfl ⟨(Nat.le_of_ble_eq_true rfl), (Nat.le_of_ble_eq_true rfl)⟩ (Nat.le_of_ble_eq_true rfl) ⟨(Nat.le_of_ble_eq_true rfl), (Nat.le_of_ble_eq_true rfl)⟩ hc (fun E' es' hq => ?_) (fun v' es' hq => ?_)
  · obtain ⟨k, v, g1, e1, hC, ⟨-, e2⟩ | ⟨i, hi, e2, e3⟩⟩ := hq
    · cases e2
    · have h01 : i = 0 ∨ i = 1 ∨ i = 2 := by have : i < 3 := hi; omega
      rcases h01 with rfl | rfl | rfl
      · cases e3
        have hC' : C 1 v g1 := by rw [e2] at hC; exact hC
        exact ⟨[], _, _, x_iob, 5, 16, rfl, fun z hz => (by cases hz), rfl, (by decide), cw_27, ca_iob, Or.inr ⟨dL_mean_14, rfl⟩, (by decide), Jx_iconst (nx := 17) (v := 1) (by decide) dL_mean_16 rfl (Jxrz dL_mean_17 rfl (by decide) (Nat.le_of_ble_eq_true rfl) (Nat.le_of_ble_eq_true rfl) (WrL.thr e1 (by decide) hC'))⟩
      · cases e3
        have hC' : C 2 v g1 := by rw [e2] at hC; exact hC
        exact ⟨[_], _, _, x_iae, 5, 20, rfl, fun z hz => (by cases hz with | head => exact Or.inr ⟨by decide, x_iob, cw_27, by decide⟩ | tail _ hz => (cases hz)), rfl, (by decide), cw_13, ca_iae, Or.inr ⟨dL_mean_18, rfl⟩, (by decide), Jx_iconst (nx := 21) (v := 2) (by decide) dL_mean_20 rfl (Jxrz dL_mean_21 rfl (by decide) (Nat.le_of_ble_eq_true rfl) (Nat.le_of_ble_eq_true rfl) (WrL.thr e1 (by decide) hC'))⟩
      · cases e3
        have hC' : C 3 v g1 := by rw [e2] at hC; exact hC
        exact ⟨[_, _], _, _, x_nse, 5, 24, rfl, fun z hz => (by cases hz with | head => exact Or.inr ⟨by decide, x_iob, cw_27, by decide⟩ | tail _ hz => (cases hz with | head => exact Or.inr ⟨by decide, x_iae, cw_13, by decide⟩ | tail _ hz => (cases hz))), rfl, (by decide), cw_29, ca_nse, Or.inr ⟨dL_mean_22, rfl⟩, (by decide), Jx_iconst (nx := 25) (v := 3) (by decide) dL_mean_24 rfl (Jxrz dL_mean_25 rfl (by decide) (Nat.le_of_ble_eq_true rfl) (Nat.le_of_ble_eq_true rfl) (WrL.thr e1 (by decide) hC'))⟩
  · obtain ⟨k, v, g1, e1, hC, ⟨e2, e3⟩ | ⟨i, hi, e2, e3⟩⟩ := hq
    · cases e3
      subst e1
      refine Jxt_82 (nx := 11) dL_mean_10 rfl ?_
      refine Jx_goto (nx := 26) dL_mean_11 (by decide) ?_
      refine Jx_iconst (nx := 27) (v := 0) (by decide) dL_mean_26 rfl ?_
      exact Jxrz dL_mean_27 rfl (by decide) (Nat.le_of_ble_eq_true rfl) (Nat.le_of_ble_eq_true rfl) ⟨0, _, rfl, rfl, v, g1, _, rfl, fun _ => rfl, e2 ▸ hC⟩
    · cases e3
abbrev mL_plain : MI := (yL_plain, cL_plain, 5, some .int)
abbrev hL_plain : List (Nat × Nat × Nat × Nat) := [(0, 10, 13, 27)]
set_option maxRecDepth 100000 in
set_option maxHeartbeats 4000000 in
theorem cw_plain {g : GS} (p0 : Int32) (p1 : Int32) {C : Int32 → Int32 → GS → Prop} (hc : Ct mX11_plain (rm 8 1 6) [.ref 0, .int p0, .int p1] (Wd g) (PLi [x_iob] C)) : CtX hL_plain mL_plain (rm 9 1 6) [.ref 0, .int p0, .int p1, .ref 82] (Wd g) (WrI C) := by
  refine CtX.of (by decide +kernel) (Nat.le_of_ble_eq_true rfl) ?_
  show Jx _ _ _ _ _ 0 [some (.ref 0), some (.int p0), some (.int p1), some (.ref 82), none] [] _ 0 0
  refine Jx_aload_n (nx := 1) dL_plain_0 rfl rfl ?_
  refine Jx_iconst (nx := 2) (v := 0) (by decide) dL_plain_1 rfl ?_
  refine Jx_aload_n (nx := 3) dL_plain_2 rfl rfl ?_
  refine Jx_iload_n (nx := 4) dL_plain_3 rfl rfl ?_
  refine Jx_iload_n (nx := 5) dL_plain_4 rfl rfl ?_
  refine Jx_callV (As := [.int p0, .int p1]) (nx := 8) dL_plain_5 rfl ml_X11_plain lk_L_127 iv_X11_plain rfl rfl rfl ⟨(Nat.le_of_ble_eq_true rfl), (Nat.le_of_ble_eq_true rfl)⟩ (Nat.le_of_ble_eq_true rfl) ⟨(Nat.le_of_ble_eq_true rfl), (Nat.le_of_ble_eq_true rfl)⟩ hc (fun E' es' hq => ?_) (fun v' es' hq => ?_)
  · obtain ⟨k, v, g1, e1, hC, ⟨-, e2⟩ | ⟨i, hi, e2, e3⟩⟩ := hq
    · cases e2
    · have h01 : i = 0 := by have : i < 1 := hi; omega
      rcases h01 with rfl
      · cases e3
        have hC' : C 1 v g1 := by rw [e2] at hC; exact hC
        exact ⟨[], _, _, x_iob, 4, 15, rfl, fun z hz => (by cases hz), rfl, (by decide), cw_27, ca_iob, Or.inr ⟨dL_plain_13, rfl⟩, (by decide), Jx_iconst (nx := 16) (v := 1) (by decide) dL_plain_15 rfl (Jxrz dL_plain_16 rfl (by decide) (Nat.le_of_ble_eq_true rfl) (Nat.le_of_ble_eq_true rfl) (WrI.thr e1 (by decide) hC'))⟩
  · obtain ⟨k, v, g1, e1, hC, ⟨e2, e3⟩ | ⟨i, hi, e2, e3⟩⟩ := hq
    · cases e3
      subst e1
      refine Jx_i2l (nx := 9) dL_plain_8 rfl ?_
      refine Jxt_82 (nx := 10) dL_plain_9 rfl ?_
      refine Jx_goto (nx := 17) dL_plain_10 (by decide) ?_
      refine Jx_iconst (nx := 18) (v := 0) (by decide) dL_plain_17 rfl ?_
      exact Jxrz dL_plain_18 rfl (by decide) (Nat.le_of_ble_eq_true rfl) (Nat.le_of_ble_eq_true rfl) ⟨0, _, rfl, rfl, v, g1, _, rfl, fun _ => rfl, e2 ▸ hC⟩
    · cases e3
abbrev mL_right : MI := (yL_right, cL_right, 7, some .int)
abbrev hL_right : List (Nat × Nat × Nat × Nat) := [(0, 14, 17, 27), (0, 14, 21, 13)]
set_option maxRecDepth 100000 in
set_option maxHeartbeats 4000000 in
theorem cw_right {g : GS} (p0 : Int32) (p1 : Int32) (p2 : Int32) (p3 : Int32) {C : Int32 → Int32 → GS → Prop} (hc : Ct mX11_right (rm 10 3 18) [.ref 0, .int p0, .int p1, .int p2, .int p3] (Wd g) (PLi [x_iob, x_iae] C)) : CtX hL_right mL_right (rm 11 3 18) [.ref 0, .int p0, .int p1, .int p2, .int p3, .ref 82] (Wd g) (WrI C) := by
  refine CtX.of (by decide +kernel) (Nat.le_of_ble_eq_true rfl) ?_
  show Jx _ _ _ _ _ 0 [some (.ref 0), some (.int p0), some (.int p1), some (.int p2), some (.int p3), some (.ref 82), none] [] _ 0 0
  refine Jx_aload (nx := 2) dL_right_0 rfl rfl ?_
  refine Jx_iconst (nx := 3) (v := 0) (by decide) dL_right_2 rfl ?_
  refine Jx_aload_n (nx := 4) dL_right_3 rfl rfl ?_
  refine Jx_iload_n (nx := 5) dL_right_4 rfl rfl ?_
  refine Jx_iload_n (nx := 6) dL_right_5 rfl rfl ?_
  refine Jx_iload_n (nx := 7) dL_right_6 rfl rfl ?_
  refine Jx_iload (nx := 9) dL_right_7 rfl rfl ?_
  refine Jx_callV (As := [.int p0, .int p1, .int p2, .int p3]) (nx := 12) dL_right_9 rfl ml_X11_right lk_L_130 iv_X11_right rfl rfl rfl ⟨(Nat.le_of_ble_eq_true rfl), (Nat.le_of_ble_eq_true rfl)⟩ (Nat.le_of_ble_eq_true rfl) ⟨(Nat.le_of_ble_eq_true rfl), (Nat.le_of_ble_eq_true rfl)⟩ hc (fun E' es' hq => ?_) (fun v' es' hq => ?_)
  · obtain ⟨k, v, g1, e1, hC, ⟨-, e2⟩ | ⟨i, hi, e2, e3⟩⟩ := hq
    · cases e2
    · have h01 : i = 0 ∨ i = 1 := by have : i < 2 := hi; omega
      rcases h01 with rfl | rfl
      · cases e3
        have hC' : C 1 v g1 := by rw [e2] at hC; exact hC
        exact ⟨[], _, _, x_iob, 6, 19, rfl, fun z hz => (by cases hz), rfl, (by decide), cw_27, ca_iob, Or.inr ⟨dL_right_17, rfl⟩, (by decide), Jx_iconst (nx := 20) (v := 1) (by decide) dL_right_19 rfl (Jxrz dL_right_20 rfl (by decide) (Nat.le_of_ble_eq_true rfl) (Nat.le_of_ble_eq_true rfl) (WrI.thr e1 (by decide) hC'))⟩
      · cases e3
        have hC' : C 2 v g1 := by rw [e2] at hC; exact hC
        exact ⟨[_], _, _, x_iae, 6, 23, rfl, fun z hz => (by cases hz with | head => exact Or.inr ⟨by decide, x_iob, cw_27, by decide⟩ | tail _ hz => (cases hz)), rfl, (by decide), cw_13, ca_iae, Or.inr ⟨dL_right_21, rfl⟩, (by decide), Jx_iconst (nx := 24) (v := 2) (by decide) dL_right_23 rfl (Jxrz dL_right_24 rfl (by decide) (Nat.le_of_ble_eq_true rfl) (Nat.le_of_ble_eq_true rfl) (WrI.thr e1 (by decide) hC'))⟩
  · obtain ⟨k, v, g1, e1, hC, ⟨e2, e3⟩ | ⟨i, hi, e2, e3⟩⟩ := hq
    · cases e3
      subst e1
      refine Jx_i2l (nx := 13) dL_right_12 rfl ?_
      refine Jxt_82 (nx := 14) dL_right_13 rfl ?_
      refine Jx_goto (nx := 25) dL_right_14 (by decide) ?_
      refine Jx_iconst (nx := 26) (v := 0) (by decide) dL_right_25 rfl ?_
      exact Jxrz dL_right_26 rfl (by decide) (Nat.le_of_ble_eq_true rfl) (Nat.le_of_ble_eq_true rfl) ⟨0, _, rfl, rfl, v, g1, _, rfl, fun _ => rfl, e2 ▸ hC⟩
    · cases e3
abbrev mL_rest : MI := (yL_rest, cL_rest, 6, some .int)
abbrev hL_rest : List (Nat × Nat × Nat × Nat) := [(0, 11, 14, 27), (0, 11, 18, 13), (0, 11, 22, 29)]
set_option maxRecDepth 100000 in
set_option maxHeartbeats 4000000 in
theorem cw_rest {g : GS} (p0 : Int32) (p1 : Int32) (p2 : Int32) {C : Int32 → Int64 → GS → Prop} (hc : Ct mX11_rest (rm 10 3 18) [.ref 0, .int p0, .int p1, .int p2] (Wd g) (PLl [x_iob, x_iae, x_nse] C)) : CtX hL_rest mL_rest (rm 11 3 18) [.ref 0, .int p0, .int p1, .int p2, .ref 82] (Wd g) (WrL C) := by
  refine CtX.of (by decide +kernel) (Nat.le_of_ble_eq_true rfl) ?_
  show Jx _ _ _ _ _ 0 [some (.ref 0), some (.int p0), some (.int p1), some (.int p2), some (.ref 82), none] [] _ 0 0
  refine Jx_aload (nx := 2) dL_rest_0 rfl rfl ?_
  refine Jx_iconst (nx := 3) (v := 0) (by decide) dL_rest_2 rfl ?_
  refine Jx_aload_n (nx := 4) dL_rest_3 rfl rfl ?_
  refine Jx_iload_n (nx := 5) dL_rest_4 rfl rfl ?_
  refine Jx_iload_n (nx := 6) dL_rest_5 rfl rfl ?_
  refine Jx_iload_n (nx := 7) dL_rest_6 rfl rfl ?_
  refine Jx_callV (As := [.int p0, .int p1, .int p2]) (nx := 10) dL_rest_7 rfl ml_X11_rest lk_L_133 iv_X11_rest rfl rfl rfl ⟨(Nat.le_of_ble_eq_true rfl), (Nat.le_of_ble_eq_true rfl)⟩ (Nat.le_of_ble_eq_true rfl) ⟨(Nat.le_of_ble_eq_true rfl), (Nat.le_of_ble_eq_true rfl)⟩ hc (fun E' es' hq => ?_) (fun v' es' hq => ?_)
  · obtain ⟨k, v, g1, e1, hC, ⟨-, e2⟩ | ⟨i, hi, e2, e3⟩⟩ := hq
    · cases e2
    · have h01 : i = 0 ∨ i = 1 ∨ i = 2 := by have : i < 3 := hi; omega
      rcases h01 with rfl | rfl | rfl
      · cases e3
        have hC' : C 1 v g1 := by rw [e2] at hC; exact hC
        exact ⟨[], _, _, x_iob, 5, 16, rfl, fun z hz => (by cases hz), rfl, (by decide), cw_27, ca_iob, Or.inr ⟨dL_rest_14, rfl⟩, (by decide), Jx_iconst (nx := 17) (v := 1) (by decide) dL_rest_16 rfl (Jxrz dL_rest_17 rfl (by decide) (Nat.le_of_ble_eq_true rfl) (Nat.le_of_ble_eq_true rfl) (WrL.thr e1 (by decide) hC'))⟩
      · cases e3
        have hC' : C 2 v g1 := by rw [e2] at hC; exact hC
        exact ⟨[_], _, _, x_iae, 5, 20, rfl, fun z hz => (by cases hz with | head => exact Or.inr ⟨by decide, x_iob, cw_27, by decide⟩ | tail _ hz => (cases hz)), rfl, (by decide), cw_13, ca_iae, Or.inr ⟨dL_rest_18, rfl⟩, (by decide), Jx_iconst (nx := 21) (v := 2) (by decide) dL_rest_20 rfl (Jxrz dL_rest_21 rfl (by decide) (Nat.le_of_ble_eq_true rfl) (Nat.le_of_ble_eq_true rfl) (WrL.thr e1 (by decide) hC'))⟩
      · cases e3
        have hC' : C 3 v g1 := by rw [e2] at hC; exact hC
        exact ⟨[_, _], _, _, x_nse, 5, 24, rfl, fun z hz => (by cases hz with | head => exact Or.inr ⟨by decide, x_iob, cw_27, by decide⟩ | tail _ hz => (cases hz with | head => exact Or.inr ⟨by decide, x_iae, cw_13, by decide⟩ | tail _ hz => (cases hz))), rfl, (by decide), cw_29, ca_nse, Or.inr ⟨dL_rest_22, rfl⟩, (by decide), Jx_iconst (nx := 25) (v := 3) (by decide) dL_rest_24 rfl (Jxrz dL_rest_25 rfl (by decide) (Nat.le_of_ble_eq_true rfl) (Nat.le_of_ble_eq_true rfl) (WrL.thr e1 (by decide) hC'))⟩
  · obtain ⟨k, v, g1, e1, hC, ⟨e2, e3⟩ | ⟨i, hi, e2, e3⟩⟩ := hq
    · cases e3
      subst e1
      refine Jxt_82 (nx := 11) dL_rest_10 rfl ?_
      refine Jx_goto (nx := 26) dL_rest_11 (by decide) ?_
      refine Jx_iconst (nx := 27) (v := 0) (by decide) dL_rest_26 rfl ?_
      exact Jxrz dL_rest_27 rfl (by decide) (Nat.le_of_ble_eq_true rfl) (Nat.le_of_ble_eq_true rfl) ⟨0, _, rfl, rfl, v, g1, _, rfl, fun _ => rfl, e2 ▸ hC⟩
    · cases e3
abbrev mL_season : MI := (yL_season, cL_season, 8, some .int)
abbrev hL_season : List (Nat × Nat × Nat × Nat) := [(0, 16, 19, 27), (0, 16, 23, 13), (0, 16, 27, 29)]
set_option maxRecDepth 100000 in
set_option maxHeartbeats 4000000 in
theorem cw_season {g : GS} (p0 : Int32) (p1 : Int32) (p2 : Int32) (p3 : Int32) (p4 : Int32) {C : Int32 → Int32 → GS → Prop} (hc : Ct mX11_season (rm 10 3 18) [.ref 0, .int p0, .int p1, .int p2, .int p3, .int p4] (Wd g) (PLi [x_iob, x_iae, x_nse] C)) : CtX hL_season mL_season (rm 11 3 18) [.ref 0, .int p0, .int p1, .int p2, .int p3, .int p4, .ref 82] (Wd g) (WrI C) := by
  refine CtX.of (by decide +kernel) (Nat.le_of_ble_eq_true rfl) ?_
  show Jx _ _ _ _ _ 0 [some (.ref 0), some (.int p0), some (.int p1), some (.int p2), some (.int p3), some (.int p4), some (.ref 82), none] [] _ 0 0
  refine Jx_aload (nx := 2) dL_season_0 rfl rfl ?_
  refine Jx_iconst (nx := 3) (v := 0) (by decide) dL_season_2 rfl ?_
  refine Jx_aload_n (nx := 4) dL_season_3 rfl rfl ?_
  refine Jx_iload_n (nx := 5) dL_season_4 rfl rfl ?_
  refine Jx_iload_n (nx := 6) dL_season_5 rfl rfl ?_
  refine Jx_iload_n (nx := 7) dL_season_6 rfl rfl ?_
  refine Jx_iload (nx := 9) dL_season_7 rfl rfl ?_
  refine Jx_iload (nx := 11) dL_season_9 rfl rfl ?_
  refine Jx_callV (As := [.int p0, .int p1, .int p2, .int p3, .int p4]) (nx := 14) dL_season_11 rfl ml_X11_season lk_L_136 iv_X11_season rfl rfl rfl ⟨(Nat.le_of_ble_eq_true rfl), (Nat.le_of_ble_eq_true rfl)⟩ (Nat.le_of_ble_eq_true rfl) ⟨(Nat.le_of_ble_eq_true rfl), (Nat.le_of_ble_eq_true rfl)⟩ hc (fun E' es' hq => ?_) (fun v' es' hq => ?_)
  · obtain ⟨k, v, g1, e1, hC, ⟨-, e2⟩ | ⟨i, hi, e2, e3⟩⟩ := hq
    · cases e2
    · have h01 : i = 0 ∨ i = 1 ∨ i = 2 := by have : i < 3 := hi; omega
      rcases h01 with rfl | rfl | rfl
      · cases e3
        have hC' : C 1 v g1 := by rw [e2] at hC; exact hC
        exact ⟨[], _, _, x_iob, 7, 21, rfl, fun z hz => (by cases hz), rfl, (by decide), cw_27, ca_iob, Or.inr ⟨dL_season_19, rfl⟩, (by decide), Jx_iconst (nx := 22) (v := 1) (by decide) dL_season_21 rfl (Jxrz dL_season_22 rfl (by decide) (Nat.le_of_ble_eq_true rfl) (Nat.le_of_ble_eq_true rfl) (WrI.thr e1 (by decide) hC'))⟩
      · cases e3
        have hC' : C 2 v g1 := by rw [e2] at hC; exact hC
        exact ⟨[_], _, _, x_iae, 7, 25, rfl, fun z hz => (by cases hz with | head => exact Or.inr ⟨by decide, x_iob, cw_27, by decide⟩ | tail _ hz => (cases hz)), rfl, (by decide), cw_13, ca_iae, Or.inr ⟨dL_season_23, rfl⟩, (by decide), Jx_iconst (nx := 26) (v := 2) (by decide) dL_season_25 rfl (Jxrz dL_season_26 rfl (by decide) (Nat.le_of_ble_eq_true rfl) (Nat.le_of_ble_eq_true rfl) (WrI.thr e1 (by decide) hC'))⟩
      · cases e3
        have hC' : C 3 v g1 := by rw [e2] at hC; exact hC
        exact ⟨[_, _], _, _, x_nse, 7, 29, rfl, fun z hz => (by cases hz with | head => exact Or.inr ⟨by decide, x_iob, cw_27, by decide⟩ | tail _ hz => (cases hz with | head => exact Or.inr ⟨by decide, x_iae, cw_13, by decide⟩ | tail _ hz => (cases hz))), rfl, (by decide), cw_29, ca_nse, Or.inr ⟨dL_season_27, rfl⟩, (by decide), Jx_iconst (nx := 30) (v := 3) (by decide) dL_season_29 rfl (Jxrz dL_season_30 rfl (by decide) (Nat.le_of_ble_eq_true rfl) (Nat.le_of_ble_eq_true rfl) (WrI.thr e1 (by decide) hC'))⟩
  · obtain ⟨k, v, g1, e1, hC, ⟨e2, e3⟩ | ⟨i, hi, e2, e3⟩⟩ := hq
    · cases e3
      subst e1
      refine Jx_i2l (nx := 15) dL_season_14 rfl ?_
      refine Jxt_82 (nx := 16) dL_season_15 rfl ?_
      refine Jx_goto (nx := 31) dL_season_16 (by decide) ?_
      refine Jx_iconst (nx := 32) (v := 0) (by decide) dL_season_31 rfl ?_
      exact Jxrz dL_season_32 rfl (by decide) (Nat.le_of_ble_eq_true rfl) (Nat.le_of_ble_eq_true rfl) ⟨0, _, rfl, rfl, v, g1, _, rfl, fun _ => rfl, e2 ▸ hC⟩
    · cases e3
abbrev mL_game : MI := (yL_game, cL_game, 3, some .int)
abbrev hL_game : List (Nat × Nat × Nat × Nat) := [(0, 8, 11, 13), (0, 8, 14, 15)]
set_option maxRecDepth 100000 in
set_option maxHeartbeats 4000000 in
theorem cw_game {g : GS}  {C : Int32 → Int32 → GS → Prop} (hc : Ct mX11_game (rm 40 2 12) [.ref 0] (Wd g) (PLi [x_iae, x_uoe] C)) : CtX hL_game mL_game (rm 41 2 12) [.ref 0, .ref 82] (Wd g) (WrI C) := by
  refine CtX.of (by decide +kernel) (Nat.le_of_ble_eq_true rfl) ?_
  show Jx _ _ _ _ _ 0 [some (.ref 0), some (.ref 82), none] [] _ 0 0
  refine Jx_aload_n (nx := 1) dL_game_0 rfl rfl ?_
  refine Jx_iconst (nx := 2) (v := 0) (by decide) dL_game_1 rfl ?_
  refine Jx_aload_n (nx := 3) dL_game_2 rfl rfl ?_
  refine Jx_callV (As := []) (nx := 6) dL_game_3 rfl ml_X11_game lk_L_7 iv_X11_game rfl rfl rfl ⟨(Nat.le_of_ble_eq_true rfl), (Nat.le_of_ble_eq_true rfl)⟩ (Nat.le_of_ble_eq_true rfl) ⟨(Nat.le_of_ble_eq_true rfl), (Nat.le_of_ble_eq_true rfl)⟩ hc (fun E' es' hq => ?_) (fun v' es' hq => ?_)
  · obtain ⟨k, v, g1, e1, hC, ⟨-, e2⟩ | ⟨i, hi, e2, e3⟩⟩ := hq
    · cases e2
    · have h01 : i = 0 ∨ i = 1 := by have : i < 2 := hi; omega
      rcases h01 with rfl | rfl
      · cases e3
        have hC' : C 1 v g1 := by rw [e2] at hC; exact hC
        exact ⟨[], _, _, x_iae, 2, 12, rfl, fun z hz => (by cases hz), rfl, (by decide), cw_13, ca_iae, Or.inl ⟨2, rfl, dL_game_11, rfl⟩, (by decide), Jx_iconst (nx := 13) (v := 1) (by decide) dL_game_12 rfl (Jxrz dL_game_13 rfl (by decide) (Nat.le_of_ble_eq_true rfl) (Nat.le_of_ble_eq_true rfl) (WrI.thr e1 (by decide) hC'))⟩
      · cases e3
        have hC' : C 2 v g1 := by rw [e2] at hC; exact hC
        exact ⟨[_], _, _, x_uoe, 2, 15, rfl, fun z hz => (by cases hz with | head => exact Or.inr ⟨by decide, x_iae, cw_13, by decide⟩ | tail _ hz => (cases hz)), rfl, (by decide), cw_15, ca_uoe, Or.inl ⟨2, rfl, dL_game_14, rfl⟩, (by decide), Jx_iconst (nx := 16) (v := 2) (by decide) dL_game_15 rfl (Jxrz dL_game_16 rfl (by decide) (Nat.le_of_ble_eq_true rfl) (Nat.le_of_ble_eq_true rfl) (WrI.thr e1 (by decide) hC'))⟩
  · obtain ⟨k, v, g1, e1, hC, ⟨e2, e3⟩ | ⟨i, hi, e2, e3⟩⟩ := hq
    · cases e3
      subst e1
      refine Jx_i2l (nx := 7) dL_game_6 rfl ?_
      refine Jxt_82 (nx := 8) dL_game_7 rfl ?_
      refine Jx_goto (nx := 17) dL_game_8 (by decide) ?_
      refine Jx_iconst (nx := 18) (v := 0) (by decide) dL_game_17 rfl ?_
      exact Jxrz dL_game_18 rfl (by decide) (Nat.le_of_ble_eq_true rfl) (Nat.le_of_ble_eq_true rfl) ⟨0, _, rfl, rfl, v, g1, _, rfl, fun _ => rfl, e2 ▸ hC⟩
    · cases e3
abbrev mL_goals : MI := (yL_goals, cL_goals, 3, some .int)
abbrev hL_goals : List (Nat × Nat × Nat × Nat) := [(0, 8, 11, 13)]
set_option maxRecDepth 100000 in
set_option maxHeartbeats 4000000 in
theorem cw_goals {g : GS}  {C : Int32 → Int32 → GS → Prop} (hc : Ct mX11_goals (rm 40 4 457) [.ref 0] (Wd g) (PLi [x_iae] C)) : CtX hL_goals mL_goals (rm 41 4 457) [.ref 0, .ref 82] (Wd g) (WrI C) := by
  refine CtX.of (by decide +kernel) (Nat.le_of_ble_eq_true rfl) ?_
  show Jx _ _ _ _ _ 0 [some (.ref 0), some (.ref 82), none] [] _ 0 0
  refine Jx_aload_n (nx := 1) dL_goals_0 rfl rfl ?_
  refine Jx_iconst (nx := 2) (v := 0) (by decide) dL_goals_1 rfl ?_
  refine Jx_aload_n (nx := 3) dL_goals_2 rfl rfl ?_
  refine Jx_callV (As := []) (nx := 6) dL_goals_3 rfl ml_X11_goals lk_L_17 iv_X11_goals rfl rfl rfl ⟨(Nat.le_of_ble_eq_true rfl), (Nat.le_of_ble_eq_true rfl)⟩ (Nat.le_of_ble_eq_true rfl) ⟨(Nat.le_of_ble_eq_true rfl), (Nat.le_of_ble_eq_true rfl)⟩ hc (fun E' es' hq => ?_) (fun v' es' hq => ?_)
  · obtain ⟨k, v, g1, e1, hC, ⟨-, e2⟩ | ⟨i, hi, e2, e3⟩⟩ := hq
    · cases e2
    · have h01 : i = 0 := by have : i < 1 := hi; omega
      rcases h01 with rfl
      · cases e3
        have hC' : C 1 v g1 := by rw [e2] at hC; exact hC
        exact ⟨[], _, _, x_iae, 2, 12, rfl, fun z hz => (by cases hz), rfl, (by decide), cw_13, ca_iae, Or.inl ⟨2, rfl, dL_goals_11, rfl⟩, (by decide), Jx_iconst (nx := 13) (v := 1) (by decide) dL_goals_12 rfl (Jxrz dL_goals_13 rfl (by decide) (Nat.le_of_ble_eq_true rfl) (Nat.le_of_ble_eq_true rfl) (WrI.thr e1 (by decide) hC'))⟩
  · obtain ⟨k, v, g1, e1, hC, ⟨e2, e3⟩ | ⟨i, hi, e2, e3⟩⟩ := hq
    · cases e3
      subst e1
      refine Jx_i2l (nx := 7) dL_goals_6 rfl ?_
      refine Jxt_82 (nx := 8) dL_goals_7 rfl ?_
      refine Jx_goto (nx := 14) dL_goals_8 (by decide) ?_
      refine Jx_iconst (nx := 15) (v := 0) (by decide) dL_goals_14 rfl ?_
      exact Jxrz dL_goals_15 rfl (by decide) (Nat.le_of_ble_eq_true rfl) (Nat.le_of_ble_eq_true rfl) ⟨0, _, rfl, rfl, v, g1, _, rfl, fun _ => rfl, e2 ▸ hC⟩
    · cases e3
abbrev mL_rule : MI := (yL_rule, cL_rule, 3, some .int)
abbrev hL_rule : List (Nat × Nat × Nat × Nat) := [(0, 8, 11, 13), (0, 8, 14, 15)]
set_option maxRecDepth 100000 in
set_option maxHeartbeats 4000000 in
theorem cw_rule {g : GS}  {C : Int32 → Int32 → GS → Prop} (hc : Ct mX11_rule (rm 40 5 463) [.ref 0] (Wd g) (PLi [x_iae, x_uoe] C)) : CtX hL_rule mL_rule (rm 41 5 463) [.ref 0, .ref 82] (Wd g) (WrI C) := by
  refine CtX.of (by decide +kernel) (Nat.le_of_ble_eq_true rfl) ?_
  show Jx _ _ _ _ _ 0 [some (.ref 0), some (.ref 82), none] [] _ 0 0
  refine Jx_aload_n (nx := 1) dL_rule_0 rfl rfl ?_
  refine Jx_iconst (nx := 2) (v := 0) (by decide) dL_rule_1 rfl ?_
  refine Jx_aload_n (nx := 3) dL_rule_2 rfl rfl ?_
  refine Jx_callV (As := []) (nx := 6) dL_rule_3 rfl ml_X11_rule lk_L_20 iv_X11_rule rfl rfl rfl ⟨(Nat.le_of_ble_eq_true rfl), (Nat.le_of_ble_eq_true rfl)⟩ (Nat.le_of_ble_eq_true rfl) ⟨(Nat.le_of_ble_eq_true rfl), (Nat.le_of_ble_eq_true rfl)⟩ hc (fun E' es' hq => ?_) (fun v' es' hq => ?_)
  · obtain ⟨k, v, g1, e1, hC, ⟨-, e2⟩ | ⟨i, hi, e2, e3⟩⟩ := hq
    · cases e2
    · have h01 : i = 0 ∨ i = 1 := by have : i < 2 := hi; omega
      rcases h01 with rfl | rfl
      · cases e3
        have hC' : C 1 v g1 := by rw [e2] at hC; exact hC
        exact ⟨[], _, _, x_iae, 2, 12, rfl, fun z hz => (by cases hz), rfl, (by decide), cw_13, ca_iae, Or.inl ⟨2, rfl, dL_rule_11, rfl⟩, (by decide), Jx_iconst (nx := 13) (v := 1) (by decide) dL_rule_12 rfl (Jxrz dL_rule_13 rfl (by decide) (Nat.le_of_ble_eq_true rfl) (Nat.le_of_ble_eq_true rfl) (WrI.thr e1 (by decide) hC'))⟩
      · cases e3
        have hC' : C 2 v g1 := by rw [e2] at hC; exact hC
        exact ⟨[_], _, _, x_uoe, 2, 15, rfl, fun z hz => (by cases hz with | head => exact Or.inr ⟨by decide, x_iae, cw_13, by decide⟩ | tail _ hz => (cases hz)), rfl, (by decide), cw_15, ca_uoe, Or.inl ⟨2, rfl, dL_rule_14, rfl⟩, (by decide), Jx_iconst (nx := 16) (v := 2) (by decide) dL_rule_15 rfl (Jxrz dL_rule_16 rfl (by decide) (Nat.le_of_ble_eq_true rfl) (Nat.le_of_ble_eq_true rfl) (WrI.thr e1 (by decide) hC'))⟩
  · obtain ⟨k, v, g1, e1, hC, ⟨e2, e3⟩ | ⟨i, hi, e2, e3⟩⟩ := hq
    · cases e3
      subst e1
      refine Jx_i2l (nx := 7) dL_rule_6 rfl ?_
      refine Jxt_82 (nx := 8) dL_rule_7 rfl ?_
      refine Jx_goto (nx := 17) dL_rule_8 (by decide) ?_
      refine Jx_iconst (nx := 18) (v := 0) (by decide) dL_rule_17 rfl ?_
      exact Jxrz dL_rule_18 rfl (by decide) (Nat.le_of_ble_eq_true rfl) (Nat.le_of_ble_eq_true rfl) ⟨0, _, rfl, rfl, v, g1, _, rfl, fun _ => rfl, e2 ▸ hC⟩
    · cases e3
