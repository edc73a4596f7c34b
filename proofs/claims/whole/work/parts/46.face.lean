
/-! the face: what it asks for -/
def fLt (a b : Int32) : Bool := if b ≤ a then false else true
def fWi (n l : Int32) : Bool := if n < 0 then false else if l < n then false else true
def fSt (s : Int32) : Bool := if s < 0 then false else if 32 ≤ s then false else true
def fZo (s : Int32) : Bool := if s < 0 then false else if 8 ≤ s then false else true
def fSo (g : GS) (s : Int32) : Bool := if s < 0 then false else if gF g 20 11 ≤ s then false else true
def fBa (j b : Int32) : Bool := if ¬ j = 2 then true else fSt b
def fJu (g : GS) (j : Int32) : Bool := if j < 0 then false else if 5 + gF g 20 10 ≤ j then false else true
def fFo (g : GS) (s z : Int32) : Bool := fSo g s && fZo z
theorem J.topi {M : MI} {R : Room} {Q : Res → List ME → Prop} {n0 pc : Nat} {L : List (Option Value)} {rest : List Value} {es : List ME} {k ks : Nat} {x : Int32} (y : Int32) (e : x = y) (h : J M R Q n0 pc L (.int y :: rest) es k ks) : J M R Q n0 pc L (.int x :: rest) es k ks := by rw [e]; exact h

set_option maxRecDepth 100000 in
set_option maxHeartbeats 4000000 in
theorem ct_within (g : GS) (n l : Int32) : Ct mX11_within (rm 0 0 0) [.int n, .int l] (Wd g) (RR (.inl (some (.int (bI (fWi n l))))) g) := by
  refine Ct.of (by decide +kernel) (Nat.le_of_ble_eq_true rfl) ?_
  show J _ _ _ _ 0 [some (.int n), some (.int l)] [] _ 0 0
  refine J_iload_n (nx := 1) dX11_within_0 rfl rfl ?_
  refine J_if_lt (nx := 4) (tgt := 13) dX11_within_1 rfl (by decide) (fun c_1 => ?_) (fun c_1 => ?_)
  · refine J_iconst (nx := 14) (i := 0) (v := 0) (by decide) dX11_within_13 rfl ?_
    exact Jrz dX11_within_14 rfl (by decide) (Nat.zero_le _) (Nat.zero_le _) (RR.i (show _ = bI (fWi n l) from by unfold fWi; first | (rw [if_pos c_1]; rfl) | (rw [if_neg c_1, if_pos c_6]; rfl) | (rw [if_neg c_1, if_neg c_6]; rfl)) rfl)
  · refine J_iload_n (nx := 5) dX11_within_4 rfl rfl ?_
    refine J_iload_n (nx := 6) dX11_within_5 rfl rfl ?_
    refine J_icmp_gt (nx := 9) (tgt := 13) dX11_within_6 rfl (by decide) (fun c_6 => ?_) (fun c_6 => ?_)
    · refine J_iconst (nx := 14) (i := 0) (v := 0) (by decide) dX11_within_13 rfl ?_
      exact Jrz dX11_within_14 rfl (by decide) (Nat.zero_le _) (Nat.zero_le _) (RR.i (show _ = bI (fWi n l) from by unfold fWi; first | (rw [if_pos c_1]; rfl) | (rw [if_neg c_1, if_pos c_6]; rfl) | (rw [if_neg c_1, if_neg c_6]; rfl)) rfl)
    · refine J_iconst (nx := 10) (i := 1) (v := 1) (by decide) dX11_within_9 rfl ?_
      refine J_goto (nx := 14) dX11_within_10 (by decide) ?_
      exact Jrz dX11_within_14 rfl (by decide) (Nat.zero_le _) (Nat.zero_le _) (RR.i (show _ = bI (fWi n l) from by unfold fWi; first | (rw [if_pos c_1]; rfl) | (rw [if_neg c_1, if_pos c_6]; rfl) | (rw [if_neg c_1, if_neg c_6]; rfl)) rfl)

set_option maxRecDepth 100000 in
set_option maxHeartbeats 4000000 in
theorem ct_isState (g : GS) (s : Int32) : Ct mX11_isState (rm 0 0 0) [.int s] (Wd g) (RR (.inl (some (.int (bI (fSt s))))) g) := by
  refine Ct.of (by decide +kernel) (Nat.le_of_ble_eq_true rfl) ?_
  show J _ _ _ _ 0 [some (.int s)] [] _ 0 0
  refine J_iload_n (nx := 1) dX11_isState_0 rfl rfl ?_
  refine J_if_lt (nx := 4) (tgt := 14) dX11_isState_1 rfl (by decide) (fun c_1 => ?_) (fun c_1 => ?_)
  · refine J_iconst (nx := 15) (i := 0) (v := 0) (by decide) dX11_isState_14 rfl ?_
    exact Jrz dX11_isState_15 rfl (by decide) (Nat.zero_le _) (Nat.zero_le _) (RR.i (show _ = bI (fSt s) from by unfold fSt; first | (rw [if_pos c_1]; rfl) | (rw [if_neg c_1, if_pos c_7]; rfl) | (rw [if_neg c_1, if_neg c_7]; rfl)) rfl)
  · refine J_iload_n (nx := 5) dX11_isState_4 rfl rfl ?_
    refine J_bipush (nx := 7) (i := 32) (v := 32) (by decide) dX11_isState_5 rfl ?_
    refine J_icmp_ge (nx := 10) (tgt := 14) dX11_isState_7 rfl (by decide) (fun c_7 => ?_) (fun c_7 => ?_)
    · refine J_iconst (nx := 15) (i := 0) (v := 0) (by decide) dX11_isState_14 rfl ?_
      exact Jrz dX11_isState_15 rfl (by decide) (Nat.zero_le _) (Nat.zero_le _) (RR.i (show _ = bI (fSt s) from by unfold fSt; first | (rw [if_pos c_1]; rfl) | (rw [if_neg c_1, if_pos c_7]; rfl) | (rw [if_neg c_1, if_neg c_7]; rfl)) rfl)
    · refine J_iconst (nx := 11) (i := 1) (v := 1) (by decide) dX11_isState_10 rfl ?_
      refine J_goto (nx := 15) dX11_isState_11 (by decide) ?_
      exact Jrz dX11_isState_15 rfl (by decide) (Nat.zero_le _) (Nat.zero_le _) (RR.i (show _ = bI (fSt s) from by unfold fSt; first | (rw [if_pos c_1]; rfl) | (rw [if_neg c_1, if_pos c_7]; rfl) | (rw [if_neg c_1, if_neg c_7]; rfl)) rfl)

set_option maxRecDepth 100000 in
set_option maxHeartbeats 4000000 in
theorem ct_isZone (g : GS) (s : Int32) : Ct mX11_isZone (rm 0 0 0) [.int s] (Wd g) (RR (.inl (some (.int (bI (fZo s))))) g) := by
  refine Ct.of (by decide +kernel) (Nat.le_of_ble_eq_true rfl) ?_
  show J _ _ _ _ 0 [some (.int s)] [] _ 0 0
  refine J_iload_n (nx := 1) dX11_isZone_0 rfl rfl ?_
  refine J_if_lt (nx := 4) (tgt := 14) dX11_isZone_1 rfl (by decide) (fun c_1 => ?_) (fun c_1 => ?_)
  · refine J_iconst (nx := 15) (i := 0) (v := 0) (by decide) dX11_isZone_14 rfl ?_
    exact Jrz dX11_isZone_15 rfl (by decide) (Nat.zero_le _) (Nat.zero_le _) (RR.i (show _ = bI (fZo s) from by unfold fZo; first | (rw [if_pos c_1]; rfl) | (rw [if_neg c_1, if_pos c_7]; rfl) | (rw [if_neg c_1, if_neg c_7]; rfl)) rfl)
  · refine J_iload_n (nx := 5) dX11_isZone_4 rfl rfl ?_
    refine J_bipush (nx := 7) (i := 8) (v := 8) (by decide) dX11_isZone_5 rfl ?_
    refine J_icmp_ge (nx := 10) (tgt := 14) dX11_isZone_7 rfl (by decide) (fun c_7 => ?_) (fun c_7 => ?_)
    · refine J_iconst (nx := 15) (i := 0) (v := 0) (by decide) dX11_isZone_14 rfl ?_
      exact Jrz dX11_isZone_15 rfl (by decide) (Nat.zero_le _) (Nat.zero_le _) (RR.i (show _ = bI (fZo s) from by unfold fZo; first | (rw [if_pos c_1]; rfl) | (rw [if_neg c_1, if_pos c_7]; rfl) | (rw [if_neg c_1, if_neg c_7]; rfl)) rfl)
    · refine J_iconst (nx := 11) (i := 1) (v := 1) (by decide) dX11_isZone_10 rfl ?_
      refine J_goto (nx := 15) dX11_isZone_11 (by decide) ?_
      exact Jrz dX11_isZone_15 rfl (by decide) (Nat.zero_le _) (Nat.zero_le _) (RR.i (show _ = bI (fZo s) from by unfold fZo; first | (rw [if_pos c_1]; rfl) | (rw [if_neg c_1, if_pos c_7]; rfl) | (rw [if_neg c_1, if_neg c_7]; rfl)) rfl)

set_option maxRecDepth 100000 in
set_option maxHeartbeats 4000000 in
theorem ct_isSort (g : GS) (s : Int32) : Ct mX11_isSort (rm 0 0 0) [.ref 0, .int s] (Wd g) (RR (.inl (some (.int (bI (fSo g s))))) g) := by
  refine Ct.of (by decide +kernel) (Nat.le_of_ble_eq_true rfl) ?_
  show J _ _ _ _ 0 [some (.ref 0), some (.int s)] [] _ 0 0
  refine J_iload_n (nx := 1) dX11_isSort_0 rfl rfl ?_
  refine J_if_lt (nx := 4) (tgt := 19) dX11_isSort_1 rfl (by decide) (fun c_1 => ?_) (fun c_1 => ?_)
  · refine J_iconst (nx := 20) (i := 0) (v := 0) (by decide) dX11_isSort_19 rfl ?_
    exact Jrz dX11_isSort_20 rfl (by decide) (Nat.zero_le _) (Nat.zero_le _) (RR.i (show _ = bI (fSo g s) from by unfold fSo; first | (rw [if_pos c_1]; rfl) | (rw [if_neg c_1, if_pos c_12]; rfl) | (rw [if_neg c_1, if_neg c_12]; rfl)) rfl)
  · refine J_iload_n (nx := 5) dX11_isSort_4 rfl rfl ?_
    refine J_aload_n (nx := 6) dX11_isSort_5 rfl rfl ?_
    refine Jg_0_2 (nx := 9) dX11_isSort_6 rfl fl_X11_28 ?_
    refine Jg_20_11 (nx := 12) dX11_isSort_9 rfl fl_X11_179 ?_
    refine J_icmp_ge (nx := 15) (tgt := 19) dX11_isSort_12 rfl (by decide) (fun c_12 => ?_) (fun c_12 => ?_)
    · refine J_iconst (nx := 20) (i := 0) (v := 0) (by decide) dX11_isSort_19 rfl ?_
      exact Jrz dX11_isSort_20 rfl (by decide) (Nat.zero_le _) (Nat.zero_le _) (RR.i (show _ = bI (fSo g s) from by unfold fSo; first | (rw [if_pos c_1]; rfl) | (rw [if_neg c_1, if_pos c_12]; rfl) | (rw [if_neg c_1, if_neg c_12]; rfl)) rfl)
    · refine J_iconst (nx := 16) (i := 1) (v := 1) (by decide) dX11_isSort_15 rfl ?_
      refine J_goto (nx := 20) dX11_isSort_16 (by decide) ?_
      exact Jrz dX11_isSort_20 rfl (by decide) (Nat.zero_le _) (Nat.zero_le _) (RR.i (show _ = bI (fSo g s) from by unfold fSo; first | (rw [if_pos c_1]; rfl) | (rw [if_neg c_1, if_pos c_12]; rfl) | (rw [if_neg c_1, if_neg c_12]; rfl)) rfl)

set_option maxRecDepth 100000 in
set_option maxHeartbeats 4000000 in
theorem ct_isBarFor (g : GS) (j b : Int32) : Ct mX11_isBarFor (rm 1 0 0) [.int j, .int b] (Wd g) (RR (.inl (some (.int (bI (fBa j b))))) g) := by
  refine Ct.of (by decide +kernel) (Nat.le_of_ble_eq_true rfl) ?_
  show J _ _ _ _ 0 [some (.int j), some (.int b)] [] _ 0 0
  refine J_iload_n (nx := 1) dX11_isBarFor_0 rfl rfl ?_
  refine J_iconst (nx := 2) (i := 2) (v := 2) (by decide) dX11_isBarFor_1 rfl ?_
  refine J_icmp_ne (nx := 5) (tgt := 12) dX11_isBarFor_2 rfl (by decide) (fun c_2 => ?_) (fun c_2 => ?_)
  · refine J_iconst (nx := 13) (i := 1) (v := 1) (by decide) dX11_isBarFor_12 rfl ?_
    refine J_goto (nx := 17) dX11_isBarFor_13 (by decide) ?_
    exact Jrz dX11_isBarFor_17 rfl (by decide) (Nat.zero_le _) (Nat.zero_le _) (RR.i (show _ = bI (fBa j b) from by unfold fBa; first | (rw [if_pos c_2]; rfl) | (rw [if_neg (fun z => z c_2), bI_0.mp c_9]; rfl) | (rw [if_neg (fun z => z c_2), bI_n0.mp c_9]; rfl)) rfl)
  · refine J_iload_n (nx := 6) dX11_isBarFor_5 rfl rfl ?_
    refine JcS1 (R' := rm (0) 0 0) (nx := 9) dX11_isBarFor_6 rfl ml_X11_isState lk_X11_130 st_X11_isState ⟨(Nat.le_of_ble_eq_true rfl), (Nat.le_of_ble_eq_true rfl)⟩ (Nat.le_of_ble_eq_true rfl) ⟨rfl, rfl⟩ (ct_isState _ _) ?_
    refine J_if_eq (nx := 12) (tgt := 16) dX11_isBarFor_9 rfl (by decide) (fun c_9 => ?_) (fun c_9 => ?_)
    · refine J_iconst (nx := 17) (i := 0) (v := 0) (by decide) dX11_isBarFor_16 rfl ?_
      exact Jrz dX11_isBarFor_17 rfl (by decide) (Nat.zero_le _) (Nat.zero_le _) (RR.i (show _ = bI (fBa j b) from by unfold fBa; first | (rw [if_pos c_2]; rfl) | (rw [if_neg (fun z => z c_2), bI_0.mp c_9]; rfl) | (rw [if_neg (fun z => z c_2), bI_n0.mp c_9]; rfl)) rfl)
    · refine J_iconst (nx := 13) (i := 1) (v := 1) (by decide) dX11_isBarFor_12 rfl ?_
      refine J_goto (nx := 17) dX11_isBarFor_13 (by decide) ?_
      exact Jrz dX11_isBarFor_17 rfl (by decide) (Nat.zero_le _) (Nat.zero_le _) (RR.i (show _ = bI (fBa j b) from by unfold fBa; first | (rw [if_pos c_2]; rfl) | (rw [if_neg (fun z => z c_2), bI_0.mp c_9]; rfl) | (rw [if_neg (fun z => z c_2), bI_n0.mp c_9]; rfl)) rfl)

set_option maxRecDepth 100000 in
set_option maxHeartbeats 4000000 in
theorem ct_requirePlace (g : GS) (b : Bool) : Ct mX11_requirePlace (rm 0 1 6) [.int (bI b)] (Wd g) (RQ b x_iob g) := by
  refine Ct.of (by decide +kernel) (Nat.le_of_ble_eq_true rfl) ?_
  show J _ _ _ _ 0 [some (.int (bI b))] [] _ 0 0
  refine J_iload_n (nx := 1) dX11_requirePlace_0 rfl rfl ?_
  refine J_if_ne (nx := 4) (tgt := 12) dX11_requirePlace_1 rfl (by decide) (fun c_1 => ?_) (fun c_1 => ?_)
  · exact Jrv dX11_requirePlace_12 rfl (Nat.zero_le _) (Nat.zero_le _) (Or.inl ⟨bI_n0.mp c_1, rfl, rfl⟩)
  · exact J_throw0 xf_iob.1 xf_iob.2 xw_iob dX11_requirePlace_4 dX11_requirePlace_7 dX11_requirePlace_8 dX11_requirePlace_11 ⟨(Nat.le_of_ble_eq_true rfl), (Nat.le_of_ble_eq_true rfl)⟩ ⟨(Nat.le_of_ble_eq_true rfl), (Nat.le_of_ble_eq_true rfl)⟩ (Or.inr ⟨bI_0.mp c_1, rfl, rfl⟩)
set_option maxRecDepth 100000 in
set_option maxHeartbeats 4000000 in
theorem ct_requireNumber (g : GS) (b : Bool) : Ct mX11_requireNumber (rm 0 1 6) [.int (bI b)] (Wd g) (RQ b x_iae g) := by
  refine Ct.of (by decide +kernel) (Nat.le_of_ble_eq_true rfl) ?_
  show J _ _ _ _ 0 [some (.int (bI b))] [] _ 0 0
  refine J_iload_n (nx := 1) dX11_requireNumber_0 rfl rfl ?_
  refine J_if_ne (nx := 4) (tgt := 12) dX11_requireNumber_1 rfl (by decide) (fun c_1 => ?_) (fun c_1 => ?_)
  · exact Jrv dX11_requireNumber_12 rfl (Nat.zero_le _) (Nat.zero_le _) (Or.inl ⟨bI_n0.mp c_1, rfl, rfl⟩)
  · exact J_throw0 xf_iae.1 xf_iae.2 xw_iae dX11_requireNumber_4 dX11_requireNumber_7 dX11_requireNumber_8 dX11_requireNumber_11 ⟨(Nat.le_of_ble_eq_true rfl), (Nat.le_of_ble_eq_true rfl)⟩ ⟨(Nat.le_of_ble_eq_true rfl), (Nat.le_of_ble_eq_true rfl)⟩ (Or.inr ⟨bI_0.mp c_1, rfl, rfl⟩)
set_option maxRecDepth 100000 in
set_option maxHeartbeats 4000000 in
theorem ct_requireRoom (g : GS) (b : Bool) : Ct mX11_requireRoom (rm 0 1 6) [.int (bI b)] (Wd g) (RQ b x_uoe g) := by
  refine Ct.of (by decide +kernel) (Nat.le_of_ble_eq_true rfl) ?_
  show J _ _ _ _ 0 [some (.int (bI b))] [] _ 0 0
  refine J_iload_n (nx := 1) dX11_requireRoom_0 rfl rfl ?_
  refine J_if_ne (nx := 4) (tgt := 12) dX11_requireRoom_1 rfl (by decide) (fun c_1 => ?_) (fun c_1 => ?_)
  · exact Jrv dX11_requireRoom_12 rfl (Nat.zero_le _) (Nat.zero_le _) (Or.inl ⟨bI_n0.mp c_1, rfl, rfl⟩)
  · exact J_throw0 xf_uoe.1 xf_uoe.2 xw_uoe dX11_requireRoom_4 dX11_requireRoom_7 dX11_requireRoom_8 dX11_requireRoom_11 ⟨(Nat.le_of_ble_eq_true rfl), (Nat.le_of_ble_eq_true rfl)⟩ ⟨(Nat.le_of_ble_eq_true rfl), (Nat.le_of_ble_eq_true rfl)⟩ (Or.inr ⟨bI_0.mp c_1, rfl, rfl⟩)
set_option maxRecDepth 100000 in
set_option maxHeartbeats 4000000 in
theorem ct_requireWhat (g : GS) (n l : Int32) : Ct mX11_requireWhat (rm 1 1 6) [.int n, .int l] (Wd g) (RQ (fWi n l) x_nse g) := by
  refine Ct.of (by decide +kernel) (Nat.le_of_ble_eq_true rfl) ?_
  show J _ _ _ _ 0 [some (.int n), some (.int l)] [] _ 0 0
  refine J_iload_n (nx := 1) dX11_requireWhat_0 rfl rfl ?_
  refine J_iload_n (nx := 2) dX11_requireWhat_1 rfl rfl ?_
  refine JcS2 (R' := rm 0 0 0) (nx := 5) dX11_requireWhat_2 rfl ml_X11_within lk_X11_75 st_X11_within ⟨(Nat.le_of_ble_eq_true rfl), (Nat.le_of_ble_eq_true rfl)⟩ (Nat.le_of_ble_eq_true rfl) ⟨rfl, rfl⟩ (ct_within _ _ _) ?_
  refine J_if_ne (nx := 8) (tgt := 16) dX11_requireWhat_5 rfl (by decide) (fun c_1 => ?_) (fun c_1 => ?_)
  · exact Jrv dX11_requireWhat_16 rfl (Nat.zero_le _) (Nat.zero_le _) (Or.inl ⟨bI_n0.mp c_1, rfl, rfl⟩)
  · exact J_throw0 xf_nse.1 xf_nse.2 xw_nse dX11_requireWhat_8 dX11_requireWhat_11 dX11_requireWhat_12 dX11_requireWhat_15 ⟨(Nat.le_of_ble_eq_true rfl), (Nat.le_of_ble_eq_true rfl)⟩ ⟨(Nat.le_of_ble_eq_true rfl), (Nat.le_of_ble_eq_true rfl)⟩ (Or.inr ⟨bI_0.mp c_1, rfl, rfl⟩)

/-- RQ is FX of one -/
theorem RQ.of {b : Bool} {E : String} {g : GS} {r : Res} {es : List ME} (h : FX [(b, E)] (RR (.inl none) g) g r es) : RQ b E g r es := by
  rcases h with ⟨h1, h2, h3⟩ | ⟨h1, h2, h3⟩
  · exact Or.inr ⟨h1, h2, h3⟩
  · exact Or.inl ⟨h1, h2, h3⟩

set_option maxRecDepth 100000 in
set_option maxHeartbeats 4000000 in
theorem ct_requireJudge_ (g : GS) (j : Int32) : Ct mX11_requireJudge (rm 1 1 6) [.ref 0, .int j] (Wd g) (FX [(fJu g j, x_iob)] (RR (.inl none) g) g) := by
  refine Ct.of (by decide +kernel) (Nat.le_of_ble_eq_true rfl) ?_
  show J _ _ _ _ 0 [some (.ref 0), some (.int j)] [] _ 0 0
  refine J_iload_n (nx := 1) dX11_requireJudge_0 rfl rfl ?_
  refine J_if_lt (nx := 4) (tgt := 21) dX11_requireJudge_1 rfl (by decide) (fun c_1 => ?_) (fun c_1 => ?_)
  · refine J_iconst (nx := 22) (i := 0) (v := 0) (by decide) dX11_requireJudge_21 rfl ?_
    refine J.topi (bI (fJu g j)) (by unfold fJu; first | (rw [if_pos c_1]; rfl) | (rw [if_neg c_1, if_pos c_14]; rfl) | (rw [if_neg c_1, if_neg c_14]; rfl)) ?_
    refine JtKS1 (R' := rm (0) 1 6) (nx := 25) dX11_requireJudge_22 rfl ml_X11_requirePlace lk_X11_133 st_X11_requirePlace ⟨(Nat.le_of_ble_eq_true rfl), (Nat.le_of_ble_eq_true rfl)⟩ (Nat.le_of_ble_eq_true rfl) ⟨rfl, rfl⟩ ⟨(Nat.le_of_ble_eq_true rfl), (Nat.le_of_ble_eq_true rfl)⟩ (ct_requirePlace _ (fJu g j)) (fun t_22 => ?_)
    exact Jrv dX11_requireJudge_25 rfl (Nat.le_of_ble_eq_true rfl) (Nat.le_of_ble_eq_true rfl) ⟨rfl, rfl⟩
  · refine J_iload_n (nx := 5) dX11_requireJudge_4 rfl rfl ?_
    refine J_iconst (nx := 6) (i := 5) (v := 5) (by decide) dX11_requireJudge_5 rfl ?_
    refine J_aload_n (nx := 7) dX11_requireJudge_6 rfl rfl ?_
    refine Jg_0_2 (nx := 10) dX11_requireJudge_7 rfl fl_X11_28 ?_
    refine Jg_20_10 (nx := 13) dX11_requireJudge_10 rfl fl_X11_120 ?_
    refine J_iadd (nx := 14) dX11_requireJudge_13 rfl ?_
    refine J_icmp_ge (nx := 17) (tgt := 21) dX11_requireJudge_14 rfl (by decide) (fun c_14 => ?_) (fun c_14 => ?_)
    · refine J_iconst (nx := 22) (i := 0) (v := 0) (by decide) dX11_requireJudge_21 rfl ?_
      refine J.topi (bI (fJu g j)) (by unfold fJu; first | (rw [if_pos c_1]; rfl) | (rw [if_neg c_1, if_pos c_14]; rfl) | (rw [if_neg c_1, if_neg c_14]; rfl)) ?_
      refine JtKS1 (R' := rm (0) 1 6) (nx := 25) dX11_requireJudge_22 rfl ml_X11_requirePlace lk_X11_133 st_X11_requirePlace ⟨(Nat.le_of_ble_eq_true rfl), (Nat.le_of_ble_eq_true rfl)⟩ (Nat.le_of_ble_eq_true rfl) ⟨rfl, rfl⟩ ⟨(Nat.le_of_ble_eq_true rfl), (Nat.le_of_ble_eq_true rfl)⟩ (ct_requirePlace _ (fJu g j)) (fun t_22 => ?_)
      exact Jrv dX11_requireJudge_25 rfl (Nat.le_of_ble_eq_true rfl) (Nat.le_of_ble_eq_true rfl) ⟨rfl, rfl⟩
    · refine J_iconst (nx := 18) (i := 1) (v := 1) (by decide) dX11_requireJudge_17 rfl ?_
      refine J_goto (nx := 22) dX11_requireJudge_18 (by decide) ?_
      refine J.topi (bI (fJu g j)) (by unfold fJu; first | (rw [if_pos c_1]; rfl) | (rw [if_neg c_1, if_pos c_14]; rfl) | (rw [if_neg c_1, if_neg c_14]; rfl)) ?_
      refine JtKS1 (R' := rm (0) 1 6) (nx := 25) dX11_requireJudge_22 rfl ml_X11_requirePlace lk_X11_133 st_X11_requirePlace ⟨(Nat.le_of_ble_eq_true rfl), (Nat.le_of_ble_eq_true rfl)⟩ (Nat.le_of_ble_eq_true rfl) ⟨rfl, rfl⟩ ⟨(Nat.le_of_ble_eq_true rfl), (Nat.le_of_ble_eq_true rfl)⟩ (ct_requirePlace _ (fJu g j)) (fun t_22 => ?_)
      exact Jrv dX11_requireJudge_25 rfl (Nat.le_of_ble_eq_true rfl) (Nat.le_of_ble_eq_true rfl) ⟨rfl, rfl⟩

theorem ct_requireJudge (g : GS) (j : Int32) : Ct mX11_requireJudge (rm 1 1 6) [.ref 0, .int j] (Wd g) (RQ (fJu g j) x_iob g) := (ct_requireJudge_ g j).imp (fun _ _ q => RQ.of q)
set_option maxRecDepth 100000 in
set_option maxHeartbeats 4000000 in
theorem ct_requireFoul_ (g : GS) (s z : Int32) : Ct mX11_requireFoul (rm 1 1 6) [.ref 0, .int s, .int z] (Wd g) (FX [(fFo g s z, x_iob)] (RR (.inl none) g) g) := by
  refine Ct.of (by decide +kernel) (Nat.le_of_ble_eq_true rfl) ?_
  show J _ _ _ _ 0 [some (.ref 0), some (.int s), some (.int z)] [] _ 0 0
  refine J_aload_n (nx := 1) dX11_requireFoul_0 rfl rfl ?_
  refine J_iload_n (nx := 2) dX11_requireFoul_1 rfl rfl ?_
  refine JcKV1 (R' := rm (0) 0 0) (nx := 5) dX11_requireFoul_2 rfl ml_X11_isSort lk_X11_245 iv_X11_isSort rfl rfl ⟨(Nat.le_of_ble_eq_true rfl), (Nat.le_of_ble_eq_true rfl)⟩ (Nat.le_of_ble_eq_true rfl) ⟨rfl, rfl⟩ ⟨(Nat.le_of_ble_eq_true rfl), (Nat.le_of_ble_eq_true rfl)⟩ (ct_isSort _ _) ?_
  refine J_if_eq (nx := 8) (tgt := 19) dX11_requireFoul_5 rfl (by decide) (fun c_5 => ?_) (fun c_5 => ?_)
  · refine J_iconst (nx := 20) (i := 0) (v := 0) (by decide) dX11_requireFoul_19 rfl ?_
    refine J.topi (bI (fFo g s z)) (by unfold fFo; first | (rw [bI_0.mp c_5]; rfl) | (rw [bI_n0.mp c_5, bI_0.mp c_12]; rfl) | (rw [bI_n0.mp c_5, bI_n0.mp c_12]; rfl)) ?_
    refine JtKS1 (R' := rm (0) 1 6) (nx := 23) dX11_requireFoul_20 rfl ml_X11_requirePlace lk_X11_133 st_X11_requirePlace ⟨(Nat.le_of_ble_eq_true rfl), (Nat.le_of_ble_eq_true rfl)⟩ (Nat.le_of_ble_eq_true rfl) ⟨rfl, rfl⟩ ⟨(Nat.le_of_ble_eq_true rfl), (Nat.le_of_ble_eq_true rfl)⟩ (ct_requirePlace _ (fFo g s z)) (fun t_20 => ?_)
    exact Jrv dX11_requireFoul_23 rfl (Nat.le_of_ble_eq_true rfl) (Nat.le_of_ble_eq_true rfl) ⟨rfl, rfl⟩
  · refine J_iload_n (nx := 9) dX11_requireFoul_8 rfl rfl ?_
    refine JcKS1 (R' := rm (0) 0 0) (nx := 12) dX11_requireFoul_9 rfl ml_X11_isZone lk_X11_148 st_X11_isZone ⟨(Nat.le_of_ble_eq_true rfl), (Nat.le_of_ble_eq_true rfl)⟩ (Nat.le_of_ble_eq_true rfl) ⟨rfl, rfl⟩ ⟨(Nat.le_of_ble_eq_true rfl), (Nat.le_of_ble_eq_true rfl)⟩ (ct_isZone _ _) ?_
    refine J_if_eq (nx := 15) (tgt := 19) dX11_requireFoul_12 rfl (by decide) (fun c_12 => ?_) (fun c_12 => ?_)
    · refine J_iconst (nx := 20) (i := 0) (v := 0) (by decide) dX11_requireFoul_19 rfl ?_
      refine J.topi (bI (fFo g s z)) (by unfold fFo; first | (rw [bI_0.mp c_5]; rfl) | (rw [bI_n0.mp c_5, bI_0.mp c_12]; rfl) | (rw [bI_n0.mp c_5, bI_n0.mp c_12]; rfl)) ?_
      refine JtKS1 (R' := rm (0) 1 6) (nx := 23) dX11_requireFoul_20 rfl ml_X11_requirePlace lk_X11_133 st_X11_requirePlace ⟨(Nat.le_of_ble_eq_true rfl), (Nat.le_of_ble_eq_true rfl)⟩ (Nat.le_of_ble_eq_true rfl) ⟨rfl, rfl⟩ ⟨(Nat.le_of_ble_eq_true rfl), (Nat.le_of_ble_eq_true rfl)⟩ (ct_requirePlace _ (fFo g s z)) (fun t_20 => ?_)
      exact Jrv dX11_requireFoul_23 rfl (Nat.le_of_ble_eq_true rfl) (Nat.le_of_ble_eq_true rfl) ⟨rfl, rfl⟩
    · refine J_iconst (nx := 16) (i := 1) (v := 1) (by decide) dX11_requireFoul_15 rfl ?_
      refine J_goto (nx := 20) dX11_requireFoul_16 (by decide) ?_
      refine J.topi (bI (fFo g s z)) (by unfold fFo; first | (rw [bI_0.mp c_5]; rfl) | (rw [bI_n0.mp c_5, bI_0.mp c_12]; rfl) | (rw [bI_n0.mp c_5, bI_n0.mp c_12]; rfl)) ?_
      refine JtKS1 (R' := rm (0) 1 6) (nx := 23) dX11_requireFoul_20 rfl ml_X11_requirePlace lk_X11_133 st_X11_requirePlace ⟨(Nat.le_of_ble_eq_true rfl), (Nat.le_of_ble_eq_true rfl)⟩ (Nat.le_of_ble_eq_true rfl) ⟨rfl, rfl⟩ ⟨(Nat.le_of_ble_eq_true rfl), (Nat.le_of_ble_eq_true rfl)⟩ (ct_requirePlace _ (fFo g s z)) (fun t_20 => ?_)
      exact Jrv dX11_requireFoul_23 rfl (Nat.le_of_ble_eq_true rfl) (Nat.le_of_ble_eq_true rfl) ⟨rfl, rfl⟩

theorem ct_requireFoul (g : GS) (s z : Int32) : Ct mX11_requireFoul (rm 1 1 6) [.ref 0, .int s, .int z] (Wd g) (RQ (fFo g s z) x_iob g) := (ct_requireFoul_ g s z).imp (fun _ _ q => RQ.of q)
def feG (a b c d e : Int32) (g : GS) : GS := adG e (adG d (adG c (adG b (adG a g))))
set_option maxRecDepth 100000 in
set_option maxHeartbeats 4000000 in
theorem ct_feed (g : GS) (a b c d e : Int32) : Ct mX11_feed (rm 3 0 0) [.ref 0, .int a, .int b, .int c, .int d, .int e] (Wd g) (RR (.inl (some (.int (if gF g 1 1 + 20 ≤ 400 then gF (feG a b c d e g) 1 1 else -1)))) (if gF g 1 1 + 20 ≤ 400 then feG a b c d e g else g)) := by
  refine Ct.of (by decide +kernel) (Nat.le_of_ble_eq_true rfl) ?_
  show J _ _ _ _ 0 [some (.ref 0), some (.int a), some (.int b), some (.int c), some (.int d), some (.int e)] [] _ 0 0
  refine J_aload_n (nx := 1) dX11_feed_0 rfl rfl ?_
  refine Jg_0_0 (nx := 4) dX11_feed_1 rfl fl_X11_10 ?_
  refine Jg_1_1 (nx := 7) dX11_feed_4 rfl fl_X11_67 ?_
  refine J_bipush (nx := 9) (i := 20) (v := 20) (by decide) dX11_feed_7 rfl ?_
  refine J_iadd (nx := 10) dX11_feed_9 rfl ?_
  refine J_sipush (nx := 13) (i := 400) (v := 400) (by decide) dX11_feed_10 rfl ?_
  refine J_icmp_le (nx := 16) (tgt := 18) dX11_feed_13 rfl (by decide) (fun c_13 => ?_) (fun c_13 => ?_)
  · refine J_aload_n (nx := 19) dX11_feed_18 rfl rfl ?_
    refine Jg_0_0 (nx := 22) dX11_feed_19 rfl fl_X11_10 ?_
    refine J_iload_n (nx := 23) dX11_feed_22 rfl rfl ?_
    refine JcV1 (R' := rm (1) 0 0) (nx := 26) dX11_feed_23 rfl ml_X7_add lk_X11_71 iv_X7_add rfl rfl ⟨(Nat.le_of_ble_eq_true rfl), (Nat.le_of_ble_eq_true rfl)⟩ (Nat.le_of_ble_eq_true rfl) ⟨rfl, rfl⟩ (ct_add _ _) ?_
    refine J.gen (fun g_23 hg_23 => ?_)
    refine J_aload_n (nx := 27) dX11_feed_26 rfl rfl ?_
    refine Jg_0_0 (nx := 30) dX11_feed_27 rfl fl_X11_10 ?_
    refine J_iload_n (nx := 31) dX11_feed_30 rfl rfl ?_
    refine JcV1 (R' := rm (1) 0 0) (nx := 34) dX11_feed_31 rfl ml_X7_add lk_X11_71 iv_X7_add rfl rfl ⟨(Nat.le_of_ble_eq_true rfl), (Nat.le_of_ble_eq_true rfl)⟩ (Nat.le_of_ble_eq_true rfl) ⟨rfl, rfl⟩ (ct_add _ _) ?_
    refine J.gen (fun g_31 hg_31 => ?_)
    refine J_aload_n (nx := 35) dX11_feed_34 rfl rfl ?_
    refine Jg_0_0 (nx := 38) dX11_feed_35 rfl fl_X11_10 ?_
    refine J_iload_n (nx := 39) dX11_feed_38 rfl rfl ?_
    refine JcV1 (R' := rm (1) 0 0) (nx := 42) dX11_feed_39 rfl ml_X7_add lk_X11_71 iv_X7_add rfl rfl ⟨(Nat.le_of_ble_eq_true rfl), (Nat.le_of_ble_eq_true rfl)⟩ (Nat.le_of_ble_eq_true rfl) ⟨rfl, rfl⟩ (ct_add _ _) ?_
    refine J.gen (fun g_39 hg_39 => ?_)
    refine J_aload_n (nx := 43) dX11_feed_42 rfl rfl ?_
    refine Jg_0_0 (nx := 46) dX11_feed_43 rfl fl_X11_10 ?_
    refine J_iload (nx := 48) dX11_feed_46 rfl rfl ?_
    refine JcV1 (R' := rm (1) 0 0) (nx := 51) dX11_feed_48 rfl ml_X7_add lk_X11_71 iv_X7_add rfl rfl ⟨(Nat.le_of_ble_eq_true rfl), (Nat.le_of_ble_eq_true rfl)⟩ (Nat.le_of_ble_eq_true rfl) ⟨rfl, rfl⟩ (ct_add _ _) ?_
    refine J.gen (fun g_48 hg_48 => ?_)
    refine J_aload_n (nx := 52) dX11_feed_51 rfl rfl ?_
    refine Jg_0_0 (nx := 55) dX11_feed_52 rfl fl_X11_10 ?_
    refine J_iload (nx := 57) dX11_feed_55 rfl rfl ?_
    refine JcV1 (R' := rm (1) 0 0) (nx := 60) dX11_feed_57 rfl ml_X7_add lk_X11_71 iv_X7_add rfl rfl ⟨(Nat.le_of_ble_eq_true rfl), (Nat.le_of_ble_eq_true rfl)⟩ (Nat.le_of_ble_eq_true rfl) ⟨rfl, rfl⟩ (ct_add _ _) ?_
    refine J.gen (fun g_57 hg_57 => ?_)
    refine J_aload_n (nx := 61) dX11_feed_60 rfl rfl ?_
    refine Jg_0_0 (nx := 64) dX11_feed_61 rfl fl_X11_10 ?_
    refine Jg_1_1 (nx := 67) dX11_feed_64 rfl fl_X11_67 ?_
    subst hg_57
    subst hg_48
    subst hg_39
    subst hg_31
    subst hg_23
    exact Jri dX11_feed_67 rfl (Nat.zero_le _) (Nat.zero_le _) ⟨by rw [if_pos c_13]; rfl, by rw [if_pos c_13]; rfl⟩
  · refine J_iconst (nx := 17) (i := -1) (v := -1) (by decide) dX11_feed_16 rfl ?_
    exact Jri dX11_feed_17 rfl (Nat.zero_le _) (Nat.zero_le _) ⟨by rw [if_neg c_13], by rw [if_neg c_13]⟩

set_option maxRecDepth 100000 in
set_option maxHeartbeats 4000000 in
theorem ct_end (g : GS) (n : Int32) : Ct mX11_end (rm 2 0 0) [.ref 0, .int n] (Wd g) (RR (.inl (some (.int (bI (fWi n (gF g 1 1)))))) (bif fWi n (gF g 1 1) then sF g 1 1 n else g)) := by
  refine Ct.of (by decide +kernel) (Nat.le_of_ble_eq_true rfl) ?_
  show J _ _ _ _ 0 [some (.ref 0), some (.int n)] [] _ 0 0
  refine J_iload_n (nx := 1) dX11_end_0 rfl rfl ?_
  refine J_aload_n (nx := 2) dX11_end_1 rfl rfl ?_
  refine Jg_0_0 (nx := 5) dX11_end_2 rfl fl_X11_10 ?_
  refine Jg_1_1 (nx := 8) dX11_end_5 rfl fl_X11_67 ?_
  refine JcS2 (R' := rm (0) 0 0) (nx := 11) dX11_end_8 rfl ml_X11_within lk_X11_75 st_X11_within ⟨(Nat.le_of_ble_eq_true rfl), (Nat.le_of_ble_eq_true rfl)⟩ (Nat.le_of_ble_eq_true rfl) ⟨rfl, rfl⟩ (ct_within _ _ _) ?_
  refine J_if_ne (nx := 14) (tgt := 16) dX11_end_11 rfl (by decide) (fun c_11 => ?_) (fun c_11 => ?_)
  · refine J_aload_n (nx := 17) dX11_end_16 rfl rfl ?_
    refine Jg_0_0 (nx := 20) dX11_end_17 rfl fl_X11_10 ?_
    refine J_iload_n (nx := 21) dX11_end_20 rfl rfl ?_
    refine Jp_1_1 (nx := 24) dX11_end_21 rfl fl_X11_67 ?_
    refine J_iconst (nx := 25) (i := 1) (v := 1) (by decide) dX11_end_24 rfl ?_
    exact Jrz dX11_end_25 rfl (by decide) (Nat.zero_le _) (Nat.zero_le _) ⟨by rw [bI_n0.mp c_11]; rfl, by rw [bI_n0.mp c_11]; rfl⟩
  · refine J_iconst (nx := 15) (i := 0) (v := 0) (by decide) dX11_end_14 rfl ?_
    exact Jrz dX11_end_15 rfl (by decide) (Nat.zero_le _) (Nat.zero_le _) ⟨by rw [bI_0.mp c_11]; rfl, by rw [bI_0.mp c_11]; rfl⟩

set_option maxRecDepth 100000 in
set_option maxHeartbeats 4000000 in
theorem ct_fault (g : GS) : Ct mX11_fault (rm 1 0 0) [.ref 0] (Wd g) (RR (.inl (some (.int (gF g 7 7)))) g) := by
  refine Ct.of (by decide +kernel) (Nat.le_of_ble_eq_true rfl) ?_
  show J _ _ _ _ 0 [some (.ref 0)] [] _ 0 0
  refine J_aload_n (nx := 1) dX11_fault_0 rfl rfl ?_
  refine Jg_0_1 (nx := 4) dX11_fault_1 rfl fl_X11_21 ?_
  refine Jg_7_7 (nx := 7) dX11_fault_4 rfl fl_X11_127 ?_
  exact Jri dX11_fault_7 rfl (Nat.zero_le _) (Nat.zero_le _) ⟨rfl, rfl⟩

set_option maxRecDepth 100000 in
set_option maxHeartbeats 4000000 in
theorem ct_follows (g : GS) (s x : Int32) : Ct mX11_follows (rm 10 2 12) [.ref 0, .int s, .int x] (Wd g) (FX [(fSt s, x_iob), (fWi x 34, x_nse)] (RR (.inl (some (.int (if ¬ x = 34 then bk_ch g 20 s x else 100 - bk_ct g 20 s)))) g) g) := by
  refine Ct.of (by decide +kernel) (Nat.le_of_ble_eq_true rfl) ?_
  show J _ _ _ _ 0 [some (.ref 0), some (.int s), some (.int x)] [] _ 0 0
  refine J_iload_n (nx := 1) dX11_follows_0 rfl rfl ?_
  refine JcKS1 (R' := rm (0) 0 0) (nx := 4) dX11_follows_1 rfl ml_X11_isState lk_X11_130 st_X11_isState ⟨(Nat.le_of_ble_eq_true rfl), (Nat.le_of_ble_eq_true rfl)⟩ (Nat.le_of_ble_eq_true rfl) ⟨rfl, rfl⟩ ⟨(Nat.le_of_ble_eq_true rfl), (Nat.le_of_ble_eq_true rfl)⟩ (ct_isState _ _) ?_
  refine JtKS1 (R' := rm (0) 1 6) (nx := 7) dX11_follows_4 rfl ml_X11_requirePlace lk_X11_133 st_X11_requirePlace ⟨(Nat.le_of_ble_eq_true rfl), (Nat.le_of_ble_eq_true rfl)⟩ (Nat.le_of_ble_eq_true rfl) ⟨rfl, rfl⟩ ⟨(Nat.le_of_ble_eq_true rfl), (Nat.le_of_ble_eq_true rfl)⟩ (ct_requirePlace _ (fSt s)) (fun t_4 => ?_)
  refine J_iload_n (nx := 8) dX11_follows_7 rfl rfl ?_
  refine J_bipush (nx := 10) (i := 34) (v := 34) (by decide) dX11_follows_8 rfl ?_
  refine JtKS2 (R' := rm (1) 1 6) (nx := 13) dX11_follows_10 rfl ml_X11_requireWhat lk_X11_136 st_X11_requireWhat ⟨(Nat.le_of_ble_eq_true rfl), (Nat.le_of_ble_eq_true rfl)⟩ (Nat.le_of_ble_eq_true rfl) ⟨rfl, rfl⟩ ⟨(Nat.le_of_ble_eq_true rfl), (Nat.le_of_ble_eq_true rfl)⟩ (ct_requireWhat _ _ _) (fun t_10 => ?_)
  refine J_iload_n (nx := 14) dX11_follows_13 rfl rfl ?_
  refine J_bipush (nx := 16) (i := 34) (v := 34) (by decide) dX11_follows_14 rfl ?_
  refine J_icmp_ne (nx := 19) (tgt := 33) dX11_follows_16 rfl (by decide) (fun c_16 => ?_) (fun c_16 => ?_)
  · refine J_aload_n (nx := 34) dX11_follows_33 rfl rfl ?_
    refine Jg_0_2 (nx := 37) dX11_follows_34 rfl fl_X11_28 ?_
    refine J_iload_n (nx := 38) dX11_follows_37 rfl rfl ?_
    refine J_iload_n (nx := 39) dX11_follows_38 rfl rfl ?_
    refine JcKV2 (R' := rm (1) 0 0) (nx := 42) dX11_follows_39 rfl ml_X1_chance lk_X11_144 iv_X1_chance rfl rfl ⟨(Nat.le_of_ble_eq_true rfl), (Nat.le_of_ble_eq_true rfl)⟩ (Nat.le_of_ble_eq_true rfl) ⟨rfl, rfl⟩ ⟨(Nat.le_of_ble_eq_true rfl), (Nat.le_of_ble_eq_true rfl)⟩ (ct_X1_chance_20 _ _ _) ?_
    exact Jri dX11_follows_42 rfl (Nat.le_of_ble_eq_true rfl) (Nat.le_of_ble_eq_true rfl) (RR.i (by first | rw [if_pos c_16] | rw [if_neg (fun z => z c_16)]) rfl)
  · refine J_bipush (nx := 21) (i := 100) (v := 100) (by decide) dX11_follows_19 rfl ?_
    refine J_aload_n (nx := 22) dX11_follows_21 rfl rfl ?_
    refine Jg_0_2 (nx := 25) dX11_follows_22 rfl fl_X11_28 ?_
    refine J_iload_n (nx := 26) dX11_follows_25 rfl rfl ?_
    refine JcKV1 (R' := rm (2) 0 0) (nx := 29) dX11_follows_26 rfl ml_X1_chancesTogether lk_X11_140 iv_X1_chancesTogether rfl rfl ⟨(Nat.le_of_ble_eq_true rfl), (Nat.le_of_ble_eq_true rfl)⟩ (Nat.le_of_ble_eq_true rfl) ⟨rfl, rfl⟩ ⟨(Nat.le_of_ble_eq_true rfl), (Nat.le_of_ble_eq_true rfl)⟩ (ct_X1_chancesTogether_20 _ _) ?_
    refine J_isub (nx := 30) dX11_follows_29 rfl ?_
    refine J_goto (nx := 42) dX11_follows_30 (by decide) ?_
    exact Jri dX11_follows_42 rfl (Nat.le_of_ble_eq_true rfl) (Nat.le_of_ble_eq_true rfl) (RR.i (by first | rw [if_pos c_16] | rw [if_neg (fun z => z c_16)]) rfl)

set_option maxRecDepth 100000 in
set_option maxHeartbeats 4000000 in
theorem ct_kick (g : GS) (z : Int32) : Ct mX11_kick (rm 10 1 6) [.ref 0, .int z] (Wd g) (FX [(fZo z, x_iob)] (RR (.inl (some (.int (rAt 8 (gA g 22) z)))) g) g) := by
  refine Ct.of (by decide +kernel) (Nat.le_of_ble_eq_true rfl) ?_
  show J _ _ _ _ 0 [some (.ref 0), some (.int z)] [] _ 0 0
  refine J_iload_n (nx := 1) dX11_kick_0 rfl rfl ?_
  refine JcKS1 (R' := rm (0) 0 0) (nx := 4) dX11_kick_1 rfl ml_X11_isZone lk_X11_148 st_X11_isZone ⟨(Nat.le_of_ble_eq_true rfl), (Nat.le_of_ble_eq_true rfl)⟩ (Nat.le_of_ble_eq_true rfl) ⟨rfl, rfl⟩ ⟨(Nat.le_of_ble_eq_true rfl), (Nat.le_of_ble_eq_true rfl)⟩ (ct_isZone _ _) ?_
  refine JtKS1 (R' := rm (0) 1 6) (nx := 7) dX11_kick_4 rfl ml_X11_requirePlace lk_X11_133 st_X11_requirePlace ⟨(Nat.le_of_ble_eq_true rfl), (Nat.le_of_ble_eq_true rfl)⟩ (Nat.le_of_ble_eq_true rfl) ⟨rfl, rfl⟩ ⟨(Nat.le_of_ble_eq_true rfl), (Nat.le_of_ble_eq_true rfl)⟩ (ct_requirePlace _ (fZo z)) (fun t_4 => ?_)
  refine J_aload_n (nx := 8) dX11_kick_7 rfl rfl ?_
  refine Jg_0_2 (nx := 11) dX11_kick_8 rfl fl_X11_28 ?_
  refine Jg_20_1 (nx := 14) dX11_kick_11 rfl fl_X11_151 ?_
  refine J_iload_n (nx := 15) dX11_kick_14 rfl rfl ?_
  refine JcKS2 (R' := rm (0) 0 0) (nx := 18) dX11_kick_15 rfl ml_X6_at lk_X11_155 st_X6_at ⟨(Nat.le_of_ble_eq_true rfl), (Nat.le_of_ble_eq_true rfl)⟩ (Nat.le_of_ble_eq_true rfl) ⟨rfl, rfl⟩ ⟨(Nat.le_of_ble_eq_true rfl), (Nat.le_of_ble_eq_true rfl)⟩ (ct_at _ 22 8 _ _ rfl (by decide)) ?_
  exact Jri dX11_kick_18 rfl (Nat.le_of_ble_eq_true rfl) (Nat.le_of_ble_eq_true rfl) ⟨rfl, rfl⟩

def fNo (m s : Int32) : Bool := fWi m 90 && (if s < -9 then false else if 9 < s then false else true)
set_option maxRecDepth 100000 in
set_option maxHeartbeats 4000000 in
theorem ct_now (g : GS) (m s : Int32) : Ct mX11_now (rm 10 1 6) [.ref 0, .int m, .int s] (Wd g) (FX [(fNo m s, x_iae)] (RR (.inl none) (sF (sF g 20 14 m) 20 15 s)) g) := by
  refine Ct.of (by decide +kernel) (Nat.le_of_ble_eq_true rfl) ?_
  show J _ _ _ _ 0 [some (.ref 0), some (.int m), some (.int s)] [] _ 0 0
  refine J_iload_n (nx := 1) dX11_now_0 rfl rfl ?_
  refine J_bipush (nx := 3) (i := 90) (v := 90) (by decide) dX11_now_1 rfl ?_
  refine JcKS2 (R' := rm (0) 0 0) (nx := 6) dX11_now_3 rfl ml_X11_within lk_X11_75 st_X11_within ⟨(Nat.le_of_ble_eq_true rfl), (Nat.le_of_ble_eq_true rfl)⟩ (Nat.le_of_ble_eq_true rfl) ⟨rfl, rfl⟩ ⟨(Nat.le_of_ble_eq_true rfl), (Nat.le_of_ble_eq_true rfl)⟩ (ct_within _ _ _) ?_
  refine J_if_eq (nx := 9) (tgt := 25) dX11_now_6 rfl (by decide) (fun c_6 => ?_) (fun c_6 => ?_)
  · refine J_iconst (nx := 26) (i := 0) (v := 0) (by decide) dX11_now_25 rfl ?_
    refine J.topi (bI (fNo m s)) (by unfold fNo; first | (rw [bI_0.mp c_6]; rfl) | (rw [bI_n0.mp c_6, if_pos c_12]; rfl) | (rw [bI_n0.mp c_6, if_neg c_12, if_pos c_18]; rfl) | (rw [bI_n0.mp c_6, if_neg c_12, if_neg c_18]; rfl)) ?_
    refine JtKS1 (R' := rm (0) 1 6) (nx := 29) dX11_now_26 rfl ml_X11_requireNumber lk_X11_83 st_X11_requireNumber ⟨(Nat.le_of_ble_eq_true rfl), (Nat.le_of_ble_eq_true rfl)⟩ (Nat.le_of_ble_eq_true rfl) ⟨rfl, rfl⟩ ⟨(Nat.le_of_ble_eq_true rfl), (Nat.le_of_ble_eq_true rfl)⟩ (ct_requireNumber _ (fNo m s)) (fun t_26 => ?_)
    refine J_aload_n (nx := 30) dX11_now_29 rfl rfl ?_
    refine Jg_0_2 (nx := 33) dX11_now_30 rfl fl_X11_28 ?_
    refine J_iload_n (nx := 34) dX11_now_33 rfl rfl ?_
    refine Jp_20_14 (nx := 37) dX11_now_34 rfl fl_X11_161 ?_
    refine J_aload_n (nx := 38) dX11_now_37 rfl rfl ?_
    refine Jg_0_2 (nx := 41) dX11_now_38 rfl fl_X11_28 ?_
    refine J_iload_n (nx := 42) dX11_now_41 rfl rfl ?_
    refine Jp_20_15 (nx := 45) dX11_now_42 rfl fl_X11_164 ?_
    exact Jrv dX11_now_45 rfl (Nat.le_of_ble_eq_true rfl) (Nat.le_of_ble_eq_true rfl) ⟨rfl, rfl⟩
  · refine J_iload_n (nx := 10) dX11_now_9 rfl rfl ?_
    refine J_bipush (nx := 12) (i := -9) (v := -9) (by decide) dX11_now_10 rfl ?_
    refine J_icmp_lt (nx := 15) (tgt := 25) dX11_now_12 rfl (by decide) (fun c_12 => ?_) (fun c_12 => ?_)
    · refine J_iconst (nx := 26) (i := 0) (v := 0) (by decide) dX11_now_25 rfl ?_
      refine J.topi (bI (fNo m s)) (by unfold fNo; first | (rw [bI_0.mp c_6]; rfl) | (rw [bI_n0.mp c_6, if_pos c_12]; rfl) | (rw [bI_n0.mp c_6, if_neg c_12, if_pos c_18]; rfl) | (rw [bI_n0.mp c_6, if_neg c_12, if_neg c_18]; rfl)) ?_
      refine JtKS1 (R' := rm (0) 1 6) (nx := 29) dX11_now_26 rfl ml_X11_requireNumber lk_X11_83 st_X11_requireNumber ⟨(Nat.le_of_ble_eq_true rfl), (Nat.le_of_ble_eq_true rfl)⟩ (Nat.le_of_ble_eq_true rfl) ⟨rfl, rfl⟩ ⟨(Nat.le_of_ble_eq_true rfl), (Nat.le_of_ble_eq_true rfl)⟩ (ct_requireNumber _ (fNo m s)) (fun t_26 => ?_)
      refine J_aload_n (nx := 30) dX11_now_29 rfl rfl ?_
      refine Jg_0_2 (nx := 33) dX11_now_30 rfl fl_X11_28 ?_
      refine J_iload_n (nx := 34) dX11_now_33 rfl rfl ?_
      refine Jp_20_14 (nx := 37) dX11_now_34 rfl fl_X11_161 ?_
      refine J_aload_n (nx := 38) dX11_now_37 rfl rfl ?_
      refine Jg_0_2 (nx := 41) dX11_now_38 rfl fl_X11_28 ?_
      refine J_iload_n (nx := 42) dX11_now_41 rfl rfl ?_
      refine Jp_20_15 (nx := 45) dX11_now_42 rfl fl_X11_164 ?_
      exact Jrv dX11_now_45 rfl (Nat.le_of_ble_eq_true rfl) (Nat.le_of_ble_eq_true rfl) ⟨rfl, rfl⟩
    · refine J_iload_n (nx := 16) dX11_now_15 rfl rfl ?_
      refine J_bipush (nx := 18) (i := 9) (v := 9) (by decide) dX11_now_16 rfl ?_
      refine J_icmp_gt (nx := 21) (tgt := 25) dX11_now_18 rfl (by decide) (fun c_18 => ?_) (fun c_18 => ?_)
      · refine J_iconst (nx := 26) (i := 0) (v := 0) (by decide) dX11_now_25 rfl ?_
        refine J.topi (bI (fNo m s)) (by unfold fNo; first | (rw [bI_0.mp c_6]; rfl) | (rw [bI_n0.mp c_6, if_pos c_12]; rfl) | (rw [bI_n0.mp c_6, if_neg c_12, if_pos c_18]; rfl) | (rw [bI_n0.mp c_6, if_neg c_12, if_neg c_18]; rfl)) ?_
        refine JtKS1 (R' := rm (0) 1 6) (nx := 29) dX11_now_26 rfl ml_X11_requireNumber lk_X11_83 st_X11_requireNumber ⟨(Nat.le_of_ble_eq_true rfl), (Nat.le_of_ble_eq_true rfl)⟩ (Nat.le_of_ble_eq_true rfl) ⟨rfl, rfl⟩ ⟨(Nat.le_of_ble_eq_true rfl), (Nat.le_of_ble_eq_true rfl)⟩ (ct_requireNumber _ (fNo m s)) (fun t_26 => ?_)
        refine J_aload_n (nx := 30) dX11_now_29 rfl rfl ?_
        refine Jg_0_2 (nx := 33) dX11_now_30 rfl fl_X11_28 ?_
        refine J_iload_n (nx := 34) dX11_now_33 rfl rfl ?_
        refine Jp_20_14 (nx := 37) dX11_now_34 rfl fl_X11_161 ?_
        refine J_aload_n (nx := 38) dX11_now_37 rfl rfl ?_
        refine Jg_0_2 (nx := 41) dX11_now_38 rfl fl_X11_28 ?_
        refine J_iload_n (nx := 42) dX11_now_41 rfl rfl ?_
        refine Jp_20_15 (nx := 45) dX11_now_42 rfl fl_X11_164 ?_
        exact Jrv dX11_now_45 rfl (Nat.le_of_ble_eq_true rfl) (Nat.le_of_ble_eq_true rfl) ⟨rfl, rfl⟩
      · refine J_iconst (nx := 22) (i := 1) (v := 1) (by decide) dX11_now_21 rfl ?_
        refine J_goto (nx := 26) dX11_now_22 (by decide) ?_
        refine J.topi (bI (fNo m s)) (by unfold fNo; first | (rw [bI_0.mp c_6]; rfl) | (rw [bI_n0.mp c_6, if_pos c_12]; rfl) | (rw [bI_n0.mp c_6, if_neg c_12, if_pos c_18]; rfl) | (rw [bI_n0.mp c_6, if_neg c_12, if_neg c_18]; rfl)) ?_
        refine JtKS1 (R' := rm (0) 1 6) (nx := 29) dX11_now_26 rfl ml_X11_requireNumber lk_X11_83 st_X11_requireNumber ⟨(Nat.le_of_ble_eq_true rfl), (Nat.le_of_ble_eq_true rfl)⟩ (Nat.le_of_ble_eq_true rfl) ⟨rfl, rfl⟩ ⟨(Nat.le_of_ble_eq_true rfl), (Nat.le_of_ble_eq_true rfl)⟩ (ct_requireNumber _ (fNo m s)) (fun t_26 => ?_)
        refine J_aload_n (nx := 30) dX11_now_29 rfl rfl ?_
        refine Jg_0_2 (nx := 33) dX11_now_30 rfl fl_X11_28 ?_
        refine J_iload_n (nx := 34) dX11_now_33 rfl rfl ?_
        refine Jp_20_14 (nx := 37) dX11_now_34 rfl fl_X11_161 ?_
        refine J_aload_n (nx := 38) dX11_now_37 rfl rfl ?_
        refine Jg_0_2 (nx := 41) dX11_now_38 rfl fl_X11_28 ?_
        refine J_iload_n (nx := 42) dX11_now_41 rfl rfl ?_
        refine Jp_20_15 (nx := 45) dX11_now_42 rfl fl_X11_164 ?_
        exact Jrv dX11_now_45 rfl (Nat.le_of_ble_eq_true rfl) (Nat.le_of_ble_eq_true rfl) ⟨rfl, rfl⟩

set_option maxRecDepth 100000 in
set_option maxHeartbeats 4000000 in
theorem ct_lost (g : GS) (n : Int32) : Ct mX11_lost (rm 10 1 6) [.ref 0, .int n] (Wd g) (FX [(fWi n 9999, x_iae)] (RR (.inl none) (sF g 20 16 n)) g) := by
  refine Ct.of (by decide +kernel) (Nat.le_of_ble_eq_true rfl) ?_
  show J _ _ _ _ 0 [some (.ref 0), some (.int n)] [] _ 0 0
  refine J_iload_n (nx := 1) dX11_lost_0 rfl rfl ?_
  refine J_sipush (nx := 4) (i := 9999) (v := 9999) (by decide) dX11_lost_1 rfl ?_
  refine JcKS2 (R' := rm (0) 0 0) (nx := 7) dX11_lost_4 rfl ml_X11_within lk_X11_75 st_X11_within ⟨(Nat.le_of_ble_eq_true rfl), (Nat.le_of_ble_eq_true rfl)⟩ (Nat.le_of_ble_eq_true rfl) ⟨rfl, rfl⟩ ⟨(Nat.le_of_ble_eq_true rfl), (Nat.le_of_ble_eq_true rfl)⟩ (ct_within _ _ _) ?_
  refine JtKS1 (R' := rm (0) 1 6) (nx := 10) dX11_lost_7 rfl ml_X11_requireNumber lk_X11_83 st_X11_requireNumber ⟨(Nat.le_of_ble_eq_true rfl), (Nat.le_of_ble_eq_true rfl)⟩ (Nat.le_of_ble_eq_true rfl) ⟨rfl, rfl⟩ ⟨(Nat.le_of_ble_eq_true rfl), (Nat.le_of_ble_eq_true rfl)⟩ (ct_requireNumber _ (fWi n 9999)) (fun t_7 => ?_)
  refine J_aload_n (nx := 11) dX11_lost_10 rfl rfl ?_
  refine Jg_0_2 (nx := 14) dX11_lost_11 rfl fl_X11_28 ?_
  refine J_iload_n (nx := 15) dX11_lost_14 rfl rfl ?_
  refine Jp_20_16 (nx := 18) dX11_lost_15 rfl fl_X11_170 ?_
  exact Jrv dX11_lost_18 rfl (Nat.le_of_ble_eq_true rfl) (Nat.le_of_ble_eq_true rfl) ⟨rfl, rfl⟩

def fHo (n : Int32) : Bool := if n = 0 then false else fWi n 60
set_option maxRecDepth 100000 in
set_option maxHeartbeats 4000000 in
theorem ct_horizon (g : GS) (n : Int32) : Ct mX11_horizon (rm 10 1 6) [.ref 0, .int n] (Wd g) (FX [(fHo n, x_iae)] (RR (.inl none) (sF g 20 13 n)) g) := by
  refine Ct.of (by decide +kernel) (Nat.le_of_ble_eq_true rfl) ?_
  show J _ _ _ _ 0 [some (.ref 0), some (.int n)] [] _ 0 0
  refine J_iload_n (nx := 1) dX11_horizon_0 rfl rfl ?_
  refine J_if_eq (nx := 4) (tgt := 17) dX11_horizon_1 rfl (by decide) (fun c_1 => ?_) (fun c_1 => ?_)
  · refine J_iconst (nx := 18) (i := 0) (v := 0) (by decide) dX11_horizon_17 rfl ?_
    refine J.topi (bI (fHo n)) (by unfold fHo; first | (rw [if_pos c_1]; rfl) | (rw [if_neg c_1, bI_0.mp c_10]; rfl) | (rw [if_neg c_1, bI_n0.mp c_10]; rfl)) ?_
    refine JtKS1 (R' := rm (0) 1 6) (nx := 21) dX11_horizon_18 rfl ml_X11_requireNumber lk_X11_83 st_X11_requireNumber ⟨(Nat.le_of_ble_eq_true rfl), (Nat.le_of_ble_eq_true rfl)⟩ (Nat.le_of_ble_eq_true rfl) ⟨rfl, rfl⟩ ⟨(Nat.le_of_ble_eq_true rfl), (Nat.le_of_ble_eq_true rfl)⟩ (ct_requireNumber _ (fHo n)) (fun t_18 => ?_)
    refine J_aload_n (nx := 22) dX11_horizon_21 rfl rfl ?_
    refine Jg_0_2 (nx := 25) dX11_horizon_22 rfl fl_X11_28 ?_
    refine J_iload_n (nx := 26) dX11_horizon_25 rfl rfl ?_
    refine Jp_20_13 (nx := 29) dX11_horizon_26 rfl fl_X11_173 ?_
    exact Jrv dX11_horizon_29 rfl (Nat.le_of_ble_eq_true rfl) (Nat.le_of_ble_eq_true rfl) ⟨rfl, rfl⟩
  · refine J_iload_n (nx := 5) dX11_horizon_4 rfl rfl ?_
    refine J_bipush (nx := 7) (i := 60) (v := 60) (by decide) dX11_horizon_5 rfl ?_
    refine JcKS2 (R' := rm (0) 0 0) (nx := 10) dX11_horizon_7 rfl ml_X11_within lk_X11_75 st_X11_within ⟨(Nat.le_of_ble_eq_true rfl), (Nat.le_of_ble_eq_true rfl)⟩ (Nat.le_of_ble_eq_true rfl) ⟨rfl, rfl⟩ ⟨(Nat.le_of_ble_eq_true rfl), (Nat.le_of_ble_eq_true rfl)⟩ (ct_within _ _ _) ?_
    refine J_if_eq (nx := 13) (tgt := 17) dX11_horizon_10 rfl (by decide) (fun c_10 => ?_) (fun c_10 => ?_)
    · refine J_iconst (nx := 18) (i := 0) (v := 0) (by decide) dX11_horizon_17 rfl ?_
      refine J.topi (bI (fHo n)) (by unfold fHo; first | (rw [if_pos c_1]; rfl) | (rw [if_neg c_1, bI_0.mp c_10]; rfl) | (rw [if_neg c_1, bI_n0.mp c_10]; rfl)) ?_
      refine JtKS1 (R' := rm (0) 1 6) (nx := 21) dX11_horizon_18 rfl ml_X11_requireNumber lk_X11_83 st_X11_requireNumber ⟨(Nat.le_of_ble_eq_true rfl), (Nat.le_of_ble_eq_true rfl)⟩ (Nat.le_of_ble_eq_true rfl) ⟨rfl, rfl⟩ ⟨(Nat.le_of_ble_eq_true rfl), (Nat.le_of_ble_eq_true rfl)⟩ (ct_requireNumber _ (fHo n)) (fun t_18 => ?_)
      refine J_aload_n (nx := 22) dX11_horizon_21 rfl rfl ?_
      refine Jg_0_2 (nx := 25) dX11_horizon_22 rfl fl_X11_28 ?_
      refine J_iload_n (nx := 26) dX11_horizon_25 rfl rfl ?_
      refine Jp_20_13 (nx := 29) dX11_horizon_26 rfl fl_X11_173 ?_
      exact Jrv dX11_horizon_29 rfl (Nat.le_of_ble_eq_true rfl) (Nat.le_of_ble_eq_true rfl) ⟨rfl, rfl⟩
    · refine J_iconst (nx := 14) (i := 1) (v := 1) (by decide) dX11_horizon_13 rfl ?_
      refine J_goto (nx := 18) dX11_horizon_14 (by decide) ?_
      refine J.topi (bI (fHo n)) (by unfold fHo; first | (rw [if_pos c_1]; rfl) | (rw [if_neg c_1, bI_0.mp c_10]; rfl) | (rw [if_neg c_1, bI_n0.mp c_10]; rfl)) ?_
      refine JtKS1 (R' := rm (0) 1 6) (nx := 21) dX11_horizon_18 rfl ml_X11_requireNumber lk_X11_83 st_X11_requireNumber ⟨(Nat.le_of_ble_eq_true rfl), (Nat.le_of_ble_eq_true rfl)⟩ (Nat.le_of_ble_eq_true rfl) ⟨rfl, rfl⟩ ⟨(Nat.le_of_ble_eq_true rfl), (Nat.le_of_ble_eq_true rfl)⟩ (ct_requireNumber _ (fHo n)) (fun t_18 => ?_)
      refine J_aload_n (nx := 22) dX11_horizon_21 rfl rfl ?_
      refine Jg_0_2 (nx := 25) dX11_horizon_22 rfl fl_X11_28 ?_
      refine J_iload_n (nx := 26) dX11_horizon_25 rfl rfl ?_
      refine Jp_20_13 (nx := 29) dX11_horizon_26 rfl fl_X11_173 ?_
      exact Jrv dX11_horizon_29 rfl (Nat.le_of_ble_eq_true rfl) (Nat.le_of_ble_eq_true rfl) ⟨rfl, rfl⟩

set_option maxRecDepth 100000 in
set_option maxHeartbeats 4000000 in
theorem ct_grace (g : GS) (n : Int32) : Ct mX11_grace (rm 10 1 6) [.ref 0, .int n] (Wd g) (FX [(fWi n 10, x_iae)] (RR (.inl none) (sF g 20 12 n)) g) := by
  refine Ct.of (by decide +kernel) (Nat.le_of_ble_eq_true rfl) ?_
  show J _ _ _ _ 0 [some (.ref 0), some (.int n)] [] _ 0 0
  refine J_iload_n (nx := 1) dX11_grace_0 rfl rfl ?_
  refine J_bipush (nx := 3) (i := 10) (v := 10) (by decide) dX11_grace_1 rfl ?_
  refine JcKS2 (R' := rm (0) 0 0) (nx := 6) dX11_grace_3 rfl ml_X11_within lk_X11_75 st_X11_within ⟨(Nat.le_of_ble_eq_true rfl), (Nat.le_of_ble_eq_true rfl)⟩ (Nat.le_of_ble_eq_true rfl) ⟨rfl, rfl⟩ ⟨(Nat.le_of_ble_eq_true rfl), (Nat.le_of_ble_eq_true rfl)⟩ (ct_within _ _ _) ?_
  refine JtKS1 (R' := rm (0) 1 6) (nx := 9) dX11_grace_6 rfl ml_X11_requireNumber lk_X11_83 st_X11_requireNumber ⟨(Nat.le_of_ble_eq_true rfl), (Nat.le_of_ble_eq_true rfl)⟩ (Nat.le_of_ble_eq_true rfl) ⟨rfl, rfl⟩ ⟨(Nat.le_of_ble_eq_true rfl), (Nat.le_of_ble_eq_true rfl)⟩ (ct_requireNumber _ (fWi n 10)) (fun t_6 => ?_)
  refine J_aload_n (nx := 10) dX11_grace_9 rfl rfl ?_
  refine Jg_0_2 (nx := 13) dX11_grace_10 rfl fl_X11_28 ?_
  refine J_iload_n (nx := 14) dX11_grace_13 rfl rfl ?_
  refine Jp_20_12 (nx := 17) dX11_grace_14 rfl fl_X11_176 ?_
  exact Jrv dX11_grace_17 rfl (Nat.le_of_ble_eq_true rfl) (Nat.le_of_ble_eq_true rfl) ⟨rfl, rfl⟩

set_option maxRecDepth 100000 in
set_option maxHeartbeats 4000000 in
theorem ct_patience (g : GS) (n : Int32) : Ct mX11_patience (rm 10 1 6) [.ref 0, .int n] (Wd g) (FX [(fWi n 99, x_iae)] (RR (.inl none) (sF g 20 17 n)) g) := by
  refine Ct.of (by decide +kernel) (Nat.le_of_ble_eq_true rfl) ?_
  show J _ _ _ _ 0 [some (.ref 0), some (.int n)] [] _ 0 0
  refine J_iload_n (nx := 1) dX11_patience_0 rfl rfl ?_
  refine J_bipush (nx := 3) (i := 99) (v := 99) (by decide) dX11_patience_1 rfl ?_
  refine JcKS2 (R' := rm (0) 0 0) (nx := 6) dX11_patience_3 rfl ml_X11_within lk_X11_75 st_X11_within ⟨(Nat.le_of_ble_eq_true rfl), (Nat.le_of_ble_eq_true rfl)⟩ (Nat.le_of_ble_eq_true rfl) ⟨rfl, rfl⟩ ⟨(Nat.le_of_ble_eq_true rfl), (Nat.le_of_ble_eq_true rfl)⟩ (ct_within _ _ _) ?_
  refine JtKS1 (R' := rm (0) 1 6) (nx := 9) dX11_patience_6 rfl ml_X11_requireNumber lk_X11_83 st_X11_requireNumber ⟨(Nat.le_of_ble_eq_true rfl), (Nat.le_of_ble_eq_true rfl)⟩ (Nat.le_of_ble_eq_true rfl) ⟨rfl, rfl⟩ ⟨(Nat.le_of_ble_eq_true rfl), (Nat.le_of_ble_eq_true rfl)⟩ (ct_requireNumber _ (fWi n 99)) (fun t_6 => ?_)
  refine J_aload_n (nx := 10) dX11_patience_9 rfl rfl ?_
  refine Jg_0_2 (nx := 13) dX11_patience_10 rfl fl_X11_28 ?_
  refine J_iload_n (nx := 14) dX11_patience_13 rfl rfl ?_
  refine Jp_20_17 (nx := 17) dX11_patience_14 rfl fl_X11_185 ?_
  exact Jrv dX11_patience_17 rfl (Nat.le_of_ble_eq_true rfl) (Nat.le_of_ble_eq_true rfl) ⟨rfl, rfl⟩

set_option maxRecDepth 100000 in
set_option maxHeartbeats 4000000 in
theorem ct_sort (g : GS) (c f : Int32) : Ct mX11_sort (rm 10 2 12) [.ref 0, .int c, .int f] (Wd g) (FX [(fWi c 9999 && fWi f 100, x_iae), (fLt (gF g 20 11) 6, x_uoe)] (RR (.inl (some (.int (gF g 20 11)))) (bk_as g 20 c f)) g) := by
  refine Ct.of (by decide +kernel) (Nat.le_of_ble_eq_true rfl) ?_
  show J _ _ _ _ 0 [some (.ref 0), some (.int c), some (.int f)] [] _ 0 0
  refine J_iload_n (nx := 1) dX11_sort_0 rfl rfl ?_
  refine J_sipush (nx := 4) (i := 9999) (v := 9999) (by decide) dX11_sort_1 rfl ?_
  refine JcKS2 (R' := rm (0) 0 0) (nx := 7) dX11_sort_4 rfl ml_X11_within lk_X11_75 st_X11_within ⟨(Nat.le_of_ble_eq_true rfl), (Nat.le_of_ble_eq_true rfl)⟩ (Nat.le_of_ble_eq_true rfl) ⟨rfl, rfl⟩ ⟨(Nat.le_of_ble_eq_true rfl), (Nat.le_of_ble_eq_true rfl)⟩ (ct_within _ _ _) ?_
  refine J_if_eq (nx := 10) (tgt := 23) dX11_sort_7 rfl (by decide) (fun c_7 => ?_) (fun c_7 => ?_)
  · refine J_iconst (nx := 24) (i := 0) (v := 0) (by decide) dX11_sort_23 rfl ?_
    refine J.topi (bI (fWi c 9999 && fWi f 100)) (by first | (rw [bI_0.mp c_7]; rfl) | (rw [bI_n0.mp c_7, bI_0.mp c_16]; rfl) | (rw [bI_n0.mp c_7, bI_n0.mp c_16]; rfl)) ?_
    refine JtKS1 (R' := rm (0) 1 6) (nx := 27) dX11_sort_24 rfl ml_X11_requireNumber lk_X11_83 st_X11_requireNumber ⟨(Nat.le_of_ble_eq_true rfl), (Nat.le_of_ble_eq_true rfl)⟩ (Nat.le_of_ble_eq_true rfl) ⟨rfl, rfl⟩ ⟨(Nat.le_of_ble_eq_true rfl), (Nat.le_of_ble_eq_true rfl)⟩ (ct_requireNumber _ (fWi c 9999 && fWi f 100)) (fun t_24 => ?_)
    refine J_aload_n (nx := 28) dX11_sort_27 rfl rfl ?_
    refine Jg_0_2 (nx := 31) dX11_sort_28 rfl fl_X11_28 ?_
    refine Jg_20_11 (nx := 34) dX11_sort_31 rfl fl_X11_179 ?_
    refine J_bipush (nx := 36) (i := 6) (v := 6) (by decide) dX11_sort_34 rfl ?_
    refine J_icmp_ge (nx := 39) (tgt := 43) dX11_sort_36 rfl (by decide) (fun c_36 => ?_) (fun c_36 => ?_)
    · refine J_iconst (nx := 44) (i := 0) (v := 0) (by decide) dX11_sort_43 rfl ?_
      refine J.topi (bI (fLt (gF g 20 11) 6)) (by unfold fLt; first | (rw [if_pos c_36]; rfl) | (rw [if_neg c_36]; rfl)) ?_
      refine JtKS1 (R' := rm (0) 1 6) (nx := 47) dX11_sort_44 rfl ml_X11_requireRoom lk_X11_90 st_X11_requireRoom ⟨(Nat.le_of_ble_eq_true rfl), (Nat.le_of_ble_eq_true rfl)⟩ (Nat.le_of_ble_eq_true rfl) ⟨rfl, rfl⟩ ⟨(Nat.le_of_ble_eq_true rfl), (Nat.le_of_ble_eq_true rfl)⟩ (ct_requireRoom _ (fLt (gF g 20 11) 6)) (fun t_44 => ?_)
      refine J_aload_n (nx := 48) dX11_sort_47 rfl rfl ?_
      refine Jg_0_2 (nx := 51) dX11_sort_48 rfl fl_X11_28 ?_
      refine J_iload_n (nx := 52) dX11_sort_51 rfl rfl ?_
      refine J_iload_n (nx := 53) dX11_sort_52 rfl rfl ?_
      refine JcKV2 (R' := rm (1) 0 0) (nx := 56) dX11_sort_53 rfl ml_X1_addSort lk_X11_182 iv_X1_addSort rfl rfl ⟨(Nat.le_of_ble_eq_true rfl), (Nat.le_of_ble_eq_true rfl)⟩ (Nat.le_of_ble_eq_true rfl) ⟨rfl, rfl⟩ ⟨(Nat.le_of_ble_eq_true rfl), (Nat.le_of_ble_eq_true rfl)⟩ (ct_X1_addSort _ _ _) ?_
      exact Jri dX11_sort_56 rfl (Nat.le_of_ble_eq_true rfl) (Nat.le_of_ble_eq_true rfl) ⟨rfl, rfl⟩
    · refine J_iconst (nx := 40) (i := 1) (v := 1) (by decide) dX11_sort_39 rfl ?_
      refine J_goto (nx := 44) dX11_sort_40 (by decide) ?_
      refine J.topi (bI (fLt (gF g 20 11) 6)) (by unfold fLt; first | (rw [if_pos c_36]; rfl) | (rw [if_neg c_36]; rfl)) ?_
      refine JtKS1 (R' := rm (0) 1 6) (nx := 47) dX11_sort_44 rfl ml_X11_requireRoom lk_X11_90 st_X11_requireRoom ⟨(Nat.le_of_ble_eq_true rfl), (Nat.le_of_ble_eq_true rfl)⟩ (Nat.le_of_ble_eq_true rfl) ⟨rfl, rfl⟩ ⟨(Nat.le_of_ble_eq_true rfl), (Nat.le_of_ble_eq_true rfl)⟩ (ct_requireRoom _ (fLt (gF g 20 11) 6)) (fun t_44 => ?_)
      refine J_aload_n (nx := 48) dX11_sort_47 rfl rfl ?_
      refine Jg_0_2 (nx := 51) dX11_sort_48 rfl fl_X11_28 ?_
      refine J_iload_n (nx := 52) dX11_sort_51 rfl rfl ?_
      refine J_iload_n (nx := 53) dX11_sort_52 rfl rfl ?_
      refine JcKV2 (R' := rm (1) 0 0) (nx := 56) dX11_sort_53 rfl ml_X1_addSort lk_X11_182 iv_X1_addSort rfl rfl ⟨(Nat.le_of_ble_eq_true rfl), (Nat.le_of_ble_eq_true rfl)⟩ (Nat.le_of_ble_eq_true rfl) ⟨rfl, rfl⟩ ⟨(Nat.le_of_ble_eq_true rfl), (Nat.le_of_ble_eq_true rfl)⟩ (ct_X1_addSort _ _ _) ?_
      exact Jri dX11_sort_56 rfl (Nat.le_of_ble_eq_true rfl) (Nat.le_of_ble_eq_true rfl) ⟨rfl, rfl⟩
  · refine J_iload_n (nx := 11) dX11_sort_10 rfl rfl ?_
    refine J_bipush (nx := 13) (i := 100) (v := 100) (by decide) dX11_sort_11 rfl ?_
    refine JcKS2 (R' := rm (0) 0 0) (nx := 16) dX11_sort_13 rfl ml_X11_within lk_X11_75 st_X11_within ⟨(Nat.le_of_ble_eq_true rfl), (Nat.le_of_ble_eq_true rfl)⟩ (Nat.le_of_ble_eq_true rfl) ⟨rfl, rfl⟩ ⟨(Nat.le_of_ble_eq_true rfl), (Nat.le_of_ble_eq_true rfl)⟩ (ct_within _ _ _) ?_
    refine J_if_eq (nx := 19) (tgt := 23) dX11_sort_16 rfl (by decide) (fun c_16 => ?_) (fun c_16 => ?_)
    · refine J_iconst (nx := 24) (i := 0) (v := 0) (by decide) dX11_sort_23 rfl ?_
      refine J.topi (bI (fWi c 9999 && fWi f 100)) (by first | (rw [bI_0.mp c_7]; rfl) | (rw [bI_n0.mp c_7, bI_0.mp c_16]; rfl) | (rw [bI_n0.mp c_7, bI_n0.mp c_16]; rfl)) ?_
      refine JtKS1 (R' := rm (0) 1 6) (nx := 27) dX11_sort_24 rfl ml_X11_requireNumber lk_X11_83 st_X11_requireNumber ⟨(Nat.le_of_ble_eq_true rfl), (Nat.le_of_ble_eq_true rfl)⟩ (Nat.le_of_ble_eq_true rfl) ⟨rfl, rfl⟩ ⟨(Nat.le_of_ble_eq_true rfl), (Nat.le_of_ble_eq_true rfl)⟩ (ct_requireNumber _ (fWi c 9999 && fWi f 100)) (fun t_24 => ?_)
      refine J_aload_n (nx := 28) dX11_sort_27 rfl rfl ?_
      refine Jg_0_2 (nx := 31) dX11_sort_28 rfl fl_X11_28 ?_
      refine Jg_20_11 (nx := 34) dX11_sort_31 rfl fl_X11_179 ?_
      refine J_bipush (nx := 36) (i := 6) (v := 6) (by decide) dX11_sort_34 rfl ?_
      refine J_icmp_ge (nx := 39) (tgt := 43) dX11_sort_36 rfl (by decide) (fun c_36 => ?_) (fun c_36 => ?_)
      · refine J_iconst (nx := 44) (i := 0) (v := 0) (by decide) dX11_sort_43 rfl ?_
        refine J.topi (bI (fLt (gF g 20 11) 6)) (by unfold fLt; first | (rw [if_pos c_36]; rfl) | (rw [if_neg c_36]; rfl)) ?_
        refine JtKS1 (R' := rm (0) 1 6) (nx := 47) dX11_sort_44 rfl ml_X11_requireRoom lk_X11_90 st_X11_requireRoom ⟨(Nat.le_of_ble_eq_true rfl), (Nat.le_of_ble_eq_true rfl)⟩ (Nat.le_of_ble_eq_true rfl) ⟨rfl, rfl⟩ ⟨(Nat.le_of_ble_eq_true rfl), (Nat.le_of_ble_eq_true rfl)⟩ (ct_requireRoom _ (fLt (gF g 20 11) 6)) (fun t_44 => ?_)
        refine J_aload_n (nx := 48) dX11_sort_47 rfl rfl ?_
        refine Jg_0_2 (nx := 51) dX11_sort_48 rfl fl_X11_28 ?_
        refine J_iload_n (nx := 52) dX11_sort_51 rfl rfl ?_
        refine J_iload_n (nx := 53) dX11_sort_52 rfl rfl ?_
        refine JcKV2 (R' := rm (1) 0 0) (nx := 56) dX11_sort_53 rfl ml_X1_addSort lk_X11_182 iv_X1_addSort rfl rfl ⟨(Nat.le_of_ble_eq_true rfl), (Nat.le_of_ble_eq_true rfl)⟩ (Nat.le_of_ble_eq_true rfl) ⟨rfl, rfl⟩ ⟨(Nat.le_of_ble_eq_true rfl), (Nat.le_of_ble_eq_true rfl)⟩ (ct_X1_addSort _ _ _) ?_
        exact Jri dX11_sort_56 rfl (Nat.le_of_ble_eq_true rfl) (Nat.le_of_ble_eq_true rfl) ⟨rfl, rfl⟩
      · refine J_iconst (nx := 40) (i := 1) (v := 1) (by decide) dX11_sort_39 rfl ?_
        refine J_goto (nx := 44) dX11_sort_40 (by decide) ?_
        refine J.topi (bI (fLt (gF g 20 11) 6)) (by unfold fLt; first | (rw [if_pos c_36]; rfl) | (rw [if_neg c_36]; rfl)) ?_
        refine JtKS1 (R' := rm (0) 1 6) (nx := 47) dX11_sort_44 rfl ml_X11_requireRoom lk_X11_90 st_X11_requireRoom ⟨(Nat.le_of_ble_eq_true rfl), (Nat.le_of_ble_eq_true rfl)⟩ (Nat.le_of_ble_eq_true rfl) ⟨rfl, rfl⟩ ⟨(Nat.le_of_ble_eq_true rfl), (Nat.le_of_ble_eq_true rfl)⟩ (ct_requireRoom _ (fLt (gF g 20 11) 6)) (fun t_44 => ?_)
        refine J_aload_n (nx := 48) dX11_sort_47 rfl rfl ?_
        refine Jg_0_2 (nx := 51) dX11_sort_48 rfl fl_X11_28 ?_
        refine J_iload_n (nx := 52) dX11_sort_51 rfl rfl ?_
        refine J_iload_n (nx := 53) dX11_sort_52 rfl rfl ?_
        refine JcKV2 (R' := rm (1) 0 0) (nx := 56) dX11_sort_53 rfl ml_X1_addSort lk_X11_182 iv_X1_addSort rfl rfl ⟨(Nat.le_of_ble_eq_true rfl), (Nat.le_of_ble_eq_true rfl)⟩ (Nat.le_of_ble_eq_true rfl) ⟨rfl, rfl⟩ ⟨(Nat.le_of_ble_eq_true rfl), (Nat.le_of_ble_eq_true rfl)⟩ (ct_X1_addSort _ _ _) ?_
        exact Jri dX11_sort_56 rfl (Nat.le_of_ble_eq_true rfl) (Nat.le_of_ble_eq_true rfl) ⟨rfl, rfl⟩
    · refine J_iconst (nx := 20) (i := 1) (v := 1) (by decide) dX11_sort_19 rfl ?_
      refine J_goto (nx := 24) dX11_sort_20 (by decide) ?_
      refine J.topi (bI (fWi c 9999 && fWi f 100)) (by first | (rw [bI_0.mp c_7]; rfl) | (rw [bI_n0.mp c_7, bI_0.mp c_16]; rfl) | (rw [bI_n0.mp c_7, bI_n0.mp c_16]; rfl)) ?_
      refine JtKS1 (R' := rm (0) 1 6) (nx := 27) dX11_sort_24 rfl ml_X11_requireNumber lk_X11_83 st_X11_requireNumber ⟨(Nat.le_of_ble_eq_true rfl), (Nat.le_of_ble_eq_true rfl)⟩ (Nat.le_of_ble_eq_true rfl) ⟨rfl, rfl⟩ ⟨(Nat.le_of_ble_eq_true rfl), (Nat.le_of_ble_eq_true rfl)⟩ (ct_requireNumber _ (fWi c 9999 && fWi f 100)) (fun t_24 => ?_)
      refine J_aload_n (nx := 28) dX11_sort_27 rfl rfl ?_
      refine Jg_0_2 (nx := 31) dX11_sort_28 rfl fl_X11_28 ?_
      refine Jg_20_11 (nx := 34) dX11_sort_31 rfl fl_X11_179 ?_
      refine J_bipush (nx := 36) (i := 6) (v := 6) (by decide) dX11_sort_34 rfl ?_
      refine J_icmp_ge (nx := 39) (tgt := 43) dX11_sort_36 rfl (by decide) (fun c_36 => ?_) (fun c_36 => ?_)
      · refine J_iconst (nx := 44) (i := 0) (v := 0) (by decide) dX11_sort_43 rfl ?_
        refine J.topi (bI (fLt (gF g 20 11) 6)) (by unfold fLt; first | (rw [if_pos c_36]; rfl) | (rw [if_neg c_36]; rfl)) ?_
        refine JtKS1 (R' := rm (0) 1 6) (nx := 47) dX11_sort_44 rfl ml_X11_requireRoom lk_X11_90 st_X11_requireRoom ⟨(Nat.le_of_ble_eq_true rfl), (Nat.le_of_ble_eq_true rfl)⟩ (Nat.le_of_ble_eq_true rfl) ⟨rfl, rfl⟩ ⟨(Nat.le_of_ble_eq_true rfl), (Nat.le_of_ble_eq_true rfl)⟩ (ct_requireRoom _ (fLt (gF g 20 11) 6)) (fun t_44 => ?_)
        refine J_aload_n (nx := 48) dX11_sort_47 rfl rfl ?_
        refine Jg_0_2 (nx := 51) dX11_sort_48 rfl fl_X11_28 ?_
        refine J_iload_n (nx := 52) dX11_sort_51 rfl rfl ?_
        refine J_iload_n (nx := 53) dX11_sort_52 rfl rfl ?_
        refine JcKV2 (R' := rm (1) 0 0) (nx := 56) dX11_sort_53 rfl ml_X1_addSort lk_X11_182 iv_X1_addSort rfl rfl ⟨(Nat.le_of_ble_eq_true rfl), (Nat.le_of_ble_eq_true rfl)⟩ (Nat.le_of_ble_eq_true rfl) ⟨rfl, rfl⟩ ⟨(Nat.le_of_ble_eq_true rfl), (Nat.le_of_ble_eq_true rfl)⟩ (ct_X1_addSort _ _ _) ?_
        exact Jri dX11_sort_56 rfl (Nat.le_of_ble_eq_true rfl) (Nat.le_of_ble_eq_true rfl) ⟨rfl, rfl⟩
      · refine J_iconst (nx := 40) (i := 1) (v := 1) (by decide) dX11_sort_39 rfl ?_
        refine J_goto (nx := 44) dX11_sort_40 (by decide) ?_
        refine J.topi (bI (fLt (gF g 20 11) 6)) (by unfold fLt; first | (rw [if_pos c_36]; rfl) | (rw [if_neg c_36]; rfl)) ?_
        refine JtKS1 (R' := rm (0) 1 6) (nx := 47) dX11_sort_44 rfl ml_X11_requireRoom lk_X11_90 st_X11_requireRoom ⟨(Nat.le_of_ble_eq_true rfl), (Nat.le_of_ble_eq_true rfl)⟩ (Nat.le_of_ble_eq_true rfl) ⟨rfl, rfl⟩ ⟨(Nat.le_of_ble_eq_true rfl), (Nat.le_of_ble_eq_true rfl)⟩ (ct_requireRoom _ (fLt (gF g 20 11) 6)) (fun t_44 => ?_)
        refine J_aload_n (nx := 48) dX11_sort_47 rfl rfl ?_
        refine Jg_0_2 (nx := 51) dX11_sort_48 rfl fl_X11_28 ?_
        refine J_iload_n (nx := 52) dX11_sort_51 rfl rfl ?_
        refine J_iload_n (nx := 53) dX11_sort_52 rfl rfl ?_
        refine JcKV2 (R' := rm (1) 0 0) (nx := 56) dX11_sort_53 rfl ml_X1_addSort lk_X11_182 iv_X1_addSort rfl rfl ⟨(Nat.le_of_ble_eq_true rfl), (Nat.le_of_ble_eq_true rfl)⟩ (Nat.le_of_ble_eq_true rfl) ⟨rfl, rfl⟩ ⟨(Nat.le_of_ble_eq_true rfl), (Nat.le_of_ble_eq_true rfl)⟩ (ct_X1_addSort _ _ _) ?_
        exact Jri dX11_sort_56 rfl (Nat.le_of_ble_eq_true rfl) (Nat.le_of_ble_eq_true rfl) ⟨rfl, rfl⟩

set_option maxRecDepth 100000 in
set_option maxHeartbeats 4000000 in
theorem ct_stop (g : GS) (s z : Int32) (a : Bool) : Ct mX11_stop (rm 10 1 6) [.ref 0, .int s, .int z, .int (bI a)] (Wd g) (FX [(fFo g s z, x_iob)] (RR (.inl (some (.int (bif a then bk_aw g 20 s (bk_cn g 20 s) else bk_sw g 20 z (bk_cn g 20 s))))) g) g) := by
  refine Ct.of (by decide +kernel) (Nat.le_of_ble_eq_true rfl) ?_
  show J _ _ _ _ 0 [some (.ref 0), some (.int s), some (.int z), some (.int (bI a)), none] [] _ 0 0
  refine J_aload_n (nx := 1) dX11_stop_0 rfl rfl ?_
  refine J_iload_n (nx := 2) dX11_stop_1 rfl rfl ?_
  refine J_iload_n (nx := 3) dX11_stop_2 rfl rfl ?_
  refine JtKV2 (R' := rm (1) 1 6) (nx := 6) dX11_stop_3 rfl ml_X11_requireFoul lk_X11_194 iv_X11_requireFoul rfl rfl ⟨(Nat.le_of_ble_eq_true rfl), (Nat.le_of_ble_eq_true rfl)⟩ (Nat.le_of_ble_eq_true rfl) ⟨rfl, rfl⟩ ⟨(Nat.le_of_ble_eq_true rfl), (Nat.le_of_ble_eq_true rfl)⟩ (ct_requireFoul _ _ _) (fun t_3 => ?_)
  refine J_aload_n (nx := 7) dX11_stop_6 rfl rfl ?_
  refine Jg_0_2 (nx := 10) dX11_stop_7 rfl fl_X11_28 ?_
  refine J_iload_n (nx := 11) dX11_stop_10 rfl rfl ?_
  refine JcKV1 (R' := rm (3) 0 0) (nx := 14) dX11_stop_11 rfl ml_X1_cardNow lk_X11_197 iv_X1_cardNow rfl rfl ⟨(Nat.le_of_ble_eq_true rfl), (Nat.le_of_ble_eq_true rfl)⟩ (Nat.le_of_ble_eq_true rfl) ⟨rfl, rfl⟩ ⟨(Nat.le_of_ble_eq_true rfl), (Nat.le_of_ble_eq_true rfl)⟩ (ct_X1_cardNow _ _) ?_
  refine J_istore (nx := 16) dX11_stop_14 rfl rfl (Nat.le_of_ble_eq_true rfl) ?_
  refine J_iload_n (nx := 17) dX11_stop_16 rfl rfl ?_
  refine J_if_eq (nx := 20) (tgt := 33) dX11_stop_17 rfl (by decide) (fun c_17 => ?_) (fun c_17 => ?_)
  · refine J_aload_n (nx := 34) dX11_stop_33 rfl rfl ?_
    refine Jg_0_2 (nx := 37) dX11_stop_34 rfl fl_X11_28 ?_
    refine J_iload_n (nx := 38) dX11_stop_37 rfl rfl ?_
    refine J_iload (nx := 40) dX11_stop_38 rfl rfl ?_
    refine JcKV2 (R' := rm (1) 0 0) (nx := 43) dX11_stop_40 rfl ml_X1_stopWorth lk_X11_203 iv_X1_stopWorth rfl rfl ⟨(Nat.le_of_ble_eq_true rfl), (Nat.le_of_ble_eq_true rfl)⟩ (Nat.le_of_ble_eq_true rfl) ⟨rfl, rfl⟩ ⟨(Nat.le_of_ble_eq_true rfl), (Nat.le_of_ble_eq_true rfl)⟩ (ct_X1_stopWorth _ _ _) ?_
    exact Jri dX11_stop_43 rfl (Nat.le_of_ble_eq_true rfl) (Nat.le_of_ble_eq_true rfl) (RR.i (by first | (rw [bI_0.mp c_17]; rfl) | (rw [bI_n0.mp c_17]; rfl)) rfl)
  · refine J_aload_n (nx := 21) dX11_stop_20 rfl rfl ?_
    refine Jg_0_2 (nx := 24) dX11_stop_21 rfl fl_X11_28 ?_
    refine J_iload_n (nx := 25) dX11_stop_24 rfl rfl ?_
    refine J_iload (nx := 27) dX11_stop_25 rfl rfl ?_
    refine JcKV2 (R' := rm (1) 0 0) (nx := 30) dX11_stop_27 rfl ml_X1_afterwards lk_X11_200 iv_X1_afterwards rfl rfl ⟨(Nat.le_of_ble_eq_true rfl), (Nat.le_of_ble_eq_true rfl)⟩ (Nat.le_of_ble_eq_true rfl) ⟨rfl, rfl⟩ ⟨(Nat.le_of_ble_eq_true rfl), (Nat.le_of_ble_eq_true rfl)⟩ (ct_X1_afterwards _ _ _) ?_
    refine J_goto (nx := 43) dX11_stop_30 (by decide) ?_
    exact Jri dX11_stop_43 rfl (Nat.le_of_ble_eq_true rfl) (Nat.le_of_ble_eq_true rfl) (RR.i (by first | (rw [bI_0.mp c_17]; rfl) | (rw [bI_n0.mp c_17]; rfl)) rfl)

set_option maxRecDepth 100000 in
set_option maxHeartbeats 4000000 in
theorem ct_often (g : GS) (s x : Int32) : Ct mX11_often (rm 10 1 6) [.ref 0, .int s, .int x] (Wd g) (FX [(fSo g s && fSt x, x_iob)] (RR (.inl (some (.int (bk_rt g 20 s x)))) g) g) := by
  refine Ct.of (by decide +kernel) (Nat.le_of_ble_eq_true rfl) ?_
  show J _ _ _ _ 0 [some (.ref 0), some (.int s), some (.int x)] [] _ 0 0
  refine J_aload_n (nx := 1) dX11_often_0 rfl rfl ?_
  refine J_iload_n (nx := 2) dX11_often_1 rfl rfl ?_
  refine JcKV1 (R' := rm (0) 0 0) (nx := 5) dX11_often_2 rfl ml_X11_isSort lk_X11_245 iv_X11_isSort rfl rfl ⟨(Nat.le_of_ble_eq_true rfl), (Nat.le_of_ble_eq_true rfl)⟩ (Nat.le_of_ble_eq_true rfl) ⟨rfl, rfl⟩ ⟨(Nat.le_of_ble_eq_true rfl), (Nat.le_of_ble_eq_true rfl)⟩ (ct_isSort _ _) ?_
  refine J_if_eq (nx := 8) (tgt := 19) dX11_often_5 rfl (by decide) (fun c_5 => ?_) (fun c_5 => ?_)
  · refine J_iconst (nx := 20) (i := 0) (v := 0) (by decide) dX11_often_19 rfl ?_
    refine J.topi (bI (fSo g s && fSt x)) (by first | (rw [bI_0.mp c_5]; rfl) | (rw [bI_n0.mp c_5, bI_0.mp c_12]; rfl) | (rw [bI_n0.mp c_5, bI_n0.mp c_12]; rfl)) ?_
    refine JtKS1 (R' := rm (0) 1 6) (nx := 23) dX11_often_20 rfl ml_X11_requirePlace lk_X11_133 st_X11_requirePlace ⟨(Nat.le_of_ble_eq_true rfl), (Nat.le_of_ble_eq_true rfl)⟩ (Nat.le_of_ble_eq_true rfl) ⟨rfl, rfl⟩ ⟨(Nat.le_of_ble_eq_true rfl), (Nat.le_of_ble_eq_true rfl)⟩ (ct_requirePlace _ (fSo g s && fSt x)) (fun t_20 => ?_)
    refine J_aload_n (nx := 24) dX11_often_23 rfl rfl ?_
    refine Jg_0_2 (nx := 27) dX11_often_24 rfl fl_X11_28 ?_
    refine J_iload_n (nx := 28) dX11_often_27 rfl rfl ?_
    refine J_iload_n (nx := 29) dX11_often_28 rfl rfl ?_
    refine JcKV2 (R' := rm (1) 0 0) (nx := 32) dX11_often_29 rfl ml_X1_rateOf lk_X11_255 iv_X1_rateOf rfl rfl ⟨(Nat.le_of_ble_eq_true rfl), (Nat.le_of_ble_eq_true rfl)⟩ (Nat.le_of_ble_eq_true rfl) ⟨rfl, rfl⟩ ⟨(Nat.le_of_ble_eq_true rfl), (Nat.le_of_ble_eq_true rfl)⟩ (ct_X1_rateOf _ _ _) ?_
    exact Jri dX11_often_32 rfl (Nat.le_of_ble_eq_true rfl) (Nat.le_of_ble_eq_true rfl) ⟨rfl, rfl⟩
  · refine J_iload_n (nx := 9) dX11_often_8 rfl rfl ?_
    refine JcKS1 (R' := rm (0) 0 0) (nx := 12) dX11_often_9 rfl ml_X11_isState lk_X11_130 st_X11_isState ⟨(Nat.le_of_ble_eq_true rfl), (Nat.le_of_ble_eq_true rfl)⟩ (Nat.le_of_ble_eq_true rfl) ⟨rfl, rfl⟩ ⟨(Nat.le_of_ble_eq_true rfl), (Nat.le_of_ble_eq_true rfl)⟩ (ct_isState _ _) ?_
    refine J_if_eq (nx := 15) (tgt := 19) dX11_often_12 rfl (by decide) (fun c_12 => ?_) (fun c_12 => ?_)
    · refine J_iconst (nx := 20) (i := 0) (v := 0) (by decide) dX11_often_19 rfl ?_
      refine J.topi (bI (fSo g s && fSt x)) (by first | (rw [bI_0.mp c_5]; rfl) | (rw [bI_n0.mp c_5, bI_0.mp c_12]; rfl) | (rw [bI_n0.mp c_5, bI_n0.mp c_12]; rfl)) ?_
      refine JtKS1 (R' := rm (0) 1 6) (nx := 23) dX11_often_20 rfl ml_X11_requirePlace lk_X11_133 st_X11_requirePlace ⟨(Nat.le_of_ble_eq_true rfl), (Nat.le_of_ble_eq_true rfl)⟩ (Nat.le_of_ble_eq_true rfl) ⟨rfl, rfl⟩ ⟨(Nat.le_of_ble_eq_true rfl), (Nat.le_of_ble_eq_true rfl)⟩ (ct_requirePlace _ (fSo g s && fSt x)) (fun t_20 => ?_)
      refine J_aload_n (nx := 24) dX11_often_23 rfl rfl ?_
      refine Jg_0_2 (nx := 27) dX11_often_24 rfl fl_X11_28 ?_
      refine J_iload_n (nx := 28) dX11_often_27 rfl rfl ?_
      refine J_iload_n (nx := 29) dX11_often_28 rfl rfl ?_
      refine JcKV2 (R' := rm (1) 0 0) (nx := 32) dX11_often_29 rfl ml_X1_rateOf lk_X11_255 iv_X1_rateOf rfl rfl ⟨(Nat.le_of_ble_eq_true rfl), (Nat.le_of_ble_eq_true rfl)⟩ (Nat.le_of_ble_eq_true rfl) ⟨rfl, rfl⟩ ⟨(Nat.le_of_ble_eq_true rfl), (Nat.le_of_ble_eq_true rfl)⟩ (ct_X1_rateOf _ _ _) ?_
      exact Jri dX11_often_32 rfl (Nat.le_of_ble_eq_true rfl) (Nat.le_of_ble_eq_true rfl) ⟨rfl, rfl⟩
    · refine J_iconst (nx := 16) (i := 1) (v := 1) (by decide) dX11_often_15 rfl ?_
      refine J_goto (nx := 20) dX11_often_16 (by decide) ?_
      refine J.topi (bI (fSo g s && fSt x)) (by first | (rw [bI_0.mp c_5]; rfl) | (rw [bI_n0.mp c_5, bI_0.mp c_12]; rfl) | (rw [bI_n0.mp c_5, bI_n0.mp c_12]; rfl)) ?_
      refine JtKS1 (R' := rm (0) 1 6) (nx := 23) dX11_often_20 rfl ml_X11_requirePlace lk_X11_133 st_X11_requirePlace ⟨(Nat.le_of_ble_eq_true rfl), (Nat.le_of_ble_eq_true rfl)⟩ (Nat.le_of_ble_eq_true rfl) ⟨rfl, rfl⟩ ⟨(Nat.le_of_ble_eq_true rfl), (Nat.le_of_ble_eq_true rfl)⟩ (ct_requirePlace _ (fSo g s && fSt x)) (fun t_20 => ?_)
      refine J_aload_n (nx := 24) dX11_often_23 rfl rfl ?_
      refine Jg_0_2 (nx := 27) dX11_often_24 rfl fl_X11_28 ?_
      refine J_iload_n (nx := 28) dX11_often_27 rfl rfl ?_
      refine J_iload_n (nx := 29) dX11_often_28 rfl rfl ?_
      refine JcKV2 (R' := rm (1) 0 0) (nx := 32) dX11_often_29 rfl ml_X1_rateOf lk_X11_255 iv_X1_rateOf rfl rfl ⟨(Nat.le_of_ble_eq_true rfl), (Nat.le_of_ble_eq_true rfl)⟩ (Nat.le_of_ble_eq_true rfl) ⟨rfl, rfl⟩ ⟨(Nat.le_of_ble_eq_true rfl), (Nat.le_of_ble_eq_true rfl)⟩ (ct_X1_rateOf _ _ _) ?_
      exact Jri dX11_often_32 rfl (Nat.le_of_ble_eq_true rfl) (Nat.le_of_ble_eq_true rfl) ⟨rfl, rfl⟩

set_option maxRecDepth 100000 in
set_option maxHeartbeats 4000000 in
theorem ct_rate (g : GS) (s x n : Int32) : Ct mX11_rate (rm 10 2 12) [.ref 0, .int s, .int x, .int n] (Wd g) (FX [(fSo g s && fSt x, x_iob), (fWi n 999, x_iae)] (RR (.inl (some (.int (bk_rt g 20 s x)))) (bk_sr g 20 s x n)) g) := by
  refine Ct.of (by decide +kernel) (Nat.le_of_ble_eq_true rfl) ?_
  show J _ _ _ _ 0 [some (.ref 0), some (.int s), some (.int x), some (.int n), none] [] _ 0 0
  refine J_aload_n (nx := 1) dX11_rate_0 rfl rfl ?_
  refine J_iload_n (nx := 2) dX11_rate_1 rfl rfl ?_
  refine JcKV1 (R' := rm (0) 0 0) (nx := 5) dX11_rate_2 rfl ml_X11_isSort lk_X11_245 iv_X11_isSort rfl rfl ⟨(Nat.le_of_ble_eq_true rfl), (Nat.le_of_ble_eq_true rfl)⟩ (Nat.le_of_ble_eq_true rfl) ⟨rfl, rfl⟩ ⟨(Nat.le_of_ble_eq_true rfl), (Nat.le_of_ble_eq_true rfl)⟩ (ct_isSort _ _) ?_
  refine J_if_eq (nx := 8) (tgt := 19) dX11_rate_5 rfl (by decide) (fun c_5 => ?_) (fun c_5 => ?_)
  · refine J_iconst (nx := 20) (i := 0) (v := 0) (by decide) dX11_rate_19 rfl ?_
    refine J.topi (bI (fSo g s && fSt x)) (by first | (rw [bI_0.mp c_5]; rfl) | (rw [bI_n0.mp c_5, bI_0.mp c_12]; rfl) | (rw [bI_n0.mp c_5, bI_n0.mp c_12]; rfl)) ?_
    refine JtKS1 (R' := rm (0) 1 6) (nx := 23) dX11_rate_20 rfl ml_X11_requirePlace lk_X11_133 st_X11_requirePlace ⟨(Nat.le_of_ble_eq_true rfl), (Nat.le_of_ble_eq_true rfl)⟩ (Nat.le_of_ble_eq_true rfl) ⟨rfl, rfl⟩ ⟨(Nat.le_of_ble_eq_true rfl), (Nat.le_of_ble_eq_true rfl)⟩ (ct_requirePlace _ (fSo g s && fSt x)) (fun t_20 => ?_)
    refine J_iload_n (nx := 24) dX11_rate_23 rfl rfl ?_
    refine J_sipush (nx := 27) (i := 999) (v := 999) (by decide) dX11_rate_24 rfl ?_
    refine JcKS2 (R' := rm (0) 0 0) (nx := 30) dX11_rate_27 rfl ml_X11_within lk_X11_75 st_X11_within ⟨(Nat.le_of_ble_eq_true rfl), (Nat.le_of_ble_eq_true rfl)⟩ (Nat.le_of_ble_eq_true rfl) ⟨rfl, rfl⟩ ⟨(Nat.le_of_ble_eq_true rfl), (Nat.le_of_ble_eq_true rfl)⟩ (ct_within _ _ _) ?_
    refine JtKS1 (R' := rm (0) 1 6) (nx := 33) dX11_rate_30 rfl ml_X11_requireNumber lk_X11_83 st_X11_requireNumber ⟨(Nat.le_of_ble_eq_true rfl), (Nat.le_of_ble_eq_true rfl)⟩ (Nat.le_of_ble_eq_true rfl) ⟨rfl, rfl⟩ ⟨(Nat.le_of_ble_eq_true rfl), (Nat.le_of_ble_eq_true rfl)⟩ (ct_requireNumber _ (fWi n 999)) (fun t_30 => ?_)
    refine J_aload_n (nx := 34) dX11_rate_33 rfl rfl ?_
    refine Jg_0_2 (nx := 37) dX11_rate_34 rfl fl_X11_28 ?_
    refine J_iload_n (nx := 38) dX11_rate_37 rfl rfl ?_
    refine J_iload_n (nx := 39) dX11_rate_38 rfl rfl ?_
    refine JcKV2 (R' := rm (1) 0 0) (nx := 42) dX11_rate_39 rfl ml_X1_rateOf lk_X11_255 iv_X1_rateOf rfl rfl ⟨(Nat.le_of_ble_eq_true rfl), (Nat.le_of_ble_eq_true rfl)⟩ (Nat.le_of_ble_eq_true rfl) ⟨rfl, rfl⟩ ⟨(Nat.le_of_ble_eq_true rfl), (Nat.le_of_ble_eq_true rfl)⟩ (ct_X1_rateOf _ _ _) ?_
    refine J_istore (nx := 44) dX11_rate_42 rfl rfl (Nat.le_of_ble_eq_true rfl) ?_
    refine J_aload_n (nx := 45) dX11_rate_44 rfl rfl ?_
    refine Jg_0_2 (nx := 48) dX11_rate_45 rfl fl_X11_28 ?_
    refine J_iload_n (nx := 49) dX11_rate_48 rfl rfl ?_
    refine J_iload_n (nx := 50) dX11_rate_49 rfl rfl ?_
    refine J_iload_n (nx := 51) dX11_rate_50 rfl rfl ?_
    refine JcKV3 (R' := rm (1) 0 0) (nx := 54) dX11_rate_51 rfl ml_X1_setRate lk_X11_258 iv_X1_setRate rfl rfl ⟨(Nat.le_of_ble_eq_true rfl), (Nat.le_of_ble_eq_true rfl)⟩ (Nat.le_of_ble_eq_true rfl) ⟨rfl, rfl⟩ ⟨(Nat.le_of_ble_eq_true rfl), (Nat.le_of_ble_eq_true rfl)⟩ (ct_X1_setRate _ _ _ _) ?_
    refine J_iload (nx := 56) dX11_rate_54 rfl rfl ?_
    exact Jri dX11_rate_56 rfl (Nat.le_of_ble_eq_true rfl) (Nat.le_of_ble_eq_true rfl) ⟨rfl, rfl⟩
  · refine J_iload_n (nx := 9) dX11_rate_8 rfl rfl ?_
    refine JcKS1 (R' := rm (0) 0 0) (nx := 12) dX11_rate_9 rfl ml_X11_isState lk_X11_130 st_X11_isState ⟨(Nat.le_of_ble_eq_true rfl), (Nat.le_of_ble_eq_true rfl)⟩ (Nat.le_of_ble_eq_true rfl) ⟨rfl, rfl⟩ ⟨(Nat.le_of_ble_eq_true rfl), (Nat.le_of_ble_eq_true rfl)⟩ (ct_isState _ _) ?_
    refine J_if_eq (nx := 15) (tgt := 19) dX11_rate_12 rfl (by decide) (fun c_12 => ?_) (fun c_12 => ?_)
    · refine J_iconst (nx := 20) (i := 0) (v := 0) (by decide) dX11_rate_19 rfl ?_
      refine J.topi (bI (fSo g s && fSt x)) (by first | (rw [bI_0.mp c_5]; rfl) | (rw [bI_n0.mp c_5, bI_0.mp c_12]; rfl) | (rw [bI_n0.mp c_5, bI_n0.mp c_12]; rfl)) ?_
      refine JtKS1 (R' := rm (0) 1 6) (nx := 23) dX11_rate_20 rfl ml_X11_requirePlace lk_X11_133 st_X11_requirePlace ⟨(Nat.le_of_ble_eq_true rfl), (Nat.le_of_ble_eq_true rfl)⟩ (Nat.le_of_ble_eq_true rfl) ⟨rfl, rfl⟩ ⟨(Nat.le_of_ble_eq_true rfl), (Nat.le_of_ble_eq_true rfl)⟩ (ct_requirePlace _ (fSo g s && fSt x)) (fun t_20 => ?_)
      refine J_iload_n (nx := 24) dX11_rate_23 rfl rfl ?_
      refine J_sipush (nx := 27) (i := 999) (v := 999) (by decide) dX11_rate_24 rfl ?_
      refine JcKS2 (R' := rm (0) 0 0) (nx := 30) dX11_rate_27 rfl ml_X11_within lk_X11_75 st_X11_within ⟨(Nat.le_of_ble_eq_true rfl), (Nat.le_of_ble_eq_true rfl)⟩ (Nat.le_of_ble_eq_true rfl) ⟨rfl, rfl⟩ ⟨(Nat.le_of_ble_eq_true rfl), (Nat.le_of_ble_eq_true rfl)⟩ (ct_within _ _ _) ?_
      refine JtKS1 (R' := rm (0) 1 6) (nx := 33) dX11_rate_30 rfl ml_X11_requireNumber lk_X11_83 st_X11_requireNumber ⟨(Nat.le_of_ble_eq_true rfl), (Nat.le_of_ble_eq_true rfl)⟩ (Nat.le_of_ble_eq_true rfl) ⟨rfl, rfl⟩ ⟨(Nat.le_of_ble_eq_true rfl), (Nat.le_of_ble_eq_true rfl)⟩ (ct_requireNumber _ (fWi n 999)) (fun t_30 => ?_)
      refine J_aload_n (nx := 34) dX11_rate_33 rfl rfl ?_
      refine Jg_0_2 (nx := 37) dX11_rate_34 rfl fl_X11_28 ?_
      refine J_iload_n (nx := 38) dX11_rate_37 rfl rfl ?_
      refine J_iload_n (nx := 39) dX11_rate_38 rfl rfl ?_
      refine JcKV2 (R' := rm (1) 0 0) (nx := 42) dX11_rate_39 rfl ml_X1_rateOf lk_X11_255 iv_X1_rateOf rfl rfl ⟨(Nat.le_of_ble_eq_true rfl), (Nat.le_of_ble_eq_true rfl)⟩ (Nat.le_of_ble_eq_true rfl) ⟨rfl, rfl⟩ ⟨(Nat.le_of_ble_eq_true rfl), (Nat.le_of_ble_eq_true rfl)⟩ (ct_X1_rateOf _ _ _) ?_
      refine J_istore (nx := 44) dX11_rate_42 rfl rfl (Nat.le_of_ble_eq_true rfl) ?_
      refine J_aload_n (nx := 45) dX11_rate_44 rfl rfl ?_
      refine Jg_0_2 (nx := 48) dX11_rate_45 rfl fl_X11_28 ?_
      refine J_iload_n (nx := 49) dX11_rate_48 rfl rfl ?_
      refine J_iload_n (nx := 50) dX11_rate_49 rfl rfl ?_
      refine J_iload_n (nx := 51) dX11_rate_50 rfl rfl ?_
      refine JcKV3 (R' := rm (1) 0 0) (nx := 54) dX11_rate_51 rfl ml_X1_setRate lk_X11_258 iv_X1_setRate rfl rfl ⟨(Nat.le_of_ble_eq_true rfl), (Nat.le_of_ble_eq_true rfl)⟩ (Nat.le_of_ble_eq_true rfl) ⟨rfl, rfl⟩ ⟨(Nat.le_of_ble_eq_true rfl), (Nat.le_of_ble_eq_true rfl)⟩ (ct_X1_setRate _ _ _ _) ?_
      refine J_iload (nx := 56) dX11_rate_54 rfl rfl ?_
      exact Jri dX11_rate_56 rfl (Nat.le_of_ble_eq_true rfl) (Nat.le_of_ble_eq_true rfl) ⟨rfl, rfl⟩
    · refine J_iconst (nx := 16) (i := 1) (v := 1) (by decide) dX11_rate_15 rfl ?_
      refine J_goto (nx := 20) dX11_rate_16 (by decide) ?_
      refine J.topi (bI (fSo g s && fSt x)) (by first | (rw [bI_0.mp c_5]; rfl) | (rw [bI_n0.mp c_5, bI_0.mp c_12]; rfl) | (rw [bI_n0.mp c_5, bI_n0.mp c_12]; rfl)) ?_
      refine JtKS1 (R' := rm (0) 1 6) (nx := 23) dX11_rate_20 rfl ml_X11_requirePlace lk_X11_133 st_X11_requirePlace ⟨(Nat.le_of_ble_eq_true rfl), (Nat.le_of_ble_eq_true rfl)⟩ (Nat.le_of_ble_eq_true rfl) ⟨rfl, rfl⟩ ⟨(Nat.le_of_ble_eq_true rfl), (Nat.le_of_ble_eq_true rfl)⟩ (ct_requirePlace _ (fSo g s && fSt x)) (fun t_20 => ?_)
      refine J_iload_n (nx := 24) dX11_rate_23 rfl rfl ?_
      refine J_sipush (nx := 27) (i := 999) (v := 999) (by decide) dX11_rate_24 rfl ?_
      refine JcKS2 (R' := rm (0) 0 0) (nx := 30) dX11_rate_27 rfl ml_X11_within lk_X11_75 st_X11_within ⟨(Nat.le_of_ble_eq_true rfl), (Nat.le_of_ble_eq_true rfl)⟩ (Nat.le_of_ble_eq_true rfl) ⟨rfl, rfl⟩ ⟨(Nat.le_of_ble_eq_true rfl), (Nat.le_of_ble_eq_true rfl)⟩ (ct_within _ _ _) ?_
      refine JtKS1 (R' := rm (0) 1 6) (nx := 33) dX11_rate_30 rfl ml_X11_requireNumber lk_X11_83 st_X11_requireNumber ⟨(Nat.le_of_ble_eq_true rfl), (Nat.le_of_ble_eq_true rfl)⟩ (Nat.le_of_ble_eq_true rfl) ⟨rfl, rfl⟩ ⟨(Nat.le_of_ble_eq_true rfl), (Nat.le_of_ble_eq_true rfl)⟩ (ct_requireNumber _ (fWi n 999)) (fun t_30 => ?_)
      refine J_aload_n (nx := 34) dX11_rate_33 rfl rfl ?_
      refine Jg_0_2 (nx := 37) dX11_rate_34 rfl fl_X11_28 ?_
      refine J_iload_n (nx := 38) dX11_rate_37 rfl rfl ?_
      refine J_iload_n (nx := 39) dX11_rate_38 rfl rfl ?_
      refine JcKV2 (R' := rm (1) 0 0) (nx := 42) dX11_rate_39 rfl ml_X1_rateOf lk_X11_255 iv_X1_rateOf rfl rfl ⟨(Nat.le_of_ble_eq_true rfl), (Nat.le_of_ble_eq_true rfl)⟩ (Nat.le_of_ble_eq_true rfl) ⟨rfl, rfl⟩ ⟨(Nat.le_of_ble_eq_true rfl), (Nat.le_of_ble_eq_true rfl)⟩ (ct_X1_rateOf _ _ _) ?_
      refine J_istore (nx := 44) dX11_rate_42 rfl rfl (Nat.le_of_ble_eq_true rfl) ?_
      refine J_aload_n (nx := 45) dX11_rate_44 rfl rfl ?_
      refine Jg_0_2 (nx := 48) dX11_rate_45 rfl fl_X11_28 ?_
      refine J_iload_n (nx := 49) dX11_rate_48 rfl rfl ?_
      refine J_iload_n (nx := 50) dX11_rate_49 rfl rfl ?_
      refine J_iload_n (nx := 51) dX11_rate_50 rfl rfl ?_
      refine JcKV3 (R' := rm (1) 0 0) (nx := 54) dX11_rate_51 rfl ml_X1_setRate lk_X11_258 iv_X1_setRate rfl rfl ⟨(Nat.le_of_ble_eq_true rfl), (Nat.le_of_ble_eq_true rfl)⟩ (Nat.le_of_ble_eq_true rfl) ⟨rfl, rfl⟩ ⟨(Nat.le_of_ble_eq_true rfl), (Nat.le_of_ble_eq_true rfl)⟩ (ct_X1_setRate _ _ _ _) ?_
      refine J_iload (nx := 56) dX11_rate_54 rfl rfl ?_
      exact Jri dX11_rate_56 rfl (Nat.le_of_ble_eq_true rfl) (Nat.le_of_ble_eq_true rfl) ⟨rfl, rfl⟩

