
/-! Rest -/
def wosY (q : Option CD) (G : Nat) (so : Int32) (s : Nat) (g : GS) : GS := if ¬ nI s - nI s / 4 * 4 = 0 then g else lyAll g so (nI s / 4) (bk_cn g 20 so) q G
def wosE (g : GS) (fst : Int32) (s : Nat) : GS := sA g 62 (rPut 32 (gA g 62) (nI s) (if fst = 0 then mnI (rAt 32 (gA g 62) (nI s)) (gnI g (nI s)) else gnI g (nI s)))
def wosB (g : GS) (b : Int32) (s : Nat) : Int32 := if nI s = 0 then gnI g (nI s) else mxI b (gnI g (nI s))
def wosS (q : Option CD) (G : Nat) (so fst : Int32) (s : Nat) (p : Int32 × GS) : Int32 × GS := (wosB (wosY q G so s p.2) p.1 s, wosE (wosY q G so s p.2) fst s)
def wosR (q : Option CD) (G : Nat) (so fst : Int32) (g : GS) : Int32 × GS := itN (wosS q G so fst) 32 (0, g)
theorem wosY_n {q : Option CD} {G : Nat} {so : Int32} {s : Nat} {g : GS} (c : ¬ nI s - nI s / 4 * 4 = 0) : wosY q G so s g = g := if_pos c
theorem wosY_y {q : Option CD} {G : Nat} {so : Int32} {s : Nat} {g g1 : GS} (c : nI s - nI s / 4 * 4 = 0) (h : g1 = lyAll g so (nI s / 4) (bk_cn g 20 so) q G) : wosY q G so s g = g1 := (if_neg (fun z => z c)).trans h.symm
theorem wosS_e {q : Option CD} {G : Nat} {so fst : Int32} {s : Nat} {p : Int32 × GS} {g1 g2 : GS} {b : Int32} (h : wosY q G so s p.2 = g1) (h1 : wosB g1 p.1 s = b) (h2 : wosE g1 fst s = g2) : wosS q G so fst s p = (b, g2) := by unfold wosS; rw [h, h1, h2]
theorem wosB_0 {g : GS} {b : Int32} {s : Nat} (c : nI s = 0) : wosB g b s = gnI g (nI s) := if_pos c
theorem wosB_1 {g : GS} {b : Int32} {s : Nat} (c : ¬ nI s = 0) : wosB g b s = mxI b (gnI g (nI s)) := if_neg c
theorem wosE_0 {g g2 : GS} {f : Int32} {s : Nat} (c : f = 0) (h : g2 = sA g 62 (rPut 32 (gA g 62) (nI s) (mnI (rAt 32 (gA g 62) (nI s)) (gnI g (nI s))))) : wosE g f s = g2 := by unfold wosE; rw [if_pos c, h]
theorem wosE_1 {g g2 : GS} {f : Int32} {s : Nat} (c : ¬ f = 0) (h : g2 = sA g 62 (rPut 32 (gA g 62) (nI s) (gnI g (nI s)))) : wosE g f s = g2 := by unfold wosE; rw [if_neg c, h]
theorem LayOK.wos {p : Int32 × GS} {q : Option CD} {G : Nat} (h : LayOK p.2 q G) (so fst : Int32) (n : Nat) : LayOK (itN (wosS q G so fst) n p).2 q G :=
  itN_inv (f := wosS q G so fst) (fun x => LayOK x.2 q G) (fun s a ha => by
    show LayOK (wosE (wosY q G so s a.2) fst s) q G
    refine LayOK.sa ?_ _ _
    unfold wosY
    split
    · exact ha
    · exact ha.ly _ _ _) n h
theorem wosY_P (q : Option CD) (G : Nat) (so : Int32) (s : Nat) (g : GS) : gP (wosY q G so s g) = gP g := by
  unfold wosY
  split
  · rfl
  · exact ly_P _ _ _ _ _ _
theorem wosY_T (q : Option CD) (G : Nat) (so : Int32) (s : Nat) (g : GS) : gT (wosY q G so s g) = gT g := by
  unfold wosY
  split
  · rfl
  · exact ly_T _ _ _ _ _ _
theorem wosY_F12 (q : Option CD) (G : Nat) (so : Int32) (s : Nat) (g : GS) : gF (wosY q G so s g) 40 12 = gF g 40 12 := by
  unfold wosY
  split
  · rfl
  · exact ly_F12 _ _ _ _ _ _
theorem ly_Fb (g : GS) (so z card : Int32) (q : Option CD) (G k : Nat) : gF (lyAll g so z card q G) 20 k = gF g 20 k := by unfold lyAll; rw [lyD_F]; rfl
theorem wosY_Fb (q : Option CD) (G : Nat) (so : Int32) (s k : Nat) (g : GS) : gF (wosY q G so s g) 20 k = gF g 20 k := by
  unfold wosY
  split
  · rfl
  · exact ly_Fb _ _ _ _ _ _ _
theorem wos_P (q : Option CD) (G : Nat) (so fst : Int32) (g : GS) : gP (wosR q G so fst g).2 = gP g :=
  itN_inv (f := wosS q G so fst) (fun x => gP x.2 = gP g) (fun s a ha => (wosY_P q G so s a.2).trans ha) 32 rfl
theorem wos_T (q : Option CD) (G : Nat) (so fst : Int32) (g : GS) : gT (wosR q G so fst g).2 = gT g :=
  itN_inv (f := wosS q G so fst) (fun x => gT x.2 = gT g) (fun s a ha => (wosY_T q G so s a.2).trans ha) 32 rfl
theorem wos_F12 (q : Option CD) (G : Nat) (so fst : Int32) (g : GS) : gF (wosR q G so fst g).2 40 12 = gF g 40 12 :=
  itN_inv (f := wosS q G so fst) (fun x => gF x.2 40 12 = gF g 40 12) (fun s a ha => (wosY_F12 q G so s a.2).trans ha) 32 rfl
theorem wos_Fb (q : Option CD) (G : Nat) (so fst : Int32) (g : GS) (k : Nat) : gF (wosR q G so fst g).2 20 k = gF g 20 k :=
  itN_inv (f := wosS q G so fst) (fun x => gF x.2 20 k = gF g 20 k) (fun s a ha => (wosY_Fb q G so s k a.2).trans ha) 32 rfl
/-- the RULES that there are: Codes in the Book's row -/
def RulesAt (g : GS) (n : Nat) (cds : Nat → CD) : Prop := n ≤ 4 ∧ ∀ i, i < n → ∃ c, gP g 29 i = some c ∧ CodeT (gT g) c (cds i)
theorem RulesAt.congr {g g1 : GS} {n : Nat} {cds : Nat → CD} (h : RulesAt g n cds) (h1 : gP g1 = gP g) (h2 : gT g1 = gT g) : RulesAt g1 n cds := by
  unfold RulesAt
  rw [h1, h2]
  exact h
def jq (cds : Nat → CD) (j : Nat) : Option CD := if j < 5 then none else some (cds (j - 5))
theorem LayOK.seat {g : GS} {n : Nat} {cds : Nat → CD} {G : Nat} (hR : RulesAt g n cds) (hG : gF g 40 12 = nI G) (hG2 : G ≤ 10) {j : Nat} (hj : j < 5 + n) (bar : Int32) : LayOK (sF (sF g 40 8 (nI j)) 40 9 bar) (jq cds j) G := by
  refine ⟨?_, hG, hG2⟩
  have h4 := hR.1
  unfold jq
  by_cases h : j < 5
  · rw [if_pos h]
    show nI j < 5
    exact nI_lt (b := 5) h (by decide)
  · rw [if_neg h]
    obtain ⟨c, h1, h2⟩ := hR.2 (j - 5) (by omega)
    refine ⟨?_, j - 5, c, by omega, ?_, h1, h2⟩
    · show ¬ nI j < 5
      exact nI_nlt (b := 5) (by omega) (by omega)
    · show nI j - 5 = nI (j - 5)
      rw [show nI j = nI (j - 5) + 5 from by rw [show (5 : Int32) = nI 5 from rfl, nI_add, show j - 5 + 5 = j by omega], Int32.add_sub_cancel]
def wgS (cds : Nat → CD) (G : Nat) (bar so : Int32) (j : Nat) (g : GS) : GS × Int32 := ((wosR (jq cds j) G so (if ¬ nI j = 0 then 0 else 1) (sF (sF g 40 8 (nI j)) 40 9 bar)).2, (wosR (jq cds j) G so (if ¬ nI j = 0 then 0 else 1) (sF (sF g 40 8 (nI j)) 40 9 bar)).1)
def wgJ (cds : Nat → CD) (G : Nat) (bar so : Int32) (j : Nat) (g : GS) : GS :=
  if nI j = 0 then sF (sF (wgS cds G bar so j g).1 61 4 (wgS cds G bar so j g).2) 61 3 (nI j)
  else if gF (wgS cds G bar so j g).1 61 4 ≤ (wgS cds G bar so j g).2 then (wgS cds G bar so j g).1
  else sF (sF (wgS cds G bar so j g).1 61 4 (wgS cds G bar so j g).2) 61 3 (nI j)
theorem wgJ_e {cds : Nat → CD} {G : Nat} {bar so : Int32} {j : Nat} {g g1 g2 : GS} {v : Int32} (h : wgS cds G bar so j g = (g1, v)) (c : nI j = 0 ∨ ¬ nI j = 0 ∧ ¬ gF g1 61 4 ≤ v) (h2 : g2 = sF (sF g1 61 4 v) 61 3 (nI j)) : wgJ cds G bar so j g = g2 := by
  unfold wgJ
  rw [h, h2]
  rcases c with c | ⟨c, c2⟩
  · rw [if_pos c]
  · rw [if_neg c, if_neg c2]
theorem wgJ_k {cds : Nat → CD} {G : Nat} {bar so : Int32} {j : Nat} {g g1 : GS} {v : Int32} (h : wgS cds G bar so j g = (g1, v)) (c : ¬ nI j = 0) (c2 : gF g1 61 4 ≤ v) : wgJ cds G bar so j g = g1 := by
  unfold wgJ
  rw [h, if_neg c, if_pos c2]
def wgb (g : GS) (s : Nat) : GS := sF (sF g 61 6 (rAt 32 (gA g 62) (nI s))) 61 5 (nI s)
def wgB (s : Nat) (g : GS) : GS := if nI s = 0 then wgb g s else if rAt 32 (gA g 62) (nI s) ≤ gF g 61 6 then g else wgb g s
theorem wgB_e {s : Nat} {g g2 : GS} (c : nI s = 0 ∨ ¬ nI s = 0 ∧ ¬ rAt 32 (gA g 62) (nI s) ≤ gF g 61 6) (h2 : g2 = wgb g s) : wgB s g = g2 := by
  unfold wgB
  rw [h2]
  rcases c with c | ⟨c, c2⟩
  · rw [if_pos c]
  · rw [if_neg c, if_neg c2]
theorem wgB_k {s : Nat} {g : GS} (c : ¬ nI s = 0) (c2 : rAt 32 (gA g 62) (nI s) ≤ gF g 61 6) : wgB s g = g := by
  unfold wgB
  rw [if_neg c, if_pos c2]
def wgAll (cds : Nat → CD) (G n : Nat) (bar so : Int32) (g : GS) : GS := itN wgB 32 (itN (wgJ cds G bar so) (5 + n) g)
theorem wgJ_inv {cds : Nat → CD} {G : Nat} {bar so : Int32} {α : Type} (f : GS → α) (h1 : ∀ g k v, f (sF g 61 k v) = f g ∧ f (sF g 40 8 v) = f g ∧ f (sF g 40 9 v) = f g) (h2 : ∀ q fst g, f (wosR q G so fst g).2 = f g) (j : Nat) (g : GS) : f (wgJ cds G bar so j g) = f g := by
  have e : f (wgS cds G bar so j g).1 = f g := by
    unfold wgS
    rw [h2, (h1 _ 0 _).2.2, (h1 _ 0 _).2.1]
  unfold wgJ
  split
  · rw [(h1 _ _ _).1, (h1 _ _ _).1, e]
  · split
    · exact e
    · rw [(h1 _ _ _).1, (h1 _ _ _).1, e]
theorem wgI_P (cds : Nat → CD) (G : Nat) (bar so : Int32) (n : Nat) (g : GS) : gP (itN (wgJ cds G bar so) n g) = gP g :=
  itN_inv (f := wgJ cds G bar so) (fun x => gP x = gP g) (fun j a ha => (wgJ_inv gP (fun _ _ _ => ⟨rfl, rfl, rfl⟩) (fun _ _ _ => wos_P _ _ _ _ _) j a).trans ha) n rfl
theorem wgI_T (cds : Nat → CD) (G : Nat) (bar so : Int32) (n : Nat) (g : GS) : gT (itN (wgJ cds G bar so) n g) = gT g :=
  itN_inv (f := wgJ cds G bar so) (fun x => gT x = gT g) (fun j a ha => (wgJ_inv gT (fun _ _ _ => ⟨rfl, rfl, rfl⟩) (fun _ _ _ => wos_T _ _ _ _ _) j a).trans ha) n rfl
theorem wgI_G (cds : Nat → CD) (G : Nat) (bar so : Int32) (n : Nat) (g : GS) : gF (itN (wgJ cds G bar so) n g) 40 12 = gF g 40 12 :=
  itN_inv (f := wgJ cds G bar so) (fun x => gF x 40 12 = gF g 40 12) (fun j a ha => (wgJ_inv (fun x => gF x 40 12) (fun _ _ _ => ⟨rfl, rfl, rfl⟩) (fun _ _ _ => wos_F12 _ _ _ _ _) j a).trans ha) n rfl
theorem wgI_b (cds : Nat → CD) (G : Nat) (bar so : Int32) (n k : Nat) (g : GS) : gF (itN (wgJ cds G bar so) n g) 20 k = gF g 20 k :=
  itN_inv (f := wgJ cds G bar so) (fun x => gF x 20 k = gF g 20 k) (fun j a ha => (wgJ_inv (fun x => gF x 20 k) (fun _ _ _ => ⟨rfl, rfl, rfl⟩) (fun _ _ _ => wos_Fb _ _ _ _ _ _) j a).trans ha) n rfl

set_option maxRecDepth 100000 in
set_option maxHeartbeats 4000000 in
theorem lp_wos (q : Option CD) (G : Nat) (so fst : Int32) (p : Int32 × GS) (hL : LayOK p.2 q G) (Q : Res → List ME → Prop) (n0 : Nat) (hK : J mX5_worstOfSeated (rm 5 0 0) Q n0 105 [some (.ref 61), some (.int so), some (.int fst), some (.int (itN (wosS q G so fst) 32 p).1), some (.int (nI 32)), none] [] (Wd (itN (wosS q G so fst) 32 p).2) 0 0) : ∀ (k w : Nat), w ≤ 32 → 32 + 1 ≤ w + k → J mX5_worstOfSeated (rm 5 0 0) Q n0 5 [some (.ref 61), some (.int so), some (.int fst), some (.int (itN (wosS q G so fst) w p).1), some (.int (nI w)), none] [] (Wd (itN (wosS q G so fst) w p).2) 0 0 := by
  intro k
  induction k with
  | zero => intro w h1 h2; exact absurd h2 (by omega)
  | succ k ih =>
    intro w h1 h2
    refine J_iload (nx := 7) dX5_worstOfSeated_5 rfl rfl ?_
    refine J_bipush (nx := 9) (i := 32) (v := 32) (by decide) dX5_worstOfSeated_7 rfl ?_
    refine J_icmp_ge (nx := 12) (tgt := 105) dX5_worstOfSeated_9 rfl (by decide) (fun c_9 => ?_) (fun c_9 => ?_)
    · obtain rfl : w = 32 := cge h1 (by omega) c_9
      exact hK
    · have hw : w < 32 := clt h1 (by omega) c_9
      have ih2 := ih (w + 1) (by omega) (by omega)
      have hP := hL.wos so fst w
      rw [← nI_s w, itN_s (wosS q G so fst) w p] at ih2
      generalize itN (wosS q G so fst) w p = P at ih2 hP ⊢
      refine J_iload (nx := 14) dX5_worstOfSeated_12 rfl rfl ?_
      refine J_iconst (nx := 15) (i := 4) (v := 4) (by decide) dX5_worstOfSeated_14 rfl ?_
      refine J_irem (nx := 16) (by decide) dX5_worstOfSeated_15 rfl ?_
      refine J_if_ne (nx := 19) (tgt := 39) dX5_worstOfSeated_16 rfl (by decide) (fun c_16 => ?_) (fun c_16 => ?_)
      · have e1 : wosY q G so w P.2 = P.2 := by first | exact wosY_n c_16 | exact wosY_y c_16 hg_36
        refine J_aload_n (nx := 40) dX5_worstOfSeated_39 rfl rfl ?_
        refine Jg_61_1 (nx := 43) dX5_worstOfSeated_40 rfl fl_X5_19 ?_
        refine J_iload (nx := 45) dX5_worstOfSeated_43 rfl rfl ?_
        refine JcV1 (R' := rm 2 0 0) (nx := 48) dX5_worstOfSeated_45 rfl ml_X0_gain lk_X5_65 iv_X0_gain rfl rfl ⟨(Nat.le_of_ble_eq_true rfl), (Nat.le_of_ble_eq_true rfl)⟩ (Nat.le_of_ble_eq_true rfl) ⟨rfl, rfl⟩ (ct_gain _ _) ?_
        refine J_istore (nx := 50) dX5_worstOfSeated_48 rfl rfl (Nat.le_of_ble_eq_true rfl) ?_
        refine J_iload (nx := 52) dX5_worstOfSeated_50 rfl rfl ?_
        refine J_if_ne (nx := 55) (tgt := 60) dX5_worstOfSeated_52 rfl (by decide) (fun c_52 => ?_) (fun c_52 => ?_)
        · refine J_iload_n (nx := 61) dX5_worstOfSeated_60 rfl rfl ?_
          refine J_iload (nx := 63) dX5_worstOfSeated_61 rfl rfl ?_
          refine JcS2 (R' := rm 0 0 0) (nx := 66) dX5_worstOfSeated_63 rfl ml_J9_max_7cf53 lk_X5_68 st_J9_max_7cf53 ⟨(Nat.le_of_ble_eq_true rfl), (Nat.le_of_ble_eq_true rfl)⟩ (Nat.le_of_ble_eq_true rfl) ⟨rfl, rfl⟩ (ct_max _ _ _) ?_
          refine J_istore_n (nx := 67) dX5_worstOfSeated_66 rfl rfl (Nat.le_of_ble_eq_true rfl) ?_
          refine J_aload_n (nx := 68) dX5_worstOfSeated_67 rfl rfl ?_
          refine Jg_61_2 (nx := 71) dX5_worstOfSeated_68 rfl fl_X5_9 ?_
          refine J_iload (nx := 73) dX5_worstOfSeated_71 rfl rfl ?_
          refine J_iload_n (nx := 74) dX5_worstOfSeated_73 rfl rfl ?_
          refine J_if_eq (nx := 77) (tgt := 82) dX5_worstOfSeated_74 rfl (by decide) (fun c_74 => ?_) (fun c_74 => ?_)
          · refine J_aload_n (nx := 83) dX5_worstOfSeated_82 rfl rfl ?_
            refine Jg_61_2 (nx := 86) dX5_worstOfSeated_83 rfl fl_X5_9 ?_
            refine J_iload (nx := 88) dX5_worstOfSeated_86 rfl rfl ?_
            refine JcS2 (R' := rm 0 0 0) (nx := 91) dX5_worstOfSeated_88 rfl ml_X6_at lk_X5_45 st_X6_at ⟨(Nat.le_of_ble_eq_true rfl), (Nat.le_of_ble_eq_true rfl)⟩ (Nat.le_of_ble_eq_true rfl) ⟨rfl, rfl⟩ (ct_at _ 62 32 _ _ rfl (by decide)) ?_
            refine J_iload (nx := 93) dX5_worstOfSeated_91 rfl rfl ?_
            refine JcS2 (R' := rm 0 0 0) (nx := 96) dX5_worstOfSeated_93 rfl ml_J9_min_7cf53 lk_X5_74 st_J9_min_7cf53 ⟨(Nat.le_of_ble_eq_true rfl), (Nat.le_of_ble_eq_true rfl)⟩ (Nat.le_of_ble_eq_true rfl) ⟨rfl, rfl⟩ (ct_min _ _ _) ?_
            refine JcS3 (R' := rm 0 0 0) (nx := 99) dX5_worstOfSeated_96 rfl ml_X6_put lk_X5_77 st_X6_put ⟨(Nat.le_of_ble_eq_true rfl), (Nat.le_of_ble_eq_true rfl)⟩ (Nat.le_of_ble_eq_true rfl) ⟨rfl, rfl⟩ (ct_put _ 62 32 _ _ rfl (fun _ => rfl) (by decide)) ?_
            refine J.gen (fun g_96 hg_96 => ?_)
            refine J_iinc (nx := 102) dX5_worstOfSeated_99 rfl rfl rfl (Nat.le_of_ble_eq_true rfl) ?_
            refine J_goto (nx := 5) dX5_worstOfSeated_102 (by decide) ?_
            refine J_kill (nx := 0) 5 ?_
            first
              | (rw [wosS_e e1 (wosB_0 c_52) (by first | exact wosE_0 c_74 hg_96 | exact wosE_1 c_74 hg_96)] at ih2; exact ih2)
              | (rw [wosS_e e1 (wosB_1 c_52) (by first | exact wosE_0 c_74 hg_96 | exact wosE_1 c_74 hg_96)] at ih2; exact ih2)
          · refine J_iload (nx := 79) dX5_worstOfSeated_77 rfl rfl ?_
            refine J_goto (nx := 96) dX5_worstOfSeated_79 (by decide) ?_
            refine JcS3 (R' := rm 0 0 0) (nx := 99) dX5_worstOfSeated_96 rfl ml_X6_put lk_X5_77 st_X6_put ⟨(Nat.le_of_ble_eq_true rfl), (Nat.le_of_ble_eq_true rfl)⟩ (Nat.le_of_ble_eq_true rfl) ⟨rfl, rfl⟩ (ct_put _ 62 32 _ _ rfl (fun _ => rfl) (by decide)) ?_
            refine J.gen (fun g_96 hg_96 => ?_)
            refine J_iinc (nx := 102) dX5_worstOfSeated_99 rfl rfl rfl (Nat.le_of_ble_eq_true rfl) ?_
            refine J_goto (nx := 5) dX5_worstOfSeated_102 (by decide) ?_
            refine J_kill (nx := 0) 5 ?_
            first
              | (rw [wosS_e e1 (wosB_0 c_52) (by first | exact wosE_0 c_74 hg_96 | exact wosE_1 c_74 hg_96)] at ih2; exact ih2)
              | (rw [wosS_e e1 (wosB_1 c_52) (by first | exact wosE_0 c_74 hg_96 | exact wosE_1 c_74 hg_96)] at ih2; exact ih2)
        · refine J_iload (nx := 57) dX5_worstOfSeated_55 rfl rfl ?_
          refine J_goto (nx := 66) dX5_worstOfSeated_57 (by decide) ?_
          refine J_istore_n (nx := 67) dX5_worstOfSeated_66 rfl rfl (Nat.le_of_ble_eq_true rfl) ?_
          refine J_aload_n (nx := 68) dX5_worstOfSeated_67 rfl rfl ?_
          refine Jg_61_2 (nx := 71) dX5_worstOfSeated_68 rfl fl_X5_9 ?_
          refine J_iload (nx := 73) dX5_worstOfSeated_71 rfl rfl ?_
          refine J_iload_n (nx := 74) dX5_worstOfSeated_73 rfl rfl ?_
          refine J_if_eq (nx := 77) (tgt := 82) dX5_worstOfSeated_74 rfl (by decide) (fun c_74 => ?_) (fun c_74 => ?_)
          · refine J_aload_n (nx := 83) dX5_worstOfSeated_82 rfl rfl ?_
            refine Jg_61_2 (nx := 86) dX5_worstOfSeated_83 rfl fl_X5_9 ?_
            refine J_iload (nx := 88) dX5_worstOfSeated_86 rfl rfl ?_
            refine JcS2 (R' := rm 0 0 0) (nx := 91) dX5_worstOfSeated_88 rfl ml_X6_at lk_X5_45 st_X6_at ⟨(Nat.le_of_ble_eq_true rfl), (Nat.le_of_ble_eq_true rfl)⟩ (Nat.le_of_ble_eq_true rfl) ⟨rfl, rfl⟩ (ct_at _ 62 32 _ _ rfl (by decide)) ?_
            refine J_iload (nx := 93) dX5_worstOfSeated_91 rfl rfl ?_
            refine JcS2 (R' := rm 0 0 0) (nx := 96) dX5_worstOfSeated_93 rfl ml_J9_min_7cf53 lk_X5_74 st_J9_min_7cf53 ⟨(Nat.le_of_ble_eq_true rfl), (Nat.le_of_ble_eq_true rfl)⟩ (Nat.le_of_ble_eq_true rfl) ⟨rfl, rfl⟩ (ct_min _ _ _) ?_
            refine JcS3 (R' := rm 0 0 0) (nx := 99) dX5_worstOfSeated_96 rfl ml_X6_put lk_X5_77 st_X6_put ⟨(Nat.le_of_ble_eq_true rfl), (Nat.le_of_ble_eq_true rfl)⟩ (Nat.le_of_ble_eq_true rfl) ⟨rfl, rfl⟩ (ct_put _ 62 32 _ _ rfl (fun _ => rfl) (by decide)) ?_
            refine J.gen (fun g_96 hg_96 => ?_)
            refine J_iinc (nx := 102) dX5_worstOfSeated_99 rfl rfl rfl (Nat.le_of_ble_eq_true rfl) ?_
            refine J_goto (nx := 5) dX5_worstOfSeated_102 (by decide) ?_
            refine J_kill (nx := 0) 5 ?_
            first
              | (rw [wosS_e e1 (wosB_0 c_52) (by first | exact wosE_0 c_74 hg_96 | exact wosE_1 c_74 hg_96)] at ih2; exact ih2)
              | (rw [wosS_e e1 (wosB_1 c_52) (by first | exact wosE_0 c_74 hg_96 | exact wosE_1 c_74 hg_96)] at ih2; exact ih2)
          · refine J_iload (nx := 79) dX5_worstOfSeated_77 rfl rfl ?_
            refine J_goto (nx := 96) dX5_worstOfSeated_79 (by decide) ?_
            refine JcS3 (R' := rm 0 0 0) (nx := 99) dX5_worstOfSeated_96 rfl ml_X6_put lk_X5_77 st_X6_put ⟨(Nat.le_of_ble_eq_true rfl), (Nat.le_of_ble_eq_true rfl)⟩ (Nat.le_of_ble_eq_true rfl) ⟨rfl, rfl⟩ (ct_put _ 62 32 _ _ rfl (fun _ => rfl) (by decide)) ?_
            refine J.gen (fun g_96 hg_96 => ?_)
            refine J_iinc (nx := 102) dX5_worstOfSeated_99 rfl rfl rfl (Nat.le_of_ble_eq_true rfl) ?_
            refine J_goto (nx := 5) dX5_worstOfSeated_102 (by decide) ?_
            refine J_kill (nx := 0) 5 ?_
            first
              | (rw [wosS_e e1 (wosB_0 c_52) (by first | exact wosE_0 c_74 hg_96 | exact wosE_1 c_74 hg_96)] at ih2; exact ih2)
              | (rw [wosS_e e1 (wosB_1 c_52) (by first | exact wosE_0 c_74 hg_96 | exact wosE_1 c_74 hg_96)] at ih2; exact ih2)
      · refine J_aload_n (nx := 20) dX5_worstOfSeated_19 rfl rfl ?_
        refine Jg_61_1 (nx := 23) dX5_worstOfSeated_20 rfl fl_X5_19 ?_
        refine J_iload_n (nx := 24) dX5_worstOfSeated_23 rfl rfl ?_
        refine J_iload (nx := 26) dX5_worstOfSeated_24 rfl rfl ?_
        refine J_iconst (nx := 27) (i := 4) (v := 4) (by decide) dX5_worstOfSeated_26 rfl ?_
        refine J_idiv (nx := 28) (by decide) dX5_worstOfSeated_27 rfl ?_
        refine J_aload_n (nx := 29) dX5_worstOfSeated_28 rfl rfl ?_
        refine Jg_61_0 (nx := 32) dX5_worstOfSeated_29 rfl fl_X5_15 ?_
        refine J_iload_n (nx := 33) dX5_worstOfSeated_32 rfl rfl ?_
        refine JcV1 (R' := rm 3 0 0) (nx := 36) dX5_worstOfSeated_33 rfl ml_X1_cardNow lk_X5_57 iv_X1_cardNow rfl rfl ⟨(Nat.le_of_ble_eq_true rfl), (Nat.le_of_ble_eq_true rfl)⟩ (Nat.le_of_ble_eq_true rfl) ⟨rfl, rfl⟩ (ct_X1_cardNow _ _) ?_
        refine JcV3 (R' := rm 4 0 0) (nx := 39) dX5_worstOfSeated_36 rfl ml_X0_lay lk_X5_61 iv_X0_lay rfl rfl ⟨(Nat.le_of_ble_eq_true rfl), (Nat.le_of_ble_eq_true rfl)⟩ (Nat.le_of_ble_eq_true rfl) ⟨rfl, rfl⟩ (ct_lay1 _ _ _ _ q G (hP)) ?_
        refine J.gen (fun g_36 hg_36 => ?_)
        have e1 : wosY q G so w P.2 = g_36 := by first | exact wosY_n c_16 | exact wosY_y c_16 hg_36
        refine J_aload_n (nx := 40) dX5_worstOfSeated_39 rfl rfl ?_
        refine Jg_61_1 (nx := 43) dX5_worstOfSeated_40 rfl fl_X5_19 ?_
        refine J_iload (nx := 45) dX5_worstOfSeated_43 rfl rfl ?_
        refine JcV1 (R' := rm 2 0 0) (nx := 48) dX5_worstOfSeated_45 rfl ml_X0_gain lk_X5_65 iv_X0_gain rfl rfl ⟨(Nat.le_of_ble_eq_true rfl), (Nat.le_of_ble_eq_true rfl)⟩ (Nat.le_of_ble_eq_true rfl) ⟨rfl, rfl⟩ (ct_gain _ _) ?_
        refine J_istore (nx := 50) dX5_worstOfSeated_48 rfl rfl (Nat.le_of_ble_eq_true rfl) ?_
        refine J_iload (nx := 52) dX5_worstOfSeated_50 rfl rfl ?_
        refine J_if_ne (nx := 55) (tgt := 60) dX5_worstOfSeated_52 rfl (by decide) (fun c_52 => ?_) (fun c_52 => ?_)
        · refine J_iload_n (nx := 61) dX5_worstOfSeated_60 rfl rfl ?_
          refine J_iload (nx := 63) dX5_worstOfSeated_61 rfl rfl ?_
          refine JcS2 (R' := rm 0 0 0) (nx := 66) dX5_worstOfSeated_63 rfl ml_J9_max_7cf53 lk_X5_68 st_J9_max_7cf53 ⟨(Nat.le_of_ble_eq_true rfl), (Nat.le_of_ble_eq_true rfl)⟩ (Nat.le_of_ble_eq_true rfl) ⟨rfl, rfl⟩ (ct_max _ _ _) ?_
          refine J_istore_n (nx := 67) dX5_worstOfSeated_66 rfl rfl (Nat.le_of_ble_eq_true rfl) ?_
          refine J_aload_n (nx := 68) dX5_worstOfSeated_67 rfl rfl ?_
          refine Jg_61_2 (nx := 71) dX5_worstOfSeated_68 rfl fl_X5_9 ?_
          refine J_iload (nx := 73) dX5_worstOfSeated_71 rfl rfl ?_
          refine J_iload_n (nx := 74) dX5_worstOfSeated_73 rfl rfl ?_
          refine J_if_eq (nx := 77) (tgt := 82) dX5_worstOfSeated_74 rfl (by decide) (fun c_74 => ?_) (fun c_74 => ?_)
          · refine J_aload_n (nx := 83) dX5_worstOfSeated_82 rfl rfl ?_
            refine Jg_61_2 (nx := 86) dX5_worstOfSeated_83 rfl fl_X5_9 ?_
            refine J_iload (nx := 88) dX5_worstOfSeated_86 rfl rfl ?_
            refine JcS2 (R' := rm 0 0 0) (nx := 91) dX5_worstOfSeated_88 rfl ml_X6_at lk_X5_45 st_X6_at ⟨(Nat.le_of_ble_eq_true rfl), (Nat.le_of_ble_eq_true rfl)⟩ (Nat.le_of_ble_eq_true rfl) ⟨rfl, rfl⟩ (ct_at _ 62 32 _ _ rfl (by decide)) ?_
            refine J_iload (nx := 93) dX5_worstOfSeated_91 rfl rfl ?_
            refine JcS2 (R' := rm 0 0 0) (nx := 96) dX5_worstOfSeated_93 rfl ml_J9_min_7cf53 lk_X5_74 st_J9_min_7cf53 ⟨(Nat.le_of_ble_eq_true rfl), (Nat.le_of_ble_eq_true rfl)⟩ (Nat.le_of_ble_eq_true rfl) ⟨rfl, rfl⟩ (ct_min _ _ _) ?_
            refine JcS3 (R' := rm 0 0 0) (nx := 99) dX5_worstOfSeated_96 rfl ml_X6_put lk_X5_77 st_X6_put ⟨(Nat.le_of_ble_eq_true rfl), (Nat.le_of_ble_eq_true rfl)⟩ (Nat.le_of_ble_eq_true rfl) ⟨rfl, rfl⟩ (ct_put _ 62 32 _ _ rfl (fun _ => rfl) (by decide)) ?_
            refine J.gen (fun g_96 hg_96 => ?_)
            refine J_iinc (nx := 102) dX5_worstOfSeated_99 rfl rfl rfl (Nat.le_of_ble_eq_true rfl) ?_
            refine J_goto (nx := 5) dX5_worstOfSeated_102 (by decide) ?_
            refine J_kill (nx := 0) 5 ?_
            first
              | (rw [wosS_e e1 (wosB_0 c_52) (by first | exact wosE_0 c_74 hg_96 | exact wosE_1 c_74 hg_96)] at ih2; exact ih2)
              | (rw [wosS_e e1 (wosB_1 c_52) (by first | exact wosE_0 c_74 hg_96 | exact wosE_1 c_74 hg_96)] at ih2; exact ih2)
          · refine J_iload (nx := 79) dX5_worstOfSeated_77 rfl rfl ?_
            refine J_goto (nx := 96) dX5_worstOfSeated_79 (by decide) ?_
            refine JcS3 (R' := rm 0 0 0) (nx := 99) dX5_worstOfSeated_96 rfl ml_X6_put lk_X5_77 st_X6_put ⟨(Nat.le_of_ble_eq_true rfl), (Nat.le_of_ble_eq_true rfl)⟩ (Nat.le_of_ble_eq_true rfl) ⟨rfl, rfl⟩ (ct_put _ 62 32 _ _ rfl (fun _ => rfl) (by decide)) ?_
            refine J.gen (fun g_96 hg_96 => ?_)
            refine J_iinc (nx := 102) dX5_worstOfSeated_99 rfl rfl rfl (Nat.le_of_ble_eq_true rfl) ?_
            refine J_goto (nx := 5) dX5_worstOfSeated_102 (by decide) ?_
            refine J_kill (nx := 0) 5 ?_
            first
              | (rw [wosS_e e1 (wosB_0 c_52) (by first | exact wosE_0 c_74 hg_96 | exact wosE_1 c_74 hg_96)] at ih2; exact ih2)
              | (rw [wosS_e e1 (wosB_1 c_52) (by first | exact wosE_0 c_74 hg_96 | exact wosE_1 c_74 hg_96)] at ih2; exact ih2)
        · refine J_iload (nx := 57) dX5_worstOfSeated_55 rfl rfl ?_
          refine J_goto (nx := 66) dX5_worstOfSeated_57 (by decide) ?_
          refine J_istore_n (nx := 67) dX5_worstOfSeated_66 rfl rfl (Nat.le_of_ble_eq_true rfl) ?_
          refine J_aload_n (nx := 68) dX5_worstOfSeated_67 rfl rfl ?_
          refine Jg_61_2 (nx := 71) dX5_worstOfSeated_68 rfl fl_X5_9 ?_
          refine J_iload (nx := 73) dX5_worstOfSeated_71 rfl rfl ?_
          refine J_iload_n (nx := 74) dX5_worstOfSeated_73 rfl rfl ?_
          refine J_if_eq (nx := 77) (tgt := 82) dX5_worstOfSeated_74 rfl (by decide) (fun c_74 => ?_) (fun c_74 => ?_)
          · refine J_aload_n (nx := 83) dX5_worstOfSeated_82 rfl rfl ?_
            refine Jg_61_2 (nx := 86) dX5_worstOfSeated_83 rfl fl_X5_9 ?_
            refine J_iload (nx := 88) dX5_worstOfSeated_86 rfl rfl ?_
            refine JcS2 (R' := rm 0 0 0) (nx := 91) dX5_worstOfSeated_88 rfl ml_X6_at lk_X5_45 st_X6_at ⟨(Nat.le_of_ble_eq_true rfl), (Nat.le_of_ble_eq_true rfl)⟩ (Nat.le_of_ble_eq_true rfl) ⟨rfl, rfl⟩ (ct_at _ 62 32 _ _ rfl (by decide)) ?_
            refine J_iload (nx := 93) dX5_worstOfSeated_91 rfl rfl ?_
            refine JcS2 (R' := rm 0 0 0) (nx := 96) dX5_worstOfSeated_93 rfl ml_J9_min_7cf53 lk_X5_74 st_J9_min_7cf53 ⟨(Nat.le_of_ble_eq_true rfl), (Nat.le_of_ble_eq_true rfl)⟩ (Nat.le_of_ble_eq_true rfl) ⟨rfl, rfl⟩ (ct_min _ _ _) ?_
            refine JcS3 (R' := rm 0 0 0) (nx := 99) dX5_worstOfSeated_96 rfl ml_X6_put lk_X5_77 st_X6_put ⟨(Nat.le_of_ble_eq_true rfl), (Nat.le_of_ble_eq_true rfl)⟩ (Nat.le_of_ble_eq_true rfl) ⟨rfl, rfl⟩ (ct_put _ 62 32 _ _ rfl (fun _ => rfl) (by decide)) ?_
            refine J.gen (fun g_96 hg_96 => ?_)
            refine J_iinc (nx := 102) dX5_worstOfSeated_99 rfl rfl rfl (Nat.le_of_ble_eq_true rfl) ?_
            refine J_goto (nx := 5) dX5_worstOfSeated_102 (by decide) ?_
            refine J_kill (nx := 0) 5 ?_
            first
              | (rw [wosS_e e1 (wosB_0 c_52) (by first | exact wosE_0 c_74 hg_96 | exact wosE_1 c_74 hg_96)] at ih2; exact ih2)
              | (rw [wosS_e e1 (wosB_1 c_52) (by first | exact wosE_0 c_74 hg_96 | exact wosE_1 c_74 hg_96)] at ih2; exact ih2)
          · refine J_iload (nx := 79) dX5_worstOfSeated_77 rfl rfl ?_
            refine J_goto (nx := 96) dX5_worstOfSeated_79 (by decide) ?_
            refine JcS3 (R' := rm 0 0 0) (nx := 99) dX5_worstOfSeated_96 rfl ml_X6_put lk_X5_77 st_X6_put ⟨(Nat.le_of_ble_eq_true rfl), (Nat.le_of_ble_eq_true rfl)⟩ (Nat.le_of_ble_eq_true rfl) ⟨rfl, rfl⟩ (ct_put _ 62 32 _ _ rfl (fun _ => rfl) (by decide)) ?_
            refine J.gen (fun g_96 hg_96 => ?_)
            refine J_iinc (nx := 102) dX5_worstOfSeated_99 rfl rfl rfl (Nat.le_of_ble_eq_true rfl) ?_
            refine J_goto (nx := 5) dX5_worstOfSeated_102 (by decide) ?_
            refine J_kill (nx := 0) 5 ?_
            first
              | (rw [wosS_e e1 (wosB_0 c_52) (by first | exact wosE_0 c_74 hg_96 | exact wosE_1 c_74 hg_96)] at ih2; exact ih2)
              | (rw [wosS_e e1 (wosB_1 c_52) (by first | exact wosE_0 c_74 hg_96 | exact wosE_1 c_74 hg_96)] at ih2; exact ih2)

set_option maxRecDepth 100000 in
set_option maxHeartbeats 4000000 in
theorem ct_wos (g : GS) (q : Option CD) (G : Nat) (so fst : Int32) (hL : LayOK g q G) : Ct mX5_worstOfSeated (rm 5 0 0) [.ref 61, .int so, .int fst] (Wd g) (RR (.inl (some (.int (wosR q G so fst g).1))) (wosR q G so fst g).2) := by
  refine Ct.of (by decide +kernel) (Nat.le_of_ble_eq_true rfl) ?_
  show J _ _ _ _ 0 [some (.ref 61), some (.int so), some (.int fst), none, none, none] [] _ 0 0
  refine J_iconst (nx := 1) (i := 0) (v := 0) (by decide) dX5_worstOfSeated_0 rfl ?_
  refine J_istore_n (nx := 2) dX5_worstOfSeated_1 rfl rfl (Nat.le_of_ble_eq_true rfl) ?_
  refine J_iconst (nx := 3) (i := 0) (v := 0) (by decide) dX5_worstOfSeated_2 rfl ?_
  refine J_istore (nx := 5) dX5_worstOfSeated_3 rfl rfl (Nat.le_of_ble_eq_true rfl) ?_
  refine lp_wos q G so fst (0, g) hL _ _ ?_ 33 0 (by omega) (by omega)
  unfold wosR
  generalize itN (wosS q G so fst) 32 (0, g) = P
  refine J_iload_n (nx := 106) dX5_worstOfSeated_105 rfl rfl ?_
  exact Jri dX5_worstOfSeated_106 rfl (Nat.zero_le _) (Nat.zero_le _) ⟨rfl, rfl⟩

set_option maxRecDepth 100000 in
set_option maxHeartbeats 4000000 in
theorem lp_weigh (cds : Nat → CD) (G n : Nat) (bar so : Int32) (g : GS) (hR : RulesAt g n cds) (hN : gF g 20 10 = nI n) (hn4 : n ≤ 4) (hG : gF g 40 12 = nI G) (hG2 : G ≤ 10) (Q : Res → List ME → Prop) (n0 : Nat) (hK : J mX5_weigh (rm 6 0 0) Q n0 70 [some (.ref 61), some (.int bar), some (.int so), some (.int (nI (5 + n))), none] [] (Wd (itN (wgJ cds G bar so) (5 + n) g)) 0 0) : ∀ (k w : Nat), w ≤ 5 + n → 5 + n + 1 ≤ w + k → J mX5_weigh (rm 6 0 0) Q n0 2 [some (.ref 61), some (.int bar), some (.int so), some (.int (nI w)), none] [] (Wd (itN (wgJ cds G bar so) w g)) 0 0 := by
  intro k
  induction k with
  | zero => intro w h1 h2; exact absurd h2 (by omega)
  | succ k ih =>
    intro w h1 h2
    refine J_iload_n (nx := 3) dX5_weigh_2 rfl rfl ?_
    refine J_iconst (nx := 4) (i := 5) (v := 5) (by decide) dX5_weigh_3 rfl ?_
    refine J_aload_n (nx := 5) dX5_weigh_4 rfl rfl ?_
    refine Jg_61_0 (nx := 8) dX5_weigh_5 rfl fl_X5_15 ?_
    refine Jg_20_10 (nx := 11) dX5_weigh_8 rfl fl_X5_23 ?_
    refine J_iadd (nx := 12) dX5_weigh_11 rfl ?_
    refine J_icmp_ge (nx := 15) (tgt := 70) dX5_weigh_12 rfl (by decide) (fun c_12 => ?_) (fun c_12 => ?_)
    · rw [wgI_b, hN, show (5 : Int32) + nI n = nI (5 + n) from nI_add 5 n] at c_12
      obtain rfl : w = 5 + n := cge h1 (by omega) c_12
      exact hK
    · rw [wgI_b, hN, show (5 : Int32) + nI n = nI (5 + n) from nI_add 5 n] at c_12
      have hw : w < 5 + n := clt h1 (by omega) c_12
      have ih2 := ih (w + 1) (by omega) (by omega)
      have hPR : RulesAt (itN (wgJ cds G bar so) w g) n cds := hR.congr (wgI_P _ _ _ _ _ _) (wgI_T _ _ _ _ _ _)
      have hPG : gF (itN (wgJ cds G bar so) w g) 40 12 = nI G := (wgI_G _ _ _ _ _ _).trans hG
      rw [← nI_s w, itN_s (wgJ cds G bar so) w g] at ih2
      generalize itN (wgJ cds G bar so) w g = P at ih2 hPR hPG ⊢
      refine J_aload_n (nx := 16) dX5_weigh_15 rfl rfl ?_
      refine Jg_61_1 (nx := 19) dX5_weigh_16 rfl fl_X5_19 ?_
      refine J_iload_n (nx := 20) dX5_weigh_19 rfl rfl ?_
      refine J_iload_n (nx := 21) dX5_weigh_20 rfl rfl ?_
      refine JcV2 (R' := rm 0 0 0) (nx := 24) dX5_weigh_21 rfl ml_X0_seat lk_X5_29 iv_X0_seat rfl rfl ⟨(Nat.le_of_ble_eq_true rfl), (Nat.le_of_ble_eq_true rfl)⟩ (Nat.le_of_ble_eq_true rfl) ⟨rfl, rfl⟩ (ct_seat _ _ _) ?_
      refine J.gen (fun g_21 hg_21 => ?_)
      refine J_aload_n (nx := 25) dX5_weigh_24 rfl rfl ?_
      refine J_iload_n (nx := 26) dX5_weigh_25 rfl rfl ?_
      refine J_iload_n (nx := 27) dX5_weigh_26 rfl rfl ?_
      refine J_if_ne (nx := 30) (tgt := 34) dX5_weigh_27 rfl (by decide) (fun c_27 => ?_) (fun c_27 => ?_)
      · refine J_iconst (nx := 35) (i := 0) (v := 0) (by decide) dX5_weigh_34 rfl ?_
        have hS : LayOK g_21 (jq cds w) G := by rw [hg_21]; exact LayOK.seat hPR hPG hG2 hw bar
        refine JcV2 (R' := rm 5 0 0) (nx := 38) dX5_weigh_35 rfl ml_X5_worstOfSeated lk_X5_35 iv_X5_worstOfSeated rfl rfl ⟨(Nat.le_of_ble_eq_true rfl), (Nat.le_of_ble_eq_true rfl)⟩ (Nat.le_of_ble_eq_true rfl) ⟨rfl, rfl⟩ (ct_wos _ (jq cds w) G _ _ (hS)) ?_
        refine J.gen (fun g_35 hg_35 => ?_)
        refine J_istore (nx := 40) dX5_weigh_38 rfl rfl (Nat.le_of_ble_eq_true rfl) ?_
        first
          | have e1 : wgS cds G bar so w P = (g_35, (wosR (jq cds w) G so 0 g_21).1) := by unfold wgS; rw [← hg_21, if_pos c_27, hg_35]
          | have e1 : wgS cds G bar so w P = (g_35, (wosR (jq cds w) G so 1 g_21).1) := by unfold wgS; rw [← hg_21, ite_nn c_27, hg_35]
        refine J_iload_n (nx := 41) dX5_weigh_40 rfl rfl ?_
        refine J_if_eq (nx := 44) (tgt := 53) dX5_weigh_41 rfl (by decide) (fun c_41 => ?_) (fun c_41 => ?_)
        · refine J_aload_n (nx := 54) dX5_weigh_53 rfl rfl ?_
          refine J_iload (nx := 56) dX5_weigh_54 rfl rfl ?_
          refine Jp_61_4 (nx := 59) dX5_weigh_56 rfl fl_X5_39 ?_
          refine J.gen (fun g_56 hg_56 => ?_)
          refine J_aload_n (nx := 60) dX5_weigh_59 rfl rfl ?_
          refine J_iload_n (nx := 61) dX5_weigh_60 rfl rfl ?_
          refine Jp_61_3 (nx := 64) dX5_weigh_61 rfl fl_X5_42 ?_
          refine J.gen (fun g_61 hg_61 => ?_)
          refine J_iinc (nx := 67) dX5_weigh_64 rfl rfl rfl (Nat.le_of_ble_eq_true rfl) ?_
          refine J_goto (nx := 2) dX5_weigh_67 (by decide) ?_
          refine J_kill (nx := 0) 4 ?_
          first
            | (rw [wgJ_k e1 c_41 c_50] at ih2; exact ih2)
            | (rw [wgJ_e (g2 := g_61) e1 (by first | exact Or.inl c_41 | exact Or.inr ⟨c_41, c_50⟩) (by rw [hg_61, hg_56])] at ih2; exact ih2)
        · refine J_iload (nx := 46) dX5_weigh_44 rfl rfl ?_
          refine J_aload_n (nx := 47) dX5_weigh_46 rfl rfl ?_
          refine Jg_61_4 (nx := 50) dX5_weigh_47 rfl fl_X5_39 ?_
          refine J_icmp_ge (nx := 53) (tgt := 64) dX5_weigh_50 rfl (by decide) (fun c_50 => ?_) (fun c_50 => ?_)
          · refine J_iinc (nx := 67) dX5_weigh_64 rfl rfl rfl (Nat.le_of_ble_eq_true rfl) ?_
            refine J_goto (nx := 2) dX5_weigh_67 (by decide) ?_
            refine J_kill (nx := 0) 4 ?_
            first
              | (rw [wgJ_k e1 c_41 c_50] at ih2; exact ih2)
              | (rw [wgJ_e (g2 := g_61) e1 (by first | exact Or.inl c_41 | exact Or.inr ⟨c_41, c_50⟩) (by rw [hg_61, hg_56])] at ih2; exact ih2)
          · refine J_aload_n (nx := 54) dX5_weigh_53 rfl rfl ?_
            refine J_iload (nx := 56) dX5_weigh_54 rfl rfl ?_
            refine Jp_61_4 (nx := 59) dX5_weigh_56 rfl fl_X5_39 ?_
            refine J.gen (fun g_56 hg_56 => ?_)
            refine J_aload_n (nx := 60) dX5_weigh_59 rfl rfl ?_
            refine J_iload_n (nx := 61) dX5_weigh_60 rfl rfl ?_
            refine Jp_61_3 (nx := 64) dX5_weigh_61 rfl fl_X5_42 ?_
            refine J.gen (fun g_61 hg_61 => ?_)
            refine J_iinc (nx := 67) dX5_weigh_64 rfl rfl rfl (Nat.le_of_ble_eq_true rfl) ?_
            refine J_goto (nx := 2) dX5_weigh_67 (by decide) ?_
            refine J_kill (nx := 0) 4 ?_
            first
              | (rw [wgJ_k e1 c_41 c_50] at ih2; exact ih2)
              | (rw [wgJ_e (g2 := g_61) e1 (by first | exact Or.inl c_41 | exact Or.inr ⟨c_41, c_50⟩) (by rw [hg_61, hg_56])] at ih2; exact ih2)
      · refine J_iconst (nx := 31) (i := 1) (v := 1) (by decide) dX5_weigh_30 rfl ?_
        refine J_goto (nx := 35) dX5_weigh_31 (by decide) ?_
        have hS : LayOK g_21 (jq cds w) G := by rw [hg_21]; exact LayOK.seat hPR hPG hG2 hw bar
        refine JcV2 (R' := rm 5 0 0) (nx := 38) dX5_weigh_35 rfl ml_X5_worstOfSeated lk_X5_35 iv_X5_worstOfSeated rfl rfl ⟨(Nat.le_of_ble_eq_true rfl), (Nat.le_of_ble_eq_true rfl)⟩ (Nat.le_of_ble_eq_true rfl) ⟨rfl, rfl⟩ (ct_wos _ (jq cds w) G _ _ (hS)) ?_
        refine J.gen (fun g_35 hg_35 => ?_)
        refine J_istore (nx := 40) dX5_weigh_38 rfl rfl (Nat.le_of_ble_eq_true rfl) ?_
        first
          | have e1 : wgS cds G bar so w P = (g_35, (wosR (jq cds w) G so 0 g_21).1) := by unfold wgS; rw [← hg_21, if_pos c_27, hg_35]
          | have e1 : wgS cds G bar so w P = (g_35, (wosR (jq cds w) G so 1 g_21).1) := by unfold wgS; rw [← hg_21, ite_nn c_27, hg_35]
        refine J_iload_n (nx := 41) dX5_weigh_40 rfl rfl ?_
        refine J_if_eq (nx := 44) (tgt := 53) dX5_weigh_41 rfl (by decide) (fun c_41 => ?_) (fun c_41 => ?_)
        · refine J_aload_n (nx := 54) dX5_weigh_53 rfl rfl ?_
          refine J_iload (nx := 56) dX5_weigh_54 rfl rfl ?_
          refine Jp_61_4 (nx := 59) dX5_weigh_56 rfl fl_X5_39 ?_
          refine J.gen (fun g_56 hg_56 => ?_)
          refine J_aload_n (nx := 60) dX5_weigh_59 rfl rfl ?_
          refine J_iload_n (nx := 61) dX5_weigh_60 rfl rfl ?_
          refine Jp_61_3 (nx := 64) dX5_weigh_61 rfl fl_X5_42 ?_
          refine J.gen (fun g_61 hg_61 => ?_)
          refine J_iinc (nx := 67) dX5_weigh_64 rfl rfl rfl (Nat.le_of_ble_eq_true rfl) ?_
          refine J_goto (nx := 2) dX5_weigh_67 (by decide) ?_
          refine J_kill (nx := 0) 4 ?_
          first
            | (rw [wgJ_k e1 c_41 c_50] at ih2; exact ih2)
            | (rw [wgJ_e (g2 := g_61) e1 (by first | exact Or.inl c_41 | exact Or.inr ⟨c_41, c_50⟩) (by rw [hg_61, hg_56])] at ih2; exact ih2)
        · refine J_iload (nx := 46) dX5_weigh_44 rfl rfl ?_
          refine J_aload_n (nx := 47) dX5_weigh_46 rfl rfl ?_
          refine Jg_61_4 (nx := 50) dX5_weigh_47 rfl fl_X5_39 ?_
          refine J_icmp_ge (nx := 53) (tgt := 64) dX5_weigh_50 rfl (by decide) (fun c_50 => ?_) (fun c_50 => ?_)
          · refine J_iinc (nx := 67) dX5_weigh_64 rfl rfl rfl (Nat.le_of_ble_eq_true rfl) ?_
            refine J_goto (nx := 2) dX5_weigh_67 (by decide) ?_
            refine J_kill (nx := 0) 4 ?_
            first
              | (rw [wgJ_k e1 c_41 c_50] at ih2; exact ih2)
              | (rw [wgJ_e (g2 := g_61) e1 (by first | exact Or.inl c_41 | exact Or.inr ⟨c_41, c_50⟩) (by rw [hg_61, hg_56])] at ih2; exact ih2)
          · refine J_aload_n (nx := 54) dX5_weigh_53 rfl rfl ?_
            refine J_iload (nx := 56) dX5_weigh_54 rfl rfl ?_
            refine Jp_61_4 (nx := 59) dX5_weigh_56 rfl fl_X5_39 ?_
            refine J.gen (fun g_56 hg_56 => ?_)
            refine J_aload_n (nx := 60) dX5_weigh_59 rfl rfl ?_
            refine J_iload_n (nx := 61) dX5_weigh_60 rfl rfl ?_
            refine Jp_61_3 (nx := 64) dX5_weigh_61 rfl fl_X5_42 ?_
            refine J.gen (fun g_61 hg_61 => ?_)
            refine J_iinc (nx := 67) dX5_weigh_64 rfl rfl rfl (Nat.le_of_ble_eq_true rfl) ?_
            refine J_goto (nx := 2) dX5_weigh_67 (by decide) ?_
            refine J_kill (nx := 0) 4 ?_
            first
              | (rw [wgJ_k e1 c_41 c_50] at ih2; exact ih2)
              | (rw [wgJ_e (g2 := g_61) e1 (by first | exact Or.inl c_41 | exact Or.inr ⟨c_41, c_50⟩) (by rw [hg_61, hg_56])] at ih2; exact ih2)

set_option maxRecDepth 100000 in
set_option maxHeartbeats 4000000 in
theorem lp_weigh2 (bar so : Int32) (g : GS) (Q : Res → List ME → Prop) (n0 : Nat) (hK : J mX5_weigh (rm 6 0 0) Q n0 120 [some (.ref 61), some (.int bar), some (.int so), some (.int (nI 32)), none] [] (Wd (itN wgB 32 g)) 0 0) : ∀ (k w : Nat), w ≤ 32 → 32 + 1 ≤ w + k → J mX5_weigh (rm 6 0 0) Q n0 72 [some (.ref 61), some (.int bar), some (.int so), some (.int (nI w)), none] [] (Wd (itN wgB w g)) 0 0 := by
  intro k
  induction k with
  | zero => intro w h1 h2; exact absurd h2 (by omega)
  | succ k ih =>
    intro w h1 h2
    refine J_iload_n (nx := 73) dX5_weigh_72 rfl rfl ?_
    refine J_bipush (nx := 75) (i := 32) (v := 32) (by decide) dX5_weigh_73 rfl ?_
    refine J_icmp_ge (nx := 78) (tgt := 120) dX5_weigh_75 rfl (by decide) (fun c_75 => ?_) (fun c_75 => ?_)
    · obtain rfl : w = 32 := cge h1 (by omega) c_75
      exact hK
    · have hw : w < 32 := clt h1 (by omega) c_75
      have ih2 := ih (w + 1) (by omega) (by omega)
      rw [← nI_s w, itN_s wgB w g] at ih2
      generalize itN wgB w g = P at ih2 ⊢
      refine J_iload_n (nx := 79) dX5_weigh_78 rfl rfl ?_
      refine J_if_eq (nx := 82) (tgt := 97) dX5_weigh_79 rfl (by decide) (fun c_79 => ?_) (fun c_79 => ?_)
      · refine J_aload_n (nx := 98) dX5_weigh_97 rfl rfl ?_
        refine J_aload_n (nx := 99) dX5_weigh_98 rfl rfl ?_
        refine Jg_61_2 (nx := 102) dX5_weigh_99 rfl fl_X5_9 ?_
        refine J_iload_n (nx := 103) dX5_weigh_102 rfl rfl ?_
        refine JcS2 (R' := rm 0 0 0) (nx := 106) dX5_weigh_103 rfl ml_X6_at lk_X5_45 st_X6_at ⟨(Nat.le_of_ble_eq_true rfl), (Nat.le_of_ble_eq_true rfl)⟩ (Nat.le_of_ble_eq_true rfl) ⟨rfl, rfl⟩ (ct_at _ 62 32 _ _ rfl (by decide)) ?_
        refine Jp_61_6 (nx := 109) dX5_weigh_106 rfl fl_X5_51 ?_
        refine J.gen (fun g_106 hg_106 => ?_)
        refine J_aload_n (nx := 110) dX5_weigh_109 rfl rfl ?_
        refine J_iload_n (nx := 111) dX5_weigh_110 rfl rfl ?_
        refine Jp_61_5 (nx := 114) dX5_weigh_111 rfl fl_X5_54 ?_
        refine J.gen (fun g_111 hg_111 => ?_)
        refine J_iinc (nx := 117) dX5_weigh_114 rfl rfl rfl (Nat.le_of_ble_eq_true rfl) ?_
        refine J_goto (nx := 72) dX5_weigh_117 (by decide) ?_
        first
          | (rw [wgB_k c_79 c_94] at ih2; exact ih2)
          | (rw [wgB_e (g2 := g_111) (by first | exact Or.inl c_79 | exact Or.inr ⟨c_79, c_94⟩) (by rw [hg_111, hg_106]; rfl)] at ih2; exact ih2)
      · refine J_aload_n (nx := 83) dX5_weigh_82 rfl rfl ?_
        refine Jg_61_2 (nx := 86) dX5_weigh_83 rfl fl_X5_9 ?_
        refine J_iload_n (nx := 87) dX5_weigh_86 rfl rfl ?_
        refine JcS2 (R' := rm 0 0 0) (nx := 90) dX5_weigh_87 rfl ml_X6_at lk_X5_45 st_X6_at ⟨(Nat.le_of_ble_eq_true rfl), (Nat.le_of_ble_eq_true rfl)⟩ (Nat.le_of_ble_eq_true rfl) ⟨rfl, rfl⟩ (ct_at _ 62 32 _ _ rfl (by decide)) ?_
        refine J_aload_n (nx := 91) dX5_weigh_90 rfl rfl ?_
        refine Jg_61_6 (nx := 94) dX5_weigh_91 rfl fl_X5_51 ?_
        refine J_icmp_le (nx := 97) (tgt := 114) dX5_weigh_94 rfl (by decide) (fun c_94 => ?_) (fun c_94 => ?_)
        · refine J_iinc (nx := 117) dX5_weigh_114 rfl rfl rfl (Nat.le_of_ble_eq_true rfl) ?_
          refine J_goto (nx := 72) dX5_weigh_117 (by decide) ?_
          first
            | (rw [wgB_k c_79 c_94] at ih2; exact ih2)
            | (rw [wgB_e (g2 := g_111) (by first | exact Or.inl c_79 | exact Or.inr ⟨c_79, c_94⟩) (by rw [hg_111, hg_106]; rfl)] at ih2; exact ih2)
        · refine J_aload_n (nx := 98) dX5_weigh_97 rfl rfl ?_
          refine J_aload_n (nx := 99) dX5_weigh_98 rfl rfl ?_
          refine Jg_61_2 (nx := 102) dX5_weigh_99 rfl fl_X5_9 ?_
          refine J_iload_n (nx := 103) dX5_weigh_102 rfl rfl ?_
          refine JcS2 (R' := rm 0 0 0) (nx := 106) dX5_weigh_103 rfl ml_X6_at lk_X5_45 st_X6_at ⟨(Nat.le_of_ble_eq_true rfl), (Nat.le_of_ble_eq_true rfl)⟩ (Nat.le_of_ble_eq_true rfl) ⟨rfl, rfl⟩ (ct_at _ 62 32 _ _ rfl (by decide)) ?_
          refine Jp_61_6 (nx := 109) dX5_weigh_106 rfl fl_X5_51 ?_
          refine J.gen (fun g_106 hg_106 => ?_)
          refine J_aload_n (nx := 110) dX5_weigh_109 rfl rfl ?_
          refine J_iload_n (nx := 111) dX5_weigh_110 rfl rfl ?_
          refine Jp_61_5 (nx := 114) dX5_weigh_111 rfl fl_X5_54 ?_
          refine J.gen (fun g_111 hg_111 => ?_)
          refine J_iinc (nx := 117) dX5_weigh_114 rfl rfl rfl (Nat.le_of_ble_eq_true rfl) ?_
          refine J_goto (nx := 72) dX5_weigh_117 (by decide) ?_
          first
            | (rw [wgB_k c_79 c_94] at ih2; exact ih2)
            | (rw [wgB_e (g2 := g_111) (by first | exact Or.inl c_79 | exact Or.inr ⟨c_79, c_94⟩) (by rw [hg_111, hg_106]; rfl)] at ih2; exact ih2)

set_option maxRecDepth 100000 in
set_option maxHeartbeats 4000000 in
theorem ct_weigh (cds : Nat → CD) (G n : Nat) (bar so : Int32) (g : GS) (hR : RulesAt g n cds) (hN : gF g 20 10 = nI n) (hn4 : n ≤ 4) (hG : gF g 40 12 = nI G) (hG2 : G ≤ 10) : Ct mX5_weigh (rm 6 0 0) [.ref 61, .int bar, .int so] (Wd g) (RR (.inl none) (wgAll cds G n bar so g)) := by
  refine Ct.of (by decide +kernel) (Nat.le_of_ble_eq_true rfl) ?_
  show J _ _ _ _ 0 [some (.ref 61), some (.int bar), some (.int so), none, none] [] _ 0 0
  refine J_iconst (nx := 1) (i := 0) (v := 0) (by decide) dX5_weigh_0 rfl ?_
  refine J_istore_n (nx := 2) dX5_weigh_1 rfl rfl (Nat.le_of_ble_eq_true rfl) ?_
  refine lp_weigh cds G n bar so g hR hN hn4 hG hG2 _ _ ?_ (5 + n + 1) 0 (by omega) (by omega)
  unfold wgAll
  generalize itN (wgJ cds G bar so) (5 + n) g = P
  refine J_iconst (nx := 71) (i := 0) (v := 0) (by decide) dX5_weigh_70 rfl ?_
  refine J_istore_n (nx := 72) dX5_weigh_71 rfl rfl (Nat.le_of_ble_eq_true rfl) ?_
  refine lp_weigh2 bar so P _ _ ?_ 33 0 (by omega) (by omega)
  generalize itN wgB 32 P = X
  exact Jrv dX5_weigh_120 rfl (Nat.zero_le _) (Nat.zero_le _) ⟨rfl, rfl⟩

