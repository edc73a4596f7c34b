/-! calls without a throw: goal, fault, count, end, feed -/
def fX (c k : Nat) : Bool := !(Nat.beq c 20 || (Nat.beq c 30 || ((Nat.beq c 26 && Nat.beq k 0) || ((Nat.beq c 0 && Nat.beq k 4) || (Nat.beq c 63 && Nat.beq k 3)))))
def aX (c : Nat) : Bool := !((Nat.ble 21 c && Nat.ble c 25) || ((Nat.ble 31 c && Nat.ble c 35) || (Nat.beq c 29 || (Nat.beq c 39 || Nat.beq c 65))))
theorem fX_of {f : Nat → Nat → Bool} (h1 : ∀ k, f 20 k = false) (h2 : ∀ k, f 30 k = false) (h3 : f 26 0 = false) (h4 : f 0 4 = false) (h5 : f 63 3 = false) (c k : Nat) (h : fX c k = false) : f c k = false := by
  have h' := h
  unfold fX at h'
  rw [Bool.not_eq_false', Bool.or_eq_true, Bool.or_eq_true, Bool.or_eq_true, Bool.or_eq_true, Bool.and_eq_true, Bool.and_eq_true, Bool.and_eq_true] at h'
  rcases h' with x | x | ⟨x, y⟩ | ⟨x, y⟩ | ⟨x, y⟩
  · rw [Nat.eq_of_beq_eq_true x]; exact h1 k
  · rw [Nat.eq_of_beq_eq_true x]; exact h2 k
  · rw [Nat.eq_of_beq_eq_true x, Nat.eq_of_beq_eq_true y]; exact h3
  · rw [Nat.eq_of_beq_eq_true x, Nat.eq_of_beq_eq_true y]; exact h4
  · rw [Nat.eq_of_beq_eq_true x, Nat.eq_of_beq_eq_true y]; exact h5
theorem aX_of {a : Nat → Bool} (h1 : ∀ i, i < 5 → a (21 + i) = false) (h2 : ∀ i, i < 5 → a (31 + i) = false) (h3 : a 29 = false) (h4 : a 39 = false) (h5 : a 65 = false) (c : Nat) (h : aX c = false) : a c = false := by
  have h' := h
  unfold aX at h'
  rw [Bool.not_eq_false', Bool.or_eq_true, Bool.or_eq_true, Bool.or_eq_true, Bool.or_eq_true, Bool.and_eq_true, Bool.and_eq_true] at h'
  rcases h' with ⟨x, y⟩ | ⟨x, y⟩ | x | x | x
  · have x := Nat.le_of_ble_eq_true x; have y := Nat.le_of_ble_eq_true y
    rw [show c = 21 + (c - 21) by omega]; exact h1 _ (by omega)
  · have x := Nat.le_of_ble_eq_true x; have y := Nat.le_of_ble_eq_true y
    rw [show c = 31 + (c - 31) by omega]; exact h2 _ (by omega)
  · rw [Nat.eq_of_beq_eq_true x]; exact h3
  · rw [Nat.eq_of_beq_eq_true x]; exact h4
  · rw [Nat.eq_of_beq_eq_true x]; exact h5
theorem Rel.mk {K : Nat} {g g' : GS} (h : Rel K g) (hf : Fr fX aX g g') (hl : Lo (gA g 64) (gA g' 64)) (hz : Z0 g') (ht : TpR g') (hfa : gF g' 7 7 = gF g' 63 10) : Rel K g' := by
  obtain ⟨⟨gl, rl, h1, h2⟩, -, h3, -, -, ⟨i1, i2, i3, i4⟩, h9⟩ := h
  obtain ⟨fF, fA, -, fV, fP, fT⟩ := hf
  have b : gF g' 20 = gF g 20 := funext fun k => fF 20 k rfl
  have b3 : gF g' 30 = gF g 30 := funext fun k => fF 30 k rfl
  refine ⟨⟨gl, rl, h1.lo hl, ?_⟩, hz, ?_, ht, hfa, ⟨?_, ?_, ?_, ?_⟩, ?_⟩
  · have := BV.cg (l := []) h2 h1.n6 h1.r4 (fun _ _ _ => rfl) (fun _ _ => rfl) (fun _ _ => rfl) (fun _ _ => rfl) (fun _ _ => rfl) (fun _ _ => rfl) (fun _ _ => rfl) hl
    rw [List.append_nil] at this
    unfold BkR
    rw [b, fA 21 rfl, fA 22 rfl, fA 23 rfl, fA 24 rfl, fA 25 rfl, fV 20 7 rfl, fP 29 rfl, fT]
    exact this
  · rw [fF 26 0 rfl]; exact h3
  · rw [fV 30 7 rfl]; exact i1
  · rw [fP 39 rfl, fT]; exact i2
  · rw [b3]; exact i3
  · rw [fF 0 4 rfl, fF 63 3 rfl, fA 65 rfl]
    unfold KpR
    rw [b3, fA 31 rfl, fA 32 rfl, fA 33 rfl, fA 34 rfl, fA 35 rfl, fV 30 7 rfl, fP 39 rfl, fT]
    exact i4
  · rw [fT]; exact h9
theorem Lo.rf {W : Nat → Int32} : Lo W W := fun _ _ => rfl
theorem Rel.s0 {K : Nat} {g : GS} (h : Rel K g) (c : Int32) : Rel K (sF g 63 0 c) := h.fr (Fr.rf.sF rfl) h.2.1
def AdI (M : MI) (R : Room) (args : List Value) (K : Nat) (v : Int32) (g1 : GS) : Prop := Ct M R args (Wd g1) (RXi (fun x g2 => v = x ∧ Rel K g2))
theorem al_goal {K : Nat} {g : GS} (h : Rel K g) : Ct mX11_goal (rm 4 0 0) [.ref 0] (Wd g) (RXi (AdI mX12_goal (rm 4 0 0) [.ref 63] K)) := by
  obtain ⟨gl, rl, q, hw, hb, hC, hQ⟩ := h.cq
  refine (ct_goal g q _ _ hC).imp (fun r es hr => ⟨_, _, hr.1, hr.2, ?_⟩)
  have hk : KF g (gwG g (gF g 20 14) q) := kf_gw Fr.rf _ q
  have e : gA (gwG g (gF g 20 14) q) 64 = gA g 64 := hk.2.1 64 rfl
  have t := ct_m_goal (gwG g (gF g 20 14) q) gl rl (by rw [e]; exact hw.2.2.1)
  rw [e] at t
  refine t.imp (fun r' es' hq' => ?_)
  obtain ⟨x, g2, y1, y2, y3⟩ := hq'
  refine ⟨x, g2, y1, y2, ?_⟩
  rcases y3 with ⟨c, z1, -⟩ | ⟨-, z1, z2⟩
  · cases z1
  · exact ⟨(v_goal hQ).trans z1.symm, h.fr ((kf_rl hk).tr (qf_rl z2.1)) ((z_goal hQ _).fq z2.1)⟩
theorem al_fault {K : Nat} {g : GS} (h : Rel K g) : Ct mX11_fault (rm 1 0 0) [.ref 0] (Wd g) (RXi (AdI mX12_fault (rm 0 0 0) [.ref 63] K)) := by
  refine (ct_fault g).imp (fun r es hr => ⟨_, _, hr.1, hr.2, ?_⟩)
  refine (ct_m_fault g).imp (fun r es hr => ⟨_, _, hr.1, hr.2, h.2.2.2.2.1, h.s0 0⟩)
theorem al_count {K : Nat} {g : GS} (h : Rel K g) (x : Int32) : Ct mX11_count (rm 4 0 0) [.ref 0, .int x] (Wd g) (RXi (AdI mX12_count (rm 2 0 0) [.ref 63, .int x] K)) := by
  obtain ⟨gl, rl, q, hw, hb, hC, hQ⟩ := h.cq
  have e11 : gF g 20 11 = nI (mN (gA g 64)) := hb.1.2.2.2.2.2.2.1.trans hw.1.2.2.2.2.2.1.2
  have hc : ∃ (l : Int32) (r1 r2 : Value) (c : Nat), gV g 20 7 = .ref c ∧ (Wd g)[c]? = some (.inr (2, [.int l, r1, r2])) ∧ l = if ¬ gA g 64 3 = 1 then 0 else gA g 64 (1310 + 861 * 4) := by
    rcases hb.2.1 with ⟨x1, x2, x3⟩ | ⟨x1, x2, c, cd, x3, x4, x5, x6⟩
    · refine ⟨gF g 26 0, _, _, 26, x3, rfl, ?_⟩
      rw [h.2.2.1, x1]; rfl
    · refine ⟨nI cd.1, _, _, c, x3, x4.o, ?_⟩
      rw [x6, x1, if_neg (fun z => z rfl)]
  obtain ⟨l, r1, r2, c, c1, c2, c3⟩ := hc
  refine (ct_count g x l r1 r2 c _ c1 c2 e11 hw.n6).imp (fun r es hr => ⟨_, _, hr.1, hr.2, ?_⟩)
  refine (ct_m_count g gl rl hw.2.2.1 x).imp (fun r' es' hq' => ?_)
  obtain ⟨y, g2, y1, y2, y3, y4⟩ := hq'
  exact ⟨y, g2, y1, y2, (v_count hQ c3 x).trans y3.symm, y4 ▸ h.s0 0⟩
theorem tp_end {n : Nat} (hn : n ≤ 400) (x : Int32) : fWi x (nI n) = (if x < 0 then false else if x ≤ nI n then true else false) := by
  unfold fWi
  by_cases c : x < 0
  · rw [if_pos c, if_pos c]
  · rw [if_neg c, if_neg c]
    by_cases c2 : nI n < x
    · rw [if_pos c2, if_neg (fun z => lt_nle c2 z)]
    · rw [if_neg c2, if_pos (nlt_le c2)]
theorem TpE.le {n m : Nat} {C B : Nat → Int32} (h : TpE n C B) (hm : m ≤ n) : TpE m C B := fun i hi => h i (by omega)
theorem al_end {K : Nat} {g : GS} (h : Rel K g) (x : Int32) : Ct mX11_end (rm 2 0 0) [.ref 0, .int x] (Wd g) (RXi (AdI mX12_end (rm 0 0 0) [.ref 63, .int x] K)) := by
  refine (ct_end g x).imp (fun r es hr => ⟨_, _, hr.1, hr.2, ?_⟩)
  obtain ⟨n, n4, n1, n2, n3⟩ := h.2.2.2.1
  have e : ∀ g1, gF g1 63 5 = nI n → meB g1 x = fWi x (gF g 1 1) := fun g1 hg => by rw [n1, tp_end n4]; unfold meB; rw [hg]
  cases hb : fWi x (gF g 1 1)
  · refine (ct_m_end g x).imp (fun r es hr => ?_)
    rw [e g n2, hb] at hr
    exact ⟨_, _, hr.1, hr.2, rfl, h.s0 0⟩
  · have t := ct_m_end (sF g 1 1 x) x
    rw [e (sF g 1 1 x) n2, hb] at t
    refine t.imp (fun r es hr => ⟨_, _, hr.1, hr.2, rfl, ?_⟩)
    rw [n1] at hb
    obtain ⟨m, m1, m2⟩ := fWi_nI (by omega) hb
    exact h.mk ((((Fr.rf.sF rfl).sF rfl).sF rfl)) Lo.rf h.2.1 ⟨m, by omega, m2, m2, n3.le m1⟩ h.2.2.2.2.1
theorem f11_X (c k : Nat) (h : fX c k = false) : f11 c k = false := fX_of (f := f11) (fun _ => rfl) (fun _ => rfl) rfl rfl rfl c k h
theorem a2o_X (c : Nat) (h : aX c = false) : a2o c = false := aX_of (a := a2o) (fun i hi => by
  match i, hi with
  | 0, _ => rfl
  | 1, _ => rfl
  | 2, _ => rfl
  | 3, _ => rfl
  | 4, _ => rfl) (fun i hi => by
  match i, hi with
  | 0, _ => rfl
  | 1, _ => rfl
  | 2, _ => rfl
  | 3, _ => rfl
  | 4, _ => rfl) rfl rfl rfl c h
theorem fFd_X (c k : Nat) (h : fX c k = false) : fFd c k = false := fX_of (f := fFd) (fun _ => rfl) (fun _ => rfl) rfl rfl rfl c k h
theorem aFd_X (c : Nat) (h : aX c = false) : aFd c = false := aX_of (a := aFd) (fun i hi => by
  match i, hi with
  | 0, _ => rfl
  | 1, _ => rfl
  | 2, _ => rfl
  | 3, _ => rfl
  | 4, _ => rfl) (fun i hi => by
  match i, hi with
  | 0, _ => rfl
  | 1, _ => rfl
  | 2, _ => rfl
  | 3, _ => rfl
  | 4, _ => rfl) rfl rfl rfl c h
theorem al_feed {K : Nat} {g : GS} (h : Rel K g) (a b c d e : Int32) : Ct mX11_feed (rm 3 0 0) [.ref 0, .int a, .int b, .int c, .int d, .int e] (Wd g) (RXi (AdI mX12_feed (rm 1 0 0) [.ref 63, .int a, .int b, .int c, .int d, .int e] K)) := by
  refine (ct_feed g a b c d e).imp (fun r es hr => ⟨_, _, hr.1, hr.2, ?_⟩)
  obtain ⟨n, n4, n1, n2, n3⟩ := h.2.2.2.1
  have ec : (gF g 1 1 + 20 ≤ 400) ↔ n + 20 ≤ 400 := by
    rw [n1, show nI n + 20 = nI (n + 20) from nIa rfl (nIc 20)]
    exact ⟨fun z => nI_led (b := 400) (by omega) (by omega) z, fun z => nI_le_n (b := 400) z (by omega)⟩
  by_cases hc : n + 20 ≤ 400
  · rw [if_pos (ec.mpr hc), if_pos (ec.mpr hc)]
    have hT : TpE n (fun i => if n ≤ i ∧ i < n + 20 then fdB (vs5 a b c d e) (i - n) else gA g 66 i) (gA g 2) := fun i hi => by
      show ByE (if n ≤ i ∧ i < n + 20 then fdB (vs5 a b c d e) (i - n) else gA g 66 i) _
      rw [if_neg (fun z => absurd z.1 (by omega))]; exact n3 i hi
    obtain ⟨f1, f2, f3⟩ := feG_z (a := a) (b := b) (c := c) (d := d) (e := e) n1 hc hT (fun j hj => by
      show (if n ≤ n + j ∧ n + j < n + 20 then fdB (vs5 a b c d e) (n + j - n) else gA g 66 (n + j)) = _
      rw [if_pos ⟨by omega, by omega⟩, show n + j - n = j by omega])
    refine (ct_m_feed (feG a b c d e g) n ((f3.1 63 5 rfl).trans n2) n4 a b c d e).imp (fun r' es' hq' => ?_)
    obtain ⟨x, g2, y1, y2, y3⟩ := hq'
    refine ⟨x, g2, y1, y2, ?_⟩
    rcases y3 with ⟨z1, -⟩ | ⟨-, z2, z3, z4, z5, z6⟩
    · omega
    · refine ⟨f1.trans z2.symm, h.mk ((f3.mono f11_X a2o_X).tr (z3.mono fFd_X aFd_X)) ?_ (fun s hs => ?_) ⟨n + 20, hc, (z3.1 1 1 rfl).trans f1, z5, ?_⟩ ?_⟩
      · rw [z3.2.1 64 rfl, f3.2.1 64 rfl]; exact Lo.rf
      · rw [z3.2.1 50 rfl, f3.2.1 50 rfl, z3.2.1 59 rfl, f3.2.1 59 rfl]; exact h.2.1 s hs
      · intro i hi
        rw [z3.2.1 2 rfl, z6 i, f3.2.1 66 rfl]
        exact f2 i hi
      · rw [z3.1 7 7 rfl, f3.1 7 7 rfl, z3.1 63 10 rfl, f3.1 63 10 rfl]; exact h.2.2.2.2.1
  · rw [if_neg (fun z => hc (ec.mp z)), if_neg (fun z => hc (ec.mp z))]
    refine (ct_m_feed g n n2 n4 a b c d e).imp (fun r' es' hq' => ?_)
    obtain ⟨x, g2, y1, y2, y3⟩ := hq'
    refine ⟨x, g2, y1, y2, ?_⟩
    rcases y3 with ⟨-, z2, z3⟩ | ⟨z1, -⟩
    · exact ⟨z2.symm, by rw [z3]; exact h.s0 0⟩
    · omega
