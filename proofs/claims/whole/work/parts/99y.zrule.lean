theorem goG_20 {g : GS} {nl sz k : Nat} (hk : ¬ k = 8) : gF (goG g nl sz) 20 k = gF g 20 k := by
  show (bif Nat.beq 20 20 && Nat.beq k 8 then 1 else (bif Nat.beq 20 1 && Nat.beq k 1 then 0 else gF g 20 k)) = _
  rw [beq_f hk]; rfl
theorem goG_8 {g : GS} {nl sz : Nat} : gF (goG g nl sz) 20 8 = 1 := rfl
theorem goG_A {g : GS} {nl sz c : Nat} : gA (goG g nl sz) c = gA g c := rfl
theorem goG_V {g : GS} {nl sz : Nat} : gV (goG g nl sz) 20 7 = .ref (83 + (gT g).length) := rfl
theorem goG_P {g : GS} {nl sz : Nat} : gP (goG g nl sz) = gP g := rfl
theorem goG_T {g : GS} {nl sz : Nat} : gT (goG g nl sz) = gT g ++ cdL (sF g 1 1 0) nl sz := rfl
theorem goG_1 {g : GS} {nl sz : Nat} : gF (goG g nl sz) 1 1 = 0 := rfl
theorem goG_F {g : GS} {nl sz k : Nat} {c : Nat} (h1 : Nat.beq c 20 = false) (h2 : Nat.beq c 1 = false) : gF (goG g nl sz) c k = gF g c k := by
  show (bif Nat.beq c 20 && Nat.beq k 8 then 1 else (bif Nat.beq c 1 && Nat.beq k 1 then 0 else gF g c k)) = _
  rw [h1, h2]; rfl
theorem goG_C {g : GS} {nl sz : Nat} (h1 : nl ≤ 12) (h2 : sz ≤ 400) : CodeT (gT (goG g nl sz)) (83 + (gT g).length) (cdN g nl sz) := kG_code g h1 h2
theorem goG_f {g0 g : GS} (h : Fg g0 g) (nl sz : Nat) : Fg g0 (goG g nl sz) := (((h.sF (c := 1) (k := 1) (v := 0) rfl).kT _).sV rfl).sF rfl
theorem rdR_g (g : GS) (n : Nat) : rdR g n false = pRead (obT n (gA g 2)) (hdLine (pGoal (obT n (gA g 2)))) (sk n (gA g 2) 0) ([], []) := rfl
theorem rdR_r (g : GS) (n : Nat) : rdR g n true = pRead (obT n (gA g 2)) (hdLine (pRule (obT n (gA g 2)))) (sk n (gA g 2) 0) ([], []) := rfl
theorem gs_5 {g : GS} {n : Nat} {w : Nat → Int64} (h : gF g 63 5 = nI n) : gF (sB g 82 w) 63 5 = nI n := h
theorem gs_A {g : GS} {f : Nat → Int32} {w : Nat → Int64} {c : Nat} (h : gA g c = f) : gA (sB g 82 w) c = f := h
theorem al_goals {K : Nat} {g : GS} (h : Rel K g) (hK : K < 100000) : Ct mX11_goals (rm 40 4 457) [.ref 0] (Wd g) (PLi [x_iae] (fun k v g1 => ∀ w, Ct mX12_goals (rm 43 0 0) [.ref 63] (Wd (sB g1 82 w)) (RXi (AlI (K + 3) k v w)))) := by
  obtain ⟨gl, rl, hw, hb⟩ := h.1
  obtain ⟨n, n4, n1, n2, n3⟩ := h.2.2.2.1
  have hlen : (gT g).length < 100000 := by have := h.2.2.2.2.2.2; omega
  refine (ct_goals g n n1 n4 hlen).imp (fun r es hr => ?_)
  unfold GO at hr
  obtain ⟨g1, f1, hr⟩ := hr
  have key : ∀ G, gF G 63 5 = nI n → gA G 66 = gA g 66 → Ct mX12_goals (rm 43 0 0) [.ref 63] (Wd G) (RXi (fun x g2 => ∃ x1 g4, PRd n (ITr n (gA g 66) false) (rdM 1 n G) (rdR g n false) x1 g4 ∧ ((x1 = 0 ∧ x = 0 ∧ g2 = sF g4 63 0 1) ∨ (¬ x1 = 0 ∧ x = gA (wU (kpG 4 g4) 3 1) 64 (1310 + 861 * 4) ∧ g2 = wU (kpG 4 g4) 3 1)))) := fun G G5 G66 => by
    refine (ct_m_goals G n G5 n4).imp (fun r es hq => ?_)
    obtain ⟨x, g2, y1, y2, x1, g4, y3, y4⟩ := hq
    rw [G66, goal_same n3] at y3
    exact ⟨x, g2, y1, y2, x1, g4, y3, y4⟩
  have hgd : ∀ s, rdR g n false = .inr s → GdTx false s := fun s e => read_goal (obT_ok n (gA g 2) n4) (by rw [← rdR_g]; exact e)
  generalize rdR g n false = rg at hr key hgd
  have hz1 : Z0 g1 := fun s hs => by
    rw [f1.2.1 50 rfl, f1.2.1 59 rfl]; exact h.2.1 s hs
  have q5 : gF g1 63 5 = nI n := (f1.1 63 5 rfl).trans n2
  have q64 : gA g1 64 = gA g 64 := f1.2.1 64 rfl
  have q66 : gA g1 66 = gA g 66 := f1.2.1 66 rfl
  have fk1 : Fr fX aX g g1 := f1.mono fR_X aR_X
  cases rg with
  | inl e =>
    dsimp only at hr
    obtain ⟨a1, a2, a3⟩ := hr
    refine ⟨nI (0 + 1), 0, sF g1 1 1 0, a3, fun w => (key (sB (sF g1 1 1 0) 82 w) (gs_5 q5) (gs_A q66)).imp (fun r' es' hq => ?_), Or.inr ⟨0, by decide, rfl, a2⟩⟩
    obtain ⟨x, g2, y1, y2, x1, g4, y3, y4⟩ := hq
    refine ⟨x, g2, y1, y2, ?_⟩
    obtain ⟨p1, p2⟩ := prd_in y3 rfl
    obtain ⟨p3, p4, p5, p6⟩ := prd_fr y3
    rcases y4 with ⟨-, -, z3⟩ | ⟨z1, -⟩
    · subst z3
      exact ⟨rfl, fun u => absurd u (by decide), (h.not (G := sB (sF g1 1 1 0) 82 w) ((fk1.sF rfl).sB rfl) hz1 q64 p3 p4 p5 rfl (a1.trans p2.symm) 1).up (by omega), p3.2.2.1 82 rfl⟩
    · exact absurd p1 z1
  | inr s =>
    dsimp only at hr
    obtain ⟨a1, a2, a3⟩ := hr
    have ht := a1
    obtain ⟨-, -, h12, h400, -, -, h77⟩ := ht
    have hg := hgd s rfl
    have hcd := CdOf_N a1
    have fe : Fg g (goG g1 s.1.length s.2.length) := goG_f (Fg.of f1 fR_Y aR_Y) _ _
    have d20 : ∀ k, ¬ k = 8 → gF (goG g1 s.1.length s.2.length) 20 k = gF g 20 k := fun k hk => (goG_20 hk).trans (f1.1 20 k rfl)
    have dA : ∀ c, 21 ≤ c → c ≤ 25 → gA (goG g1 s.1.length s.2.length) c = gA g c := fun c x y => goG_A.trans (f1.2.1 c (by
      have : c = 21 ∨ c = 22 ∨ c = 23 ∨ c = 24 ∨ c = 25 := by omega
      rcases this with rfl | rfl | rfl | rfl | rfl <;> rfl))
    have d64 : gA (goG g1 s.1.length s.2.length) 64 = gA g 64 := goG_A.trans q64
    have d66 : gA (goG g1 s.1.length s.2.length) 66 = gA g 66 := goG_A.trans q66
    have d5 : gF (goG g1 s.1.length s.2.length) 63 5 = nI n := (goG_F rfl rfl).trans q5
    have dP : gP (goG g1 s.1.length s.2.length) 29 = gP g 29 := (congrFun goG_P 29).trans (f1.2.2.2.2.1 29 rfl)
    have dT : gT (goG g1 s.1.length s.2.length) = gT g ++ cdL (sF g1 1 1 0) s.1.length s.2.length := goG_T.trans (by rw [f1.2.2.2.2.2])
    have dz : Z0 (goG g1 s.1.length s.2.length) := fun t ht => by rw [goG_A, goG_A]; exact hz1 t ht
    have d77 : gF (goG g1 s.1.length s.2.length) 7 7 = -1 := (goG_F rfl rfl).trans h77
    have dC := goG_C (g := g1) h12 h400
    have d8 := goG_8 (g := g1) (nl := s.1.length) (sz := s.2.length)
    have dV := goG_V (g := g1) (nl := s.1.length) (sz := s.2.length)
    have d1 := goG_1 (g := g1) (nl := s.1.length) (sz := s.2.length)
    have l3 : (cdL (sF g1 1 1 0) s.1.length s.2.length).length = 3 := rfl
    generalize goG g1 s.1.length s.2.length = gd at a3 fe d20 dA d64 d66 d5 dP dT dz d77 dC d8 dV d1
    generalize cdL (sF g1 1 1 0) s.1.length s.2.length = l at dT l3
    refine ⟨0, nI s.1.length, gd, a3, fun w => (key (sB gd 82 w) (gs_5 d5) (gs_A d66)).imp (fun r' es' hq => ?_), Or.inl ⟨rfl, a2⟩⟩
    obtain ⟨x, g2, y1, y2, x1, g4, y3, y4⟩ := hq
    refine ⟨x, g2, y1, y2, ?_⟩
    obtain ⟨p1, p2, p3⟩ := tx_in y3 rfl h12 h400
    obtain ⟨p4, p5, p6, p7⟩ := prd_fr y3
    rcases y4 with ⟨z1, -⟩ | ⟨-, z2, z3⟩
    · rw [p1] at z1; exact absurd z1 (by decide)
    · obtain ⟨u1, u2, u3, u4⟩ := go_core h hw hb fe d20 d8 dA d64 dV dP dT l3 dC hcd hg d1 d77 dz p4 p5 p6 p2 (prd_0 y3) p3 z3
      exact ⟨u1, fun _ => by rw [z2, ← z3, u2], u3, u4⟩
theorem adG_20 {g : GS} {nl sz c rc k : Nat} (hk : ¬ k = 10) : gF (addG (kG g nl sz) c rc) 20 k = gF g 20 k := by
  show (bif Nat.beq 20 20 && Nat.beq k 10 then _ else (bif Nat.beq 20 1 && Nat.beq k 1 then 0 else gF g 20 k)) = _
  rw [beq_f hk]; rfl
theorem adG_10 {g : GS} {nl sz c rc : Nat} : gF (addG (kG g nl sz) c rc) 20 10 = gF g 20 10 + 1 := rfl
theorem adG_A {g : GS} {nl sz c rc q : Nat} : gA (addG (kG g nl sz) c rc) q = gA g q := rfl
theorem adG_V {g : GS} {nl sz c rc : Nat} : gV (addG (kG g nl sz) c rc) = gV g := rfl
theorem adG_P {g : GS} {nl sz c rc i : Nat} : gP (addG (kG g nl sz) c rc) 29 i = if i = rc then some c else gP g 29 i := rfl
theorem adG_T {g : GS} {nl sz c rc : Nat} : gT (addG (kG g nl sz) c rc) = gT g ++ cdL (sF g 1 1 0) nl sz := rfl
theorem adG_1 {g : GS} {nl sz c rc : Nat} : gF (addG (kG g nl sz) c rc) 1 1 = 0 := rfl
theorem adG_F {g : GS} {nl sz k rc : Nat} {q c : Nat} (h1 : Nat.beq c 20 = false) (h2 : Nat.beq c 1 = false) : gF (addG (kG g nl sz) q rc) c k = gF g c k := by
  show (bif Nat.beq c 20 && Nat.beq k 10 then _ else (bif Nat.beq c 1 && Nat.beq k 1 then 0 else gF g c k)) = _
  rw [h1, h2]; rfl
theorem adG_C {g : GS} {nl sz rc : Nat} (h1 : nl ≤ 12) (h2 : sz ≤ 400) : CodeT (gT (addG (kG g nl sz) (83 + (gT g).length) rc)) (83 + (gT g).length) (cdN g nl sz) := kG_code g h1 h2
theorem adG_f {g0 g : GS} (h : Fg g0 g) (nl sz c rc : Nat) : Fg g0 (addG (kG g nl sz) c rc) := (((h.sF (c := 1) (k := 1) (v := 0) rfl).kT _).sP rfl).sF rfl
theorem c_lt4 {R : Nat} (h : R ≤ 4) : fLt (nI R) 4 = true ↔ R < 4 := by
  have : R = 0 ∨ R = 1 ∨ R = 2 ∨ R = 3 ∨ R = 4 := by omega
  rcases this with rfl | rfl | rfl | rfl | rfl <;> decide
theorem al_rule {K : Nat} {g : GS} (h : Rel K g) (hK : K < 100000) : Ct mX11_rule (rm 40 5 463) [.ref 0] (Wd g) (PLi [x_iae, x_uoe] (fun k v g1 => ∀ w, Ct mX12_rule (rm 43 0 0) [.ref 63] (Wd (sB g1 82 w)) (RXi (AlI (K + 3) k v w)))) := by
  obtain ⟨gl, rl, hw, hb⟩ := h.1
  obtain ⟨n, n4, n1, n2, n3⟩ := h.2.2.2.1
  have hlen : (gT g).length < 100000 := by have := h.2.2.2.2.2.2; omega
  have hR4 := hw.r4
  obtain ⟨R, hR⟩ : ∃ R, mR (gA g 64) = R := ⟨_, rfl⟩
  have eR : gA g 64 1 = nI R := by rw [← hR]; exact hw.1.2.2.2.2.2.2.2.2.2.2.2.1.2
  rw [hR] at hR4
  have e10 : gF g 20 10 = nI R := hb.1.2.2.2.2.2.1.trans eR
  refine (ct_rule g n R n1 n4 hlen e10 hR4).imp (fun r es hr => ?_)
  unfold RU at hr
  obtain ⟨g1, f1, hr⟩ := hr
  have key : ∀ G, gF G 63 5 = nI n → gA G 64 = gA g 64 → gA G 66 = gA g 66 → Ct mX12_rule (rm 43 0 0) [.ref 63] (Wd G) (RXi (fun x g2 => ∃ x1 g4, PRd n (ITr n (gA g 66) true) (rdM 2 n G) (rdR g n true) x1 g4 ∧ ((x1 = 0 ∧ x = 0 ∧ g2 = sF g4 63 0 1) ∨ (¬ x1 = 0 ∧ R = 4 ∧ x = 0 ∧ g2 = sF g4 63 0 2) ∨ (¬ x1 = 0 ∧ R < 4 ∧ x = 5 + nI (R + 1) - 1 ∧ g2 = wU (kpG R g4) 1 (nI (R + 1)))))) := fun G G5 G64 G66 => by
    refine (ct_m_rule G n G5 n4 R (by rw [G64]; exact eR) hR4).imp (fun r es hq => ?_)
    obtain ⟨x, g2, y1, y2, x1, g4, y3, y4⟩ := hq
    rw [G66, rule_same n3] at y3
    exact ⟨x, g2, y1, y2, x1, g4, y3, y4⟩
  have hgd : ∀ s, rdR g n true = .inr s → GdTx true s := fun s e => read_rule (obT_ok n (gA g 2) n4) (by rw [← rdR_r]; exact e)
  generalize rdR g n true = rg at hr key hgd
  have hz1 : Z0 g1 := fun s hs => by
    rw [f1.2.1 50 rfl, f1.2.1 59 rfl]; exact h.2.1 s hs
  have q5 : gF g1 63 5 = nI n := (f1.1 63 5 rfl).trans n2
  have q64 : gA g1 64 = gA g 64 := f1.2.1 64 rfl
  have q66 : gA g1 66 = gA g 66 := f1.2.1 66 rfl
  have fk1 : Fr fX aX g g1 := f1.mono fR_X aR_X
  cases rg with
  | inl e =>
    dsimp only at hr
    obtain ⟨a1, a2, a3⟩ := hr
    refine ⟨nI (0 + 1), 0, sF g1 1 1 0, a3, fun w => (key (sB (sF g1 1 1 0) 82 w) (gs_5 q5) (gs_A q64) (gs_A q66)).imp (fun r' es' hq => ?_), Or.inr ⟨0, by decide, rfl, a2⟩⟩
    obtain ⟨x, g2, y1, y2, x1, g4, y3, y4⟩ := hq
    refine ⟨x, g2, y1, y2, ?_⟩
    obtain ⟨p1, p2⟩ := prd_in y3 rfl
    obtain ⟨p3, p4, p5, p6⟩ := prd_fr y3
    rcases y4 with ⟨-, -, z3⟩ | ⟨z1, -⟩ | ⟨z1, -⟩
    · subst z3
      exact ⟨rfl, fun u => absurd u (by decide), (h.not (G := sB (sF g1 1 1 0) 82 w) ((fk1.sF rfl).sB rfl) hz1 q64 p3 p4 p5 rfl (a1.trans p2.symm) 1).up (by omega), p3.2.2.1 82 rfl⟩
    · exact absurd p1 z1
    · exact absurd p1 z1
  | inr s =>
    dsimp only at hr
    obtain ⟨a1, hr⟩ := hr
    have ht := a1
    obtain ⟨-, -, h12, h400, -, -, h77⟩ := ht
    rcases hr with ⟨a2, a3, a4⟩ | ⟨a2, a3, a4⟩
    · refine ⟨nI (1 + 1), 0, sF g1 1 1 0, a4, fun w => (key (sB (sF g1 1 1 0) 82 w) (gs_5 q5) (gs_A q64) (gs_A q66)).imp (fun r' es' hq => ?_), Or.inr ⟨1, by decide, rfl, a3⟩⟩
      obtain ⟨x, g2, y1, y2, x1, g4, y3, y4⟩ := hq
      refine ⟨x, g2, y1, y2, ?_⟩
      obtain ⟨p1, p2, p3⟩ := tx_in y3 rfl h12 h400
      obtain ⟨p4, p5, p6, p7⟩ := prd_fr y3
      rcases y4 with ⟨z1, -⟩ | ⟨-, z2, -, z4⟩ | ⟨-, z2, -⟩
      · rw [p1] at z1; exact absurd z1 (by decide)
      · subst z4
        exact ⟨rfl, fun u => absurd u (by decide), (h.not (G := sB (sF g1 1 1 0) 82 w) ((fk1.sF rfl).sB rfl) hz1 q64 p4 p5 p6 rfl (h77.trans p2.symm) 2).up (by omega), p4.2.2.1 82 rfl⟩
      · rw [(c_lt4 hR4).mpr z2] at a2; cases a2
    · have hlt := (c_lt4 hR4).mp a2
      have hg := hgd s rfl
      have hcd := CdOf_N a1
      have fe : Fg g (addG (kG g1 s.1.length s.2.length) (83 + (gT g1).length) R) := adG_f (Fg.of f1 fR_Y aR_Y) _ _ _ _
      have d20 : ∀ k, ¬ k = 10 → gF (addG (kG g1 s.1.length s.2.length) (83 + (gT g1).length) R) 20 k = gF g 20 k := fun k hk => (adG_20 hk).trans (f1.1 20 k rfl)
      have d10 : gF (addG (kG g1 s.1.length s.2.length) (83 + (gT g1).length) R) 20 10 = nI (R + 1) := adG_10.trans (by rw [f1.1 20 10 rfl, e10]; exact nIa rfl (nIc 1))
      have dA : ∀ c, 21 ≤ c → c ≤ 25 → gA (addG (kG g1 s.1.length s.2.length) (83 + (gT g1).length) R) c = gA g c := fun c x y => adG_A.trans (f1.2.1 c (by
        have : c = 21 ∨ c = 22 ∨ c = 23 ∨ c = 24 ∨ c = 25 := by omega
        rcases this with rfl | rfl | rfl | rfl | rfl <;> rfl))
      have d64 : gA (addG (kG g1 s.1.length s.2.length) (83 + (gT g1).length) R) 64 = gA g 64 := adG_A.trans q64
      have d66 : gA (addG (kG g1 s.1.length s.2.length) (83 + (gT g1).length) R) 66 = gA g 66 := adG_A.trans q66
      have d5 : gF (addG (kG g1 s.1.length s.2.length) (83 + (gT g1).length) R) 63 5 = nI n := (adG_F rfl rfl).trans q5
      have dP : ∀ i, gP (addG (kG g1 s.1.length s.2.length) (83 + (gT g1).length) R) 29 i = if i = R then some (83 + (gT g1).length) else gP g 29 i := fun i => adG_P.trans (by rw [f1.2.2.2.2.1 29 rfl])
      have dV : gV (addG (kG g1 s.1.length s.2.length) (83 + (gT g1).length) R) 20 7 = gV g 20 7 := (congrFun (congrFun adG_V 20) 7).trans (f1.2.2.2.1 20 7 rfl)
      have dT : gT (addG (kG g1 s.1.length s.2.length) (83 + (gT g1).length) R) = gT g ++ cdL (sF g1 1 1 0) s.1.length s.2.length := adG_T.trans (by rw [f1.2.2.2.2.2])
      have dz : Z0 (addG (kG g1 s.1.length s.2.length) (83 + (gT g1).length) R) := fun t ht => by rw [adG_A, adG_A]; exact hz1 t ht
      have d77 : gF (addG (kG g1 s.1.length s.2.length) (83 + (gT g1).length) R) 7 7 = -1 := (adG_F rfl rfl).trans h77
      have dC := adG_C (g := g1) (rc := R) h12 h400
      have d1 := adG_1 (g := g1) (nl := s.1.length) (sz := s.2.length) (c := 83 + (gT g1).length) (rc := R)
      have l3 : (cdL (sF g1 1 1 0) s.1.length s.2.length).length = 3 := rfl
      generalize addG (kG g1 s.1.length s.2.length) (83 + (gT g1).length) R = gd at a4 fe d20 d10 dA d64 d66 d5 dP dV dT dz d77 dC d1
      generalize cdL (sF g1 1 1 0) s.1.length s.2.length = l at dT l3
      refine ⟨0, 5 + nI R, gd, a4, fun w => (key (sB gd 82 w) (gs_5 d5) (gs_A d64) (gs_A d66)).imp (fun r' es' hq => ?_), Or.inl ⟨rfl, a3⟩⟩
      obtain ⟨x, g2, y1, y2, x1, g4, y3, y4⟩ := hq
      refine ⟨x, g2, y1, y2, ?_⟩
      obtain ⟨p1, p2, p3⟩ := tx_in y3 rfl h12 h400
      obtain ⟨p4, p5, p6, p7⟩ := prd_fr y3
      rcases y4 with ⟨z1, -⟩ | ⟨-, z2, -⟩ | ⟨-, z2, z3, z4⟩
      · rw [p1] at z1; exact absurd z1 (by decide)
      · omega
      · obtain ⟨u1, u3, u4⟩ := ru_core h hw hb hR hlt fe d20 d10 dA d64 dV dP dT l3 dC hcd hg d1 d77 dz p4 p5 p6 p2 (prd_0 y3) p3 z4
        refine ⟨u1, fun _ => ?_, u3, u4⟩
        rw [z3, show (5 : Int32) + nI R = nI (5 + R) from nIa (nIc 5) rfl, show (5 : Int32) + nI (R + 1) = nI (5 + (R + 1)) from nIa (nIc 5) rfl]
        exact ((nIs (a := 5 + (R + 1)) (b := 1) (by omega) rfl (nIc 1)).trans (by rw [show 5 + (R + 1) - 1 = 5 + R by omega])).symm
