/-! rate, sort, learn -/
theorem al_g {K : Nat} {g g1 : GS} {M M' : MI} {R R' : Room} {args args' : List Value} {E : List String} {l : List (Bool × Nat)} {v : Int32} {P : GS → Int32 → GS → Prop} {ms : List (Bool × Int32)} (h : Rel K g) (hc : Ct M R args (Wd g) (FX (fxS E l) (RR (.inl (some (.int v))) g1) g)) (hlen : ∀ p, p ∈ l → p.2 < E.length) (hE : E.length < 100) (hm : ∀ g', gA g' 64 = gA g 64 → Ct M' R' args' (Wd g') (PQi g' ms (P g'))) (hA : gA g1 64 = gA g 64) (hcode : mxC ms = (fxN l).map (fun i => nI (i + 1))) (hv : fxN l = none → ∀ w x g2, P (sB g1 82 w) x g2 → v = x ∧ gF g2 63 0 = 0 ∧ Rel K g2 ∧ gB g2 82 = w) :
    Ct M R args (Wd g) (PLi E (fun k v g1 => ∀ w, Ct M' R' args' (Wd (sB g1 82 w)) (RXi (AlI K k v w)))) := by
  refine hc.imp (fun r es hq => ?_)
  rcases FX_N l hq with ⟨e, hr, hes⟩ | ⟨i, e, ⟨p, p1, p2⟩, hr, hes⟩
  · refine ⟨0, v, g1, hes, fun w => (hm (sB g1 82 w) hA).imp (fun r' es' hq' => ?_), Or.inl ⟨rfl, hr⟩⟩
    obtain ⟨x, g2, y1, y2, y3⟩ := hq'
    refine ⟨x, g2, y1, y2, ?_⟩
    rcases y3 with ⟨c, z1, -⟩ | ⟨-, z1⟩
    · rw [al_none hcode e] at z1; cases z1
    · obtain ⟨u1, u2, u3, u4⟩ := hv e w x g2 z1
      exact ⟨u2, fun _ => u1, u3, u4⟩
  · have hi : i < E.length := by rw [← p2]; exact hlen p p1
    refine ⟨nI (i + 1), v, g, hes, fun w => (hm (sB g 82 w) rfl).imp (fun r' es' hq' => ?_), Or.inr ⟨i, hi, rfl, hr⟩⟩
    obtain ⟨x, g2, y1, y2, y3⟩ := hq'
    refine ⟨x, g2, y1, y2, ?_⟩
    rcases y3 with ⟨c, z1, z2, z3⟩ | ⟨z1, -⟩
    · rw [al_code hcode e] at z1
      cases z1
      obtain ⟨u1, u2, u3⟩ := al_thr h z3
      exact ⟨u1, fun z => absurd z (ne_i (by omega)), u2, u3⟩
    · rw [al_code hcode e] at z1; cases z1
theorem BkR.w {g g' : GS} {W W' : Nat → Int32} {gl : List TxL} {rl : Nat → List TxL} (h : BkR g W gl rl) (hq : BkQ g' W') (f8 : gF g' 20 8 = gF g 20 8) (hV : gV g' 20 7 = gV g 20 7) (hP : gP g' 29 = gP g 29) (hT : gT g' = gT g) (e1 : W' 1 = W 1) (e3 : W' 3 = W 3) (e5 : W' (1310 + 861 * 4) = W (1310 + 861 * 4)) : BkR g' W' gl rl := by
  obtain ⟨-, h2, h3, h4⟩ := h
  have eR : mR W' = mR W := by unfold mR; rw [e1]
  unfold BkR
  refine ⟨hq, ?_, ?_, ?_⟩
  · rw [f8, hV, hT, e3, e5]; exact h2
  · rw [eR, hP, hT]; exact h3
  · rw [hP, hT]; exact h4
theorem WR.eq {W W' : Nat → Int32} {gl : List TxL} {rl : Nat → List TxL} (h : WR W gl rl) (hb : WB W') (e : WEq W W') : WR W' gl rl :=
  h.of hb (by rw [NZ_cg e.ch 32 (Nat.le_refl _), e.lo (show 0 < 1108 by omega)]; exact h.2.1) (e.lo (by omega)) (e.lo (by omega)) (fun i a _ => e.hi a)
theorem al_rate {K : Nat} {g : GS} (h : Rel K g) (k s n : Int32) : Ct mX11_rate (rm 10 2 12) [.ref 0, .int k, .int s, .int n] (Wd g) (PLi [x_iob, x_iae] (fun kk vv gg => ∀ w, Ct mX12_rate (rm 2 0 0) [.ref 63, .int k, .int s, .int n] (Wd (sB gg 82 w)) (RXi (AlI K kk vv w)))) := by
  obtain ⟨gl, rl, q, hw, hb, hC, hQ⟩ := h.cq
  have hq : BkQ g (gA g 64) := hb.1
  have n6 := hw.n6
  have hm : ∀ g', gA g' 64 = gA g 64 → Ct mX12_rate (rm 2 0 0) [.ref 63, .int k, .int s, .int n] (Wd g') (PQi g' [(wMs (gA g 64) k && fIn s 0 31, 1), (fIn n 0 999, 2)] (fun x g2 => x = gA g 64 (1106 + 34 * nN k + (2 + nN s)) ∧ g2 = wU (sF g' 63 0 0) (1106 + 34 * nN k + (2 + nN s)) n)) := fun g' e => by
    have t := ct_m_rate g' gl rl (by rw [e]; exact hw.2.2.1) k s n
    rw [e] at t
    exact t
  refine al_g (E := [x_iob, x_iae]) (l := [(fSo g k && fSt s, 0), (fWi n 999, 1)]) h (ct_rate g k s n) (ll rfl) (by decide) hm rfl ?_ (fun hn w x g2 hp => ?_)
  · simp only [c_so hq hw, c_st, c_wi]
    generalize wMs (gA g 64) k = b0
    generalize fIn s 0 31 = b1
    generalize fIn n 0 999 = b2
    cases b0 <;> cases b1 <;> cases b2 <;> rfl
  · obtain ⟨h1, hn1⟩ := gn hn
    obtain ⟨h2, -⟩ := gn hn1
    rw [Bool.and_eq_true] at h1
    obtain ⟨k1, kl1, rfl⟩ := so_nI hq hw h1.1
    obtain ⟨s1, sl1, rfl⟩ := fSt_nI h1.2
    have bn := fIn_b (x := n) (lo := 0) (hi := 999) h2
    rw [show (0 : Int32).toInt = 0 from rfl, show (999 : Int32).toInt = 999 from rfl] at bn
    obtain ⟨p1, p2⟩ := hp
    rw [nN_nI (n := k1) (by omega), nN_nI (n := s1) (by omega)] at p1 p2
    have e25 : bk_sr g 20 (nI k1) (nI s1) n = sA g 25 (upd (gA g 25) (32 * k1 + s1) n) := by
      unfold bk_sr
      rw [show (32 : Int32) * nI k1 + nI s1 = nI (32 * k1 + s1) from nIa (nIm (nIc 32) rfl) rfl, rPut_in (by omega) (by omega)]
    rw [e25] at p2
    have hE : WEq (gA g 64) (upd (gA g 64) (rIx k1 s1) n) := WEq.up (isR_at (by omega) sl1)
    have e64 : gA g2 64 = upd (gA g 64) (rIx k1 s1) n := by rw [p2]; rfl
    have hB : WB (upd (gA g 64) (rIx k1 s1) n) := hw.1.eq hE (fun k s hk hs => by
      by_cases c : k = k1 ∧ s = s1
      · obtain ⟨rfl, rfl⟩ := c
        rw [show zW (upd (gA g 64) (rIx k s) n) (rIx k s) = n.toInt from by unfold zW; rw [upd_here]]; exact bn
      · rw [show zW (upd (gA g 64) (rIx k1 s1) n) (rIx k s) = zW (gA g 64) (rIx k s) from by unfold zW; rw [upd_other (fun z => c (rIx_inj hs sl1 z))]]
        exact (hw.1.2.2.2.2.2.2.1 k hk).2.2 s hs)
    refine ⟨(bk_rt_z hq hw.1 kl1 sl1).trans p1.symm, by rw [p2]; rfl, h.mk2 ?_ ⟨gl, rl, ?_, ?_⟩ ?_, by rw [p2]; rfl⟩
    · rw [p2]; exact (((Fr.rf.sA rfl).sB rfl).sF rfl).sA rfl
    · rw [e64]; exact hw.eq hB hE
    · rw [e64]
      have u := hq.up n6 kl1 sl1 n
      subst p2
      exact hb.w u rfl rfl rfl rfl (hE.lo (by omega)) (hE.lo (by omega)) (hE.hi (by omega))
    · rw [p2]; exact h.2.1
/-! a sort -/
theorem soZ_at (q : Nat) : ∀ (k i : Nat) (g : GS) (j : Nat), gA (itU (soZ q) k i g) 64 j = if 1106 + 34 * q + i ≤ j ∧ j < 1106 + 34 * q + i + k then 0 else gA g 64 j
  | 0, i, g, j => by rw [if_neg (by omega)]; rfl
  | k + 1, i, g, j => by
    show gA (itU (soZ q) k (i + 1) (soZ q i g)) 64 j = _
    rw [soZ_at q k (i + 1) (soZ q i g) j]
    by_cases c : 1106 + 34 * q + (i + 1) ≤ j ∧ j < 1106 + 34 * q + (i + 1) + k
    · rw [if_pos c, if_pos (by omega)]
    · rw [if_neg c]
      by_cases e : j = 1106 + 34 * q + i
      · subst e
        rw [if_pos (by omega)]
        exact upd_here _ _ _
      · rw [if_neg (by omega)]
        exact upd_other e
theorem soZ_fr (q : Nat) {g0 : GS} : ∀ (k i : Nat) {g : GS}, Fr f0 a64o g0 g → Fr f0 a64o g0 (itU (soZ q) k i g)
  | 0, _, _, h => h
  | k + 1, i, g, h => soZ_fr q k (i + 1) (h.sA rfl)
def soW (W : Nat → Int32) (q : Nat) (c f : Int32) : Nat → Int32 := fun i => if i = 2 then nI q + 1 else if i = 1106 + 34 * q + 1 then f else if i = 1106 + 34 * q + 0 then c else if 1106 + 34 * q + 0 ≤ i ∧ i < 1106 + 34 * q + 0 + 34 then 0 else W i
theorem so_64 (g : GS) (q : Nat) (c f : Int32) : gA (wU (soG q c f g) 2 (nI q + 1)) 64 = soW (gA g 64) q c f := by
  funext i
  show (if i = 2 then nI q + 1 else gA (soG q c f g) 64 i) = _
  unfold soW
  by_cases e : i = 2
  · rw [if_pos e, if_pos e]
  · rw [if_neg e, if_neg e]
    show (if i = 1106 + 34 * q + 1 then f else if i = 1106 + 34 * q + 0 then c else gA (itU (soZ q) 34 0 g) 64 i) = _
    rw [soZ_at]
theorem soW_lo {W : Nat → Int32} {q : Nat} {c f : Int32} {i : Nat} (h2 : ¬ i = 2) (h : i < 1106 + 34 * q ∨ 1106 + 34 * q + 34 ≤ i) : soW W q c f i = W i := by
  unfold soW
  rw [if_neg h2, if_neg (by omega), if_neg (by omega), if_neg (by omega)]
theorem soW_N {W : Nat → Int32} {q : Nat} {c f : Int32} (hq : q < 6) : mN (soW W q c f) = q + 1 := by
  unfold mN
  rw [show soW W q c f 2 = nI q + 1 from rfl, show nI q + 1 = nI (q + 1) from nIa rfl (nIc 1), nI_clamp (by omega)]
theorem soW_r {W : Nat → Int32} {q : Nat} {c f : Int32} {s : Nat} (hs : s < 32) : soW W q c f (1106 + 34 * q + (2 + s)) = 0 := by
  unfold soW
  rw [if_neg (by omega), if_neg (by omega), if_neg (by omega), if_pos (by omega)]
theorem soW_0 {W : Nat → Int32} {q : Nat} {c f : Int32} : soW W q c f (1106 + 34 * q + 0) = c := by
  unfold soW
  rw [if_neg (by omega), if_neg (by omega), if_pos rfl]
theorem soW_1 {W : Nat → Int32} {q : Nat} {c f : Int32} : soW W q c f (1106 + 34 * q + 1) = f := by
  unfold soW
  rw [if_neg (by omega), if_pos rfl]
theorem soW_B {W : Nat → Int32} (h : WB W) {q : Nat} (eq : mN W = q) (hq : q < 6) {c f : Int32} (hc : 0 ≤ c.toInt ∧ c.toInt ≤ 9999) (hf : 0 ≤ f.toInt ∧ f.toInt ≤ 100) : WB (soW W q c f) := by
  obtain ⟨a1, a2, a3, a4, a5, a6, a7, a8, a9, a10, a11, a12, a13⟩ := h
  have e : ∀ i, ¬ i = 2 → i < 1106 → soW W q c f i = W i := fun i h1 h2 => soW_lo h1 (Or.inl (by omega))
  have z : ∀ i, ¬ i = 2 → i < 1106 → zW (soW W q c f) i = zW W i := fun i h1 h2 => by unfold zW; rw [e i h1 h2]
  have ec : ∀ s k, s < 32 → k < 34 → zC (soW W q c f) s k = zC W s k := fun s k hs hk => z _ (by omega) (by omega)
  have eR : mR (soW W q c f) = mR W := by unfold mR; rw [e 1 (by omega) (by omega)]
  have eG : mG (soW W q c f) = mG W := by unfold mG; rw [e 4 (by omega) (by omega)]
  have eT : mT (soW W q c f) = mT W := by unfold mT; rw [e 5 (by omega) (by omega)]
  refine ⟨fun s hs => ?_, ?_, fun z' hz => ?_, ?_, ?_, ?_, fun k hk => ?_, ?_, ?_, ?_, ?_, ?_, ?_⟩
  · obtain ⟨c1, c2⟩ := a1 s hs
    refine ⟨fun k hk => by rw [ec s k hs hk]; exact c1 k hk, ?_⟩
    rw [zS_congr 34 (fun i hi => ec s i hs hi)]; exact c2
  · unfold LB; rw [z 8 (by omega) (by omega)]; exact a2
  · rw [z _ (by omega) (by omega)]; exact a3 z' hz
  · rw [z _ (by omega) (by omega)]; exact a4
  · rw [NZ_c ec 32 (Nat.le_refl _)]; exact a5
  · rw [soW_N hq]; exact ⟨by omega, nIa rfl (nIc 1)⟩
  · rw [soW_N hq] at hk
    by_cases ek : k = q
    · subst ek
      unfold zW
      rw [soW_0, soW_1]
      exact ⟨hc, hf, fun s hs => by rw [soW_r hs, show (0 : Int32).toInt = 0 from rfl]; omega⟩
    · obtain ⟨b1, b2, b3⟩ := a7 k (by omega)
      unfold zW at b1 b2 b3 ⊢
      rw [soW_lo (by omega) (by omega), soW_lo (by omega) (by omega)]
      exact ⟨b1, b2, fun s hs => by rw [soW_lo (by omega) (by omega)]; exact b3 s hs⟩
  · rw [z _ (by omega) (by omega)]; exact a8
  · rw [z _ (by omega) (by omega)]; exact a9
  · rw [eG, e 4 (by omega) (by omega)]; exact a10
  · rw [eT, e 5 (by omega) (by omega)]; exact a11
  · rw [eR, e 1 (by omega) (by omega)]; exact a12
  · rw [z _ (by omega) (by omega)]; exact a13
theorem soW_Q {g g' : GS} {W : Nat → Int32} (h : BkQ g W) {q : Nat} (eq : mN W = q) (hq : q < 6) {c f : Int32} (h21 : gA g' 21 = gA g 21) (h22 : gA g' 22 = gA g 22) (h23 : gA g' 23 = upd (gA g 23) q c) (h24 : gA g' 24 = upd (gA g 24) q f) (h25 : gA g' 25 = gA g 25) (fe : ∀ k, ¬ k = 11 → gF g' 20 k = gF g 20 k) (f11 : gF g' 20 11 = nI q + 1) : BkQ g' (soW W q c f) := by
  obtain ⟨b1, b2, b3, b4, b5, b6, b7, b8, b9, b10, b11, b12, b13⟩ := h
  have e : ∀ i, ¬ i = 2 → i < 1106 → soW W q c f i = W i := fun i h1 h2 => soW_lo h1 (Or.inl (by omega))
  refine ⟨fun s k hs hk => ?_, fun z hz => ?_, fun k hk => ?_, fun p h6 h7 => ?_, ?_, ?_, f11, ?_, ?_, ?_, ?_, ?_, ?_⟩
  · rw [h21, e _ (by omega) (by omega)]; exact b1 s k hs hk
  · rw [h22, e _ (by omega) (by omega)]; exact b2 z hz
  · rw [soW_N hq] at hk
    rw [h23, h24, h25]
    by_cases ek : k = q
    · subst ek
      rw [soW_0, soW_1, upd_here, upd_here]
      exact ⟨rfl, rfl, fun s hs => by rw [soW_r hs]; exact b4 _ (by rw [eq]; omega) (by omega)⟩
    · obtain ⟨d1, d2, d3⟩ := b3 k (by omega)
      rw [upd_other ek, upd_other ek, soW_lo (by omega) (by omega), soW_lo (by omega) (by omega)]
      exact ⟨d1, d2, fun s hs => by rw [soW_lo (by omega) (by omega)]; exact d3 s hs⟩
  · rw [soW_N hq] at h6; rw [h25]; exact b4 p (by rw [eq]; omega) h7
  · rw [fe 9 (by omega), e 0 (by omega) (by omega)]; exact b5
  · rw [fe 10 (by omega), e 1 (by omega) (by omega)]; exact b6
  · rw [fe 12 (by omega), e 4 (by omega) (by omega)]; exact b8
  · rw [fe 13 (by omega), e 5 (by omega) (by omega)]; exact b9
  · rw [fe 14 (by omega), e 6 (by omega) (by omega)]; exact b10
  · rw [fe 15 (by omega), e 7 (by omega) (by omega)]; exact b11
  · rw [fe 16 (by omega), e 8 (by omega) (by omega)]; exact b12
  · rw [fe 17 (by omega), e 9 (by omega) (by omega)]; exact b13
