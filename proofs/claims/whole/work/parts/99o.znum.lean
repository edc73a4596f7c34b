/-! calls that change numbers -/
theorem NZ_c {W W' : Nat → Int32} (h : ∀ s k, s < 32 → k < 34 → zC W' s k = zC W s k) : ∀ s, s ≤ 32 → NZ W' s = NZ W s
  | 0, _ => rfl
  | s + 1, hs => by unfold NZ; rw [NZ_c h s (by omega), czF_cg 32 (fun i hi => h s i (by omega) (by omega))]
theorem WB.nums {W W' : Nat → Int32} (h : WB W) (e : ∀ i, 10 ≤ i → i < 1310 → W' i = W i) (e2 : W' 2 = W 2) (h9 : 0 ≤ zW W' 9 ∧ zW W' 9 ≤ 99) (h8 : LB W') (h6 : 0 ≤ zW W' 6 ∧ zW W' 6 ≤ 90) (h7 : -9 ≤ zW W' 7 ∧ zW W' 7 ≤ 9) (hG : mG W' ≤ 10 ∧ W' 4 = nI (mG W')) (hT : 1 ≤ mT W' ∧ mT W' ≤ 60 ∧ W' 5 = nI (mT W')) (hR : mR W' ≤ 4 ∧ W' 1 = nI (mR W')) (h0 : 0 ≤ zW W' 0 ∧ zW W' 0 ≤ 12) : WB W' := by
  obtain ⟨a1, a2, a3, a4, a5, a6, a7, a8, a9, a10, a11, a12, a13⟩ := h
  have z : ∀ i, 10 ≤ i → i < 1310 → zW W' i = zW W i := fun i h1 h2 => by unfold zW; rw [e i h1 h2]
  have ec : ∀ s k, s < 32 → k < 34 → zC W' s k = zC W s k := fun s k hs hk => z _ (by omega) (by omega)
  have eN : mN W' = mN W := by unfold mN; rw [e2]
  refine ⟨fun s hs => ?_, h8, fun z' hz => ?_, h9, ?_, ?_, fun k hk => ?_, h6, h7, hG, hT, hR, h0⟩
  · obtain ⟨c1, c2⟩ := a1 s hs
    refine ⟨fun k hk => by rw [ec s k hs hk]; exact c1 k hk, ?_⟩
    rw [zS_congr 34 (fun i hi => ec s i hs hi)]; exact c2
  · rw [z _ (by omega) (by omega)]; exact a3 z' hz
  · rw [NZ_c ec 32 (Nat.le_refl _)]; exact a5
  · rw [eN, e2]; exact a6
  · rw [eN] at hk
    obtain ⟨b1, b2, b3⟩ := a7 k hk
    have := a6.1
    rw [z _ (by omega) (by omega), z _ (by omega) (by omega)]
    exact ⟨b1, b2, fun s hs => by rw [z _ (by omega) (by omega)]; exact b3 s hs⟩
def fZ (c k : Nat) : Bool := fRl c k || Nat.beq c 20
def aZ (c : Nat) : Bool := aRl c || ((Nat.ble 21 c && Nat.ble c 25) || Nat.beq c 64)
theorem Rel.mk2 {K : Nat} {g g' : GS} (h : Rel K g) (hf : Fr fZ aZ g g') (hr : ∃ gl rl, WR (gA g' 64) gl rl ∧ BkR g' (gA g' 64) gl rl) (hz : Z0 g') : Rel K g' := by
  obtain ⟨-, -, h3, ⟨n, h4, h5, h6, h7⟩, h8, ⟨i1, i2, i3, i4⟩, h9⟩ := h
  obtain ⟨fF, fA, -, fV, fP, fT⟩ := hf
  have b3 : gF g' 30 = gF g 30 := funext fun k => fF 30 k rfl
  refine ⟨hr, hz, ?_, ⟨n, h4, ?_, ?_, ?_⟩, ?_, ⟨?_, ?_, ?_, ?_⟩, ?_⟩
  · rw [fF 26 0 rfl]; exact h3
  · rw [fF 1 1 rfl]; exact h5
  · rw [fF 63 5 rfl]; exact h6
  · rw [fA 66 rfl, fA 2 rfl]; exact h7
  · rw [fF 7 7 rfl, fF 63 10 rfl]; exact h8
  · rw [fV 30 7 rfl]; exact i1
  · rw [fP 39 rfl, fT]; exact i2
  · rw [b3]; exact i3
  · rw [fF 0 4 rfl, fF 63 3 rfl, fA 65 rfl]
    unfold KpR
    rw [b3, fA 31 rfl, fA 32 rfl, fA 33 rfl, fA 34 rfl, fA 35 rfl, fV 30 7 rfl, fP 39 rfl, fT]
    exact i4
  · rw [fT]; exact h9
theorem BV.num {F F' A1 A2 A3 A4 A5 : Nat → Int32} {V : Value} {P : Nat → Option Nat} {T : List ME} {W W' : Nat → Int32} {gl : List TxL} {rl : Nat → List TxL} (h : BV F A1 A2 A3 A4 A5 V P T W gl rl) (hn : mN W ≤ 6) (e : ∀ i, 10 ≤ i → i < 5615 → W' i = W i) (e1 : W' 1 = W 1) (e2 : W' 2 = W 2) (e3 : W' 3 = W 3) (f8 : F' 8 = F 8) (f10 : F' 10 = F 10) (f11 : F' 11 = F 11) (f9 : F' 9 = W' 0) (f12 : F' 12 = W' 4) (f13 : F' 13 = W' 5) (f14 : F' 14 = W' 6) (f15 : F' 15 = W' 7) (f16 : F' 16 = W' 8) (f17 : F' 17 = W' 9) : BV F' A1 A2 A3 A4 A5 V P T W' gl rl := by
  obtain ⟨⟨c1, c2, c3, c4, c9, c10, c11, c12, c13, c14, c15, c16, c17⟩, hg, hru, hrow⟩ := h
  have eN : mN W' = mN W := by unfold mN; rw [e2]
  have eR : mR W' = mR W := by unfold mR; rw [e1]
  refine ⟨⟨fun s k hs hk => ?_, fun z hz => ?_, fun k hk => ?_, fun p h6 h7 => ?_, f9, f10.trans (c10.trans e1.symm), f11.trans (c11.trans e2.symm), f12, f13, f14, f15, f16, f17⟩, ?_, fun r hr' => ?_, hrow⟩
  · rw [e _ (by omega) (by omega)]; exact c1 s k hs hk
  · rw [e _ (by omega) (by omega)]; exact c2 z hz
  · rw [eN] at hk
    obtain ⟨d1, d2, d3⟩ := c3 k hk
    rw [e _ (by omega) (by omega), e _ (by omega) (by omega)]
    exact ⟨d1, d2, fun s hs => by rw [e _ (by omega) (by omega)]; exact d3 s hs⟩
  · rw [eN] at h6; exact c4 p h6 h7
  · rw [e3, f8, e (1310 + 861 * 4) (by omega) (by omega)]; exact hg
  · rw [eR] at hr'; exact hru r hr'
/-- numbers below 10 changed alike -/
theorem Rel.num {K : Nat} {g g' : GS} {W' : Nat → Int32} (h : Rel K g) (hf : Fr fZ aZ g g') (hA : ∀ c, c = 21 ∨ c = 22 ∨ c = 23 ∨ c = 24 ∨ c = 25 → gA g' c = gA g c) (hV : gV g' 20 7 = gV g 20 7) (hz : Z0 g') (e64 : gA g' 64 = W') (e : ∀ i, 10 ≤ i → W' i = gA g 64 i) (e0 : W' 0 = gA g 64 0) (e1 : W' 1 = gA g 64 1) (e2 : W' 2 = gA g 64 2) (e3 : W' 3 = gA g 64 3) (f8 : gF g' 20 8 = gF g 20 8) (f10 : gF g' 20 10 = gF g 20 10) (f11 : gF g' 20 11 = gF g 20 11) (f9 : gF g' 20 9 = W' 0) (f12 : gF g' 20 12 = W' 4) (f13 : gF g' 20 13 = W' 5) (f14 : gF g' 20 14 = W' 6) (f15 : gF g' 20 15 = W' 7) (f16 : gF g' 20 16 = W' 8) (f17 : gF g' 20 17 = W' 9)
    (h9 : 0 ≤ zW W' 9 ∧ zW W' 9 ≤ 99) (h8 : LB W') (h6 : 0 ≤ zW W' 6 ∧ zW W' 6 ≤ 90) (h7 : -9 ≤ zW W' 7 ∧ zW W' 7 ≤ 9) (hG : mG W' ≤ 10 ∧ W' 4 = nI (mG W')) (hT : 1 ≤ mT W' ∧ mT W' ≤ 60 ∧ W' 5 = nI (mT W')) : Rel K g' := by
  obtain ⟨gl, rl, hw, hb⟩ := h.1
  have hW := hw.1
  have eR : mR W' = mR (gA g 64) := by unfold mR; rw [e1]
  have hb' : WB W' := hW.nums (fun i a _ => e i a) e2 h9 h8 h6 h7 hG hT (by rw [eR, e1]; exact hW.2.2.2.2.2.2.2.2.2.2.2.1) (by unfold zW; rw [e0]; exact hW.2.2.2.2.2.2.2.2.2.2.2.2)
  refine h.mk2 hf ⟨gl, rl, ?_, ?_⟩ hz
  · rw [e64]
    exact hw.of hb' (by rw [NZ_c (fun s k _ _ => show zW W' _ = zW (gA g 64) _ by unfold zW; rw [e _ (by omega)]) 32 (Nat.le_refl _), e0]; exact hw.2.1) e1 e3 (fun i a _ => e i (by omega))
  · unfold BkR
    rw [hA 21 (by simp), hA 22 (by simp), hA 23 (by simp), hA 24 (by simp), hA 25 (by simp), hV, hf.2.2.2.2.1 29 rfl, hf.2.2.2.2.2, e64]
    exact BV.num hb hw.n6 (fun i a _ => e i a) e1 e2 e3 f8 f10 f11 f9 f12 f13 f14 f15 f16 f17
theorem al_v {K : Nat} {g g1 : GS} {M M' : MI} {R R' : Room} {args args' : List Value} {E : List String} {l : List (Bool × Nat)} {P : GS → GS → Prop} {ms : List (Bool × Int32)} (h : Rel K g) (hc : Ct M R args (Wd g) (FX (fxS E l) (RR (.inl none) g1) g)) (hlen : ∀ p, p ∈ l → p.2 < E.length) (hm : ∀ g', Ct M' R' args' (Wd g') (PQv g' ms (P g'))) (hcode : mxC ms = (fxN l).map (fun i => nI (i + 1))) (hv : fxN l = none → ∀ g2, P g1 g2 → gF g2 63 0 = 0 ∧ Rel K g2) :
    Ct M R args (Wd g) (PLv E (fun k g1 => Ct M' R' args' (Wd g1) (RXv (AlV K k)))) := by
  refine hc.imp (fun r es hq => ?_)
  rcases FX_N l hq with ⟨e, hr, hes⟩ | ⟨i, e, ⟨p, p1, p2⟩, hr, hes⟩
  · refine ⟨0, g1, hes, (hm g1).imp (fun r' es' hq' => ?_), Or.inl ⟨rfl, hr⟩⟩
    obtain ⟨g2, y1, y2, y3⟩ := hq'
    refine ⟨g2, y1, y2, ?_⟩
    rcases y3 with ⟨c, z1, -⟩ | ⟨-, z1⟩
    · rw [al_none hcode e] at z1; cases z1
    · exact hv e g2 z1
  · have hi : i < E.length := by rw [← p2]; exact hlen p p1
    refine ⟨nI (i + 1), g, hes, (hm g).imp (fun r' es' hq' => ?_), Or.inr ⟨i, hi, rfl, hr⟩⟩
    obtain ⟨g2, y1, y2, y3⟩ := hq'
    refine ⟨g2, y1, y2, ?_⟩
    rcases y3 with ⟨c, z1, z2⟩ | ⟨z1, -⟩
    · rw [al_code hcode e] at z1
      cases z1
      subst z2
      exact ⟨rfl, (h.s0 0).s0 _⟩
    · rw [al_code hcode e] at z1; cases z1
theorem fIn_b {x lo hi : Int32} (h : fIn x lo hi = true) : lo.toInt ≤ x.toInt ∧ x.toInt ≤ hi.toInt := by
  unfold fIn at h
  by_cases c1 : x < lo
  · rw [if_pos c1] at h; cases h
  · rw [if_neg c1] at h
    by_cases c2 : hi < x
    · rw [if_pos c2] at h; cases h
    · exact ⟨Int32.le_iff_toInt_le.mp (nlt_le c1), Int32.le_iff_toInt_le.mp (nlt_le c2)⟩
/-- what the numbers are, found -/
theorem Rel.fs {K : Nat} {g : GS} (h : Rel K g) : (gF g 20 9 = gA g 64 0 ∧ gF g 20 12 = gA g 64 4 ∧ gF g 20 13 = gA g 64 5 ∧ gF g 20 14 = gA g 64 6 ∧ gF g 20 15 = gA g 64 7 ∧ gF g 20 16 = gA g 64 8 ∧ gF g 20 17 = gA g 64 9) ∧ WB (gA g 64) := by
  obtain ⟨gl, rl, hw, hb⟩ := h.1
  obtain ⟨-, -, -, -, x9, -, -, x12, x13, x14, x15, x16, x17⟩ := hb.1
  exact ⟨⟨x9, x12, x13, x14, x15, x16, x17⟩, hw.1⟩
theorem up_hi {W : Nat → Int32} {i j : Nat} {v : Int32} (hi : i < 10) (hj : 10 ≤ j) : upd W i v j = W j := if_neg (by omega)
theorem al_now {K : Nat} {g : GS} (h : Rel K g) (m s : Int32) : Ct mX11_now (rm 10 1 6) [.ref 0, .int m, .int s] (Wd g) (PLv [x_iae] (fun kk gg => Ct mX12_now (rm 2 0 0) [.ref 63, .int m, .int s] (Wd gg) (RXv (AlV K kk)))) := by
  obtain ⟨⟨x9, x12, x13, x14, x15, x16, x17⟩, hW⟩ := h.fs
  refine al_v (E := [x_iae]) (l := [(fNo m s, 0)]) h (ct_now g m s) (ll rfl) (fun g' => ct_m_now g' m s) ?_ (fun hn g2 hp => ?_)
  · rw [show fNo m s = (fIn m 0 90 && fIn s (-9) 9) from rfl]
    generalize (fIn m 0 90 && fIn s (-9) 9) = b0
    cases b0 <;> rfl
  · obtain ⟨h1, -⟩ := gn hn
    have h1 : (fIn m 0 90 && fIn s (-9) 9) = true := h1
    rw [Bool.and_eq_true] at h1
    have b1 := fIn_b h1.1
    have b2 := fIn_b h1.2
    subst hp
    exact ⟨rfl, h.num (W' := upd (upd (gA g 64) 6 m) 7 s) (((((Fr.rf.sF rfl).sF rfl).sF rfl).sA rfl).sA rfl) (fun c hc => by rcases hc with rfl | rfl | rfl | rfl | rfl <;> rfl) rfl h.2.1 rfl (fun i hi => (up_hi (by omega) hi).trans (up_hi (by omega) hi)) rfl rfl rfl rfl rfl rfl rfl x9 x12 x13 rfl rfl x16 x17 hW.2.2.2.1 hW.2.1 b1 b2 hW.2.2.2.2.2.2.2.2.2.1 hW.2.2.2.2.2.2.2.2.2.2.1⟩
theorem al_lost {K : Nat} {g : GS} (h : Rel K g) (n : Int32) : Ct mX11_lost (rm 10 1 6) [.ref 0, .int n] (Wd g) (PLv [x_iae] (fun kk gg => Ct mX12_lost (rm 2 0 0) [.ref 63, .int n] (Wd gg) (RXv (AlV K kk)))) := by
  obtain ⟨⟨x9, x12, x13, x14, x15, x16, x17⟩, hW⟩ := h.fs
  refine al_v (E := [x_iae]) (l := [(fWi n 9999, 0)]) h (ct_lost g n) (ll rfl) (fun g' => ct_m_lost g' n) ?_ (fun hn g2 hp => ?_)
  · rw [c_wi]
    generalize fIn n 0 9999 = b0
    cases b0 <;> rfl
  · obtain ⟨h1, -⟩ := gn hn
    have b1 := fIn_b (x := n) (lo := 0) (hi := 9999) h1
    subst hp
    exact ⟨rfl, h.num (W' := upd (gA g 64) 8 n) (((Fr.rf.sF rfl).sF rfl).sA rfl) (fun c hc => by rcases hc with rfl | rfl | rfl | rfl | rfl <;> rfl) rfl h.2.1 rfl (fun i hi => up_hi (by omega) hi) rfl rfl rfl rfl rfl rfl rfl x9 x12 x13 x14 x15 rfl x17 hW.2.2.2.1 b1 hW.2.2.2.2.2.2.2.1 hW.2.2.2.2.2.2.2.2.1 hW.2.2.2.2.2.2.2.2.2.1 hW.2.2.2.2.2.2.2.2.2.2.1⟩
theorem al_patience {K : Nat} {g : GS} (h : Rel K g) (n : Int32) : Ct mX11_patience (rm 10 1 6) [.ref 0, .int n] (Wd g) (PLv [x_iae] (fun kk gg => Ct mX12_patience (rm 2 0 0) [.ref 63, .int n] (Wd gg) (RXv (AlV K kk)))) := by
  obtain ⟨⟨x9, x12, x13, x14, x15, x16, x17⟩, hW⟩ := h.fs
  refine al_v (E := [x_iae]) (l := [(fWi n 99, 0)]) h (ct_patience g n) (ll rfl) (fun g' => ct_m_patience g' n) ?_ (fun hn g2 hp => ?_)
  · rw [c_wi]
    generalize fIn n 0 99 = b0
    cases b0 <;> rfl
  · obtain ⟨h1, -⟩ := gn hn
    have b1 := fIn_b (x := n) (lo := 0) (hi := 99) h1
    subst hp
    exact ⟨rfl, h.num (W' := upd (gA g 64) 9 n) (((Fr.rf.sF rfl).sF rfl).sA rfl) (fun c hc => by rcases hc with rfl | rfl | rfl | rfl | rfl <;> rfl) rfl h.2.1 rfl (fun i hi => up_hi (by omega) hi) rfl rfl rfl rfl rfl rfl rfl x9 x12 x13 x14 x15 x16 rfl b1 hW.2.1 hW.2.2.2.2.2.2.2.1 hW.2.2.2.2.2.2.2.2.1 hW.2.2.2.2.2.2.2.2.2.1 hW.2.2.2.2.2.2.2.2.2.2.1⟩
theorem al_grace {K : Nat} {g : GS} (h : Rel K g) (n : Int32) : Ct mX11_grace (rm 10 1 6) [.ref 0, .int n] (Wd g) (PLv [x_iae] (fun kk gg => Ct mX12_grace (rm 2 0 0) [.ref 63, .int n] (Wd gg) (RXv (AlV K kk)))) := by
  obtain ⟨⟨x9, x12, x13, x14, x15, x16, x17⟩, hW⟩ := h.fs
  refine al_v (E := [x_iae]) (l := [(fWi n 10, 0)]) h (ct_grace g n) (ll rfl) (fun g' => ct_m_grace g' n) ?_ (fun hn g2 hp => ?_)
  · rw [c_wi]
    generalize fIn n 0 10 = b0
    cases b0 <;> rfl
  · obtain ⟨h1, -⟩ := gn hn
    obtain ⟨q, q1, rfl⟩ := fWi_nI (m := 10) (by omega) h1
    have eq : mG (upd (gA g 64) 4 (nI q)) = q := nN_nI (n := q) (by omega)
    subst hp
    exact ⟨rfl, h.num (W' := upd (gA g 64) 4 (nI q)) (((Fr.rf.sF rfl).sF rfl).sA rfl) (fun c hc => by rcases hc with rfl | rfl | rfl | rfl | rfl <;> rfl) rfl h.2.1 rfl (fun i hi => up_hi (by omega) hi) rfl rfl rfl rfl rfl rfl rfl x9 rfl x13 x14 x15 x16 x17 hW.2.2.2.1 hW.2.1 hW.2.2.2.2.2.2.2.1 hW.2.2.2.2.2.2.2.2.1 (by rw [eq]; exact ⟨q1, rfl⟩) hW.2.2.2.2.2.2.2.2.2.2.1⟩
theorem c_ho (n : Int32) : fHo n = fIn n 1 60 := by
  unfold fHo fWi fIn
  by_cases c : n = 0
  · subst c; rfl
  · rw [if_neg c]
    have e : (n < 0) ↔ (n < 1) := by
      rw [Int32.lt_iff_toInt_lt, Int32.lt_iff_toInt_lt, show (0 : Int32).toInt = 0 from rfl, show (1 : Int32).toInt = 1 from rfl]
      have : n.toInt ≠ 0 := fun z => c (Int32.toInt_inj.mp (z.trans Int32.toInt_zero.symm))
      omega
    exact if3 e Iff.rfl
theorem al_horizon {K : Nat} {g : GS} (h : Rel K g) (n : Int32) : Ct mX11_horizon (rm 10 1 6) [.ref 0, .int n] (Wd g) (PLv [x_iae] (fun kk gg => Ct mX12_horizon (rm 2 0 0) [.ref 63, .int n] (Wd gg) (RXv (AlV K kk)))) := by
  obtain ⟨⟨x9, x12, x13, x14, x15, x16, x17⟩, hW⟩ := h.fs
  refine al_v (E := [x_iae]) (l := [(fHo n, 0)]) h (ct_horizon g n) (ll rfl) (fun g' => ct_m_horizon g' n) ?_ (fun hn g2 hp => ?_)
  · rw [c_ho]
    generalize fIn n 1 60 = b0
    cases b0 <;> rfl
  · obtain ⟨h1, -⟩ := gn hn
    have h1 := fIn_b (show fIn n 1 60 = true by rw [← c_ho]; exact h1)
    rw [show (1 : Int32).toInt = 1 from rfl, show (60 : Int32).toInt = 60 from rfl] at h1
    obtain ⟨q, q0, q1, rfl⟩ : ∃ q, 1 ≤ q ∧ q ≤ 60 ∧ n = nI q := ⟨n.toInt.toNat, by omega, by omega, Int32.toInt_inj.mp (by rw [nI_toInt (by omega)]; omega)⟩
    have eq : mT (upd (gA g 64) 5 (nI q)) = q := nN_nI (n := q) (by omega)
    subst hp
    exact ⟨rfl, h.num (W' := upd (gA g 64) 5 (nI q)) (((Fr.rf.sF rfl).sF rfl).sA rfl) (fun c hc => by rcases hc with rfl | rfl | rfl | rfl | rfl <;> rfl) rfl h.2.1 rfl (fun i hi => up_hi (by omega) hi) rfl rfl rfl rfl rfl rfl rfl x9 x12 rfl x14 x15 x16 x17 hW.2.2.2.1 hW.2.1 hW.2.2.2.2.2.2.2.1 hW.2.2.2.2.2.2.2.2.1 hW.2.2.2.2.2.2.2.2.2.1 (by rw [eq]; exact ⟨q0, q1, rfl⟩)⟩
