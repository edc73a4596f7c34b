/-! more of what is asked -/
theorem cds_of {g : GS} {W : Nat → Int32} {gl : List TxL} {rl : Nat → List TxL} (hb : BkR g W gl rl) : ∃ cds : Nat → CD, ∀ r, r < mR W → (∃ c, gP g 29 r = some c ∧ CodeT (gT g) c (cds r)) ∧ RulQ (cds r) (rl r) := by
  have h : ∀ n, n ≤ mR W → ∃ cds : Nat → CD, ∀ r, r < n → (∃ c, gP g 29 r = some c ∧ CodeT (gT g) c (cds r)) ∧ RulQ (cds r) (rl r) := by
    intro n
    induction n with
    | zero => intro _; exact ⟨fun _ => (0, (0, fun _ => 0), (0, fun _ => 0)), fun r hr => absurd hr (by omega)⟩
    | succ n ih =>
      intro hn
      obtain ⟨cds, hc⟩ := ih (by omega)
      obtain ⟨c, cd, x1, x2, x3⟩ := hb.2.2.1 n (by omega)
      refine ⟨fun r => if r = n then cd else cds r, fun r hr => ?_⟩
      by_cases e : r = n
      · subst e
        simp only [if_true]
        exact ⟨⟨c, x1, x2⟩, x3⟩
      · simp only [if_neg e]
        exact hc r (by omega)
  exact h (mR W) (Nat.le_refl _)
theorem v_follows {g : GS} {W : Nat → Int32} (hq : BkQ g W) {s x : Nat} (hs : s < 32) (hx : x ≤ 34) : (if ¬ nI x = 34 then bk_ch g 20 (nI s) (nI x) else 100 - bk_ct g 20 (nI s)) = (if x < 34 then W (18 + 34 * s + x) else wSt W s) := by
  by_cases c : x < 34
  · rw [if_pos (show ¬ nI x = 34 from fun z => nI_nq (a := x) (b := 34) (by omega) (by omega) (by omega) z), if_pos c]
    exact bk_ch_z hq.1 hs c
  · have : x = 34 := by omega
    subst this
    rw [if_neg (fun z => z rfl), if_neg c, bk_ct_z hq.1 hs]
    have e : wSt W s = zI (100 - zS (zC W s) 34) := dI_z (a := 100) 34 (fun i hi => (zW_I W _).symm)
    rw [e]; exact (zI_sub 100 _).symm
set_option maxRecDepth 100000 in
set_option maxHeartbeats 1000000 in
theorem al_follows {K : Nat} {g : GS} (h : Rel K g) (s : Int32) (what : Int32) : Ct mX11_follows (rm 10 2 12) [.ref 0, .int s, .int what] (Wd g) (PLi [x_iob, x_nse] (fun kk vv gg => ∀ w, Ct mX12_follows (rm 2 0 0) [.ref 63, .int s, .int what] (Wd (sB gg 82 w)) (RXi (AlI K kk vv w)))) := by
  obtain ⟨gl, rl, q, hw, hb, hC, hQ⟩ := h.cq
  have hq : BkQ g (gA g 64) := hb.1
  have e12 : gF g 20 12 = gA g 64 4 := hq.2.2.2.2.2.2.2.1
  have e11 : gF g 20 11 = nI (mN (gA g 64)) := hq.2.2.2.2.2.2.1.trans hw.1.2.2.2.2.2.1.2
  have hm : ∀ g', gA g' 64 = gA g 64 → Ct mX12_follows (rm 2 0 0) [.ref 63, .int s, .int what] (Wd g') (PQi g' [(fIn s 0 31, 1), (fIn what 0 34, 2)] (fun x g2 => x = (if nN what < 34 then gA g 64 (18 + 34 * nN s + nN what) else wSt (gA g 64) (nN s)) ∧ QF g' g2)) := fun g' e => by
    have t := ct_m_follows g' gl rl (by rw [e]; exact hw.2.2.1) s what
    rw [e] at t
    exact t.imp (fun r es hr => by
      obtain ⟨x, g2, y1, y2, y3⟩ := hr
      refine ⟨x, g2, y1, y2, ?_⟩
      rcases y3 with y4 | ⟨y5, y6, y7⟩
      · exact Or.inl y4
      · exact Or.inr ⟨y5, y6, by rw [y7]; exact QF.z⟩)
  refine al_i (E := [x_iob, x_nse]) (l := [(fSt s, 0), (fWi what 34, 1)]) h (ct_follows g s what) (ll rfl) (by decide) hm ?_ (fun hn => ?_) (Fr.rf)
  · simp only [sx_c, c_ju hq hw, c_fo hq hw, c_so hq hw, c_st, c_zo, c_ba, c_wi, e12]
    generalize fIn s 0 31 = b0
    generalize fIn what 0 34 = b1
    cases b0 <;> cases b1 <;> rfl
  · have n6 := hw.n6
    have g10 := hw.1.G
    obtain ⟨h1, hn1⟩ := gn hn
    obtain ⟨s1, sl1, rfl⟩ := fSt_nI h1
    obtain ⟨h2, hn2⟩ := gn hn1
    obtain ⟨w1, wl1, rfl⟩ := fWi_nI (m := 34) (by omega) h2
    have u0 := nN_nI (n := s1) (by omega)
    have u1 := nN_nI (n := w1) (by omega)
    simp only [u0, u1]
    exact ⟨v_follows hq sl1 wl1, h.2.1⟩
set_option maxRecDepth 100000 in
set_option maxHeartbeats 1000000 in
theorem al_kick {K : Nat} {g : GS} (h : Rel K g) (z : Int32) : Ct mX11_kick (rm 10 1 6) [.ref 0, .int z] (Wd g) (PLi [x_iob] (fun kk vv gg => ∀ w, Ct mX12_kick (rm 2 0 0) [.ref 63, .int z] (Wd (sB gg 82 w)) (RXi (AlI K kk vv w)))) := by
  obtain ⟨gl, rl, q, hw, hb, hC, hQ⟩ := h.cq
  have hq : BkQ g (gA g 64) := hb.1
  have e12 : gF g 20 12 = gA g 64 4 := hq.2.2.2.2.2.2.2.1
  have e11 : gF g 20 11 = nI (mN (gA g 64)) := hq.2.2.2.2.2.2.1.trans hw.1.2.2.2.2.2.1.2
  have hm : ∀ g', gA g' 64 = gA g 64 → Ct mX12_kick (rm 2 0 0) [.ref 63, .int z] (Wd g') (PQi g' [(fIn z 0 7, 1)] (fun x g2 => x = gA g 64 (10 + nN z) ∧ QF g' g2)) := fun g' e => by
    have t := ct_m_kick g' z
    rw [e] at t
    exact t.imp (fun r es hr => by
      obtain ⟨x, g2, y1, y2, y3⟩ := hr
      refine ⟨x, g2, y1, y2, ?_⟩
      rcases y3 with y4 | ⟨y5, y6, y7⟩
      · exact Or.inl y4
      · exact Or.inr ⟨y5, y6, by rw [y7]; exact QF.z⟩)
  refine al_i (E := [x_iob]) (l := [(fZo z, 0)]) h (ct_kick g z) (ll rfl) (by decide) hm ?_ (fun hn => ?_) (Fr.rf)
  · simp only [sx_c, c_ju hq hw, c_fo hq hw, c_so hq hw, c_st, c_zo, c_ba, c_wi, e12]
    generalize fIn z 0 7 = b0
    cases b0 <;> rfl
  · obtain ⟨h1, -⟩ := gn hn
    obtain ⟨z1, zl1, rfl⟩ := fZo_nI h1
    have u0 := nN_nI (n := z1) (by omega)
    simp only [u0]
    exact ⟨(rAt_in zl1 (by omega)).trans (hq.2.1 z1 zl1), h.2.1⟩
set_option maxRecDepth 100000 in
set_option maxHeartbeats 1000000 in
theorem al_often {K : Nat} {g : GS} (h : Rel K g) (k : Int32) (s : Int32) : Ct mX11_often (rm 10 1 6) [.ref 0, .int k, .int s] (Wd g) (PLi [x_iob] (fun kk vv gg => ∀ w, Ct mX12_often (rm 2 0 0) [.ref 63, .int k, .int s] (Wd (sB gg 82 w)) (RXi (AlI K kk vv w)))) := by
  obtain ⟨gl, rl, q, hw, hb, hC, hQ⟩ := h.cq
  have hq : BkQ g (gA g 64) := hb.1
  have e12 : gF g 20 12 = gA g 64 4 := hq.2.2.2.2.2.2.2.1
  have e11 : gF g 20 11 = nI (mN (gA g 64)) := hq.2.2.2.2.2.2.1.trans hw.1.2.2.2.2.2.1.2
  have hm : ∀ g', gA g' 64 = gA g 64 → Ct mX12_often (rm 2 0 0) [.ref 63, .int k, .int s] (Wd g') (PQi g' [(wMs (gA g 64) k && fIn s 0 31, 1)] (fun x g2 => x = gA g 64 (1106 + 34 * nN k + (2 + nN s)) ∧ QF g' g2)) := fun g' e => by
    have t := ct_m_often g' gl rl (by rw [e]; exact hw.2.2.1) k s
    rw [e] at t
    exact t.imp (fun r es hr => by
      obtain ⟨x, g2, y1, y2, y3⟩ := hr
      refine ⟨x, g2, y1, y2, ?_⟩
      rcases y3 with y4 | ⟨y5, y6, y7⟩
      · exact Or.inl y4
      · exact Or.inr ⟨y5, y6, by rw [y7]; exact QF.z⟩)
  refine al_i (E := [x_iob]) (l := [(fSo g k && fSt s, 0)]) h (ct_often g k s) (ll rfl) (by decide) hm ?_ (fun hn => ?_) (Fr.rf)
  · simp only [sx_c, c_ju hq hw, c_fo hq hw, c_so hq hw, c_st, c_zo, c_ba, c_wi, e12]
    generalize wMs (gA g 64) k = b0
    generalize fIn s 0 31 = b1
    cases b0 <;> cases b1 <;> rfl
  · have n6 := hw.n6
    obtain ⟨h1, -⟩ := gn hn
    rw [Bool.and_eq_true] at h1
    obtain ⟨k1, kl1, rfl⟩ := so_nI hq hw h1.1
    obtain ⟨s1, sl1, rfl⟩ := fSt_nI h1.2
    have u0 := nN_nI (n := k1) (by omega)
    have u1 := nN_nI (n := s1) (by omega)
    simp only [u0, u1]
    exact ⟨bk_rt_z hq hw.1 kl1 sl1, h.2.1⟩
set_option maxRecDepth 100000 in
set_option maxHeartbeats 1000000 in
theorem al_leans {K : Nat} {g : GS} (h : Rel K g) (a : Int32) (i : Int32) (c : Int32) (j : Int32) (al : Bool) : Ct mX11_leans (rm 2 2 12) [.ref 0, .int a, .int i, .int c, .int j, .int (bI al)] (Wd g) (PLl [x_iae] (fun kk vv gg => ∀ w, Ct mX12_leans (rm 2 0 0) [.ref 63, .int a, .int i, .int c, .int j, .int (bI al)] (Wd (sB gg 82 w)) (RXl (AlL K kk vv w)))) := by
  obtain ⟨gl, rl, q, hw, hb, hC, hQ⟩ := h.cq
  have hq : BkQ g (gA g 64) := hb.1
  have e12 : gF g 20 12 = gA g 64 4 := hq.2.2.2.2.2.2.2.1
  have e11 : gF g 20 11 = nI (mN (gA g 64)) := hq.2.2.2.2.2.2.1.trans hw.1.2.2.2.2.2.1.2
  have hm : ∀ g', gA g' 64 = gA g 64 → Ct mX12_leans (rm 2 0 0) [.ref 63, .int a, .int i, .int c, .int j, .int (bI al)] (Wd g') (PQl g' [(fIn a 0 30 && fIn c 0 30 && fIn i 0 a && fIn j 0 c, 1)] (fun x g2 => x = acL 0 (fun n => mlnV (nN a) (nN c) (nN i + nN j) ((bif al then 0 else nN i) + n)) (nN a + 1 - (bif al then 0 else nN i)) ∧ QF g' g2)) := fun g' e => by
    have t := ct_m_leans g' a i c j al
    exact t.imp (fun r es hr => by
      obtain ⟨x, g2, y1, y2, y3⟩ := hr
      refine ⟨x, g2, y1, y2, ?_⟩
      rcases y3 with y4 | ⟨y5, y6, y7⟩
      · exact Or.inl y4
      · exact Or.inr ⟨y5, y6, by rw [y7]; exact QF.z⟩)
  refine al_l (E := [x_iae]) (l := [(fWi a 30 && fWi i a, 0), (fWi c 30 && fWi j c, 0)]) h (ct_leans g a i c j al) (ll rfl) (by decide) hm ?_ (fun hn => ?_) (Fr.rf)
  · simp only [sx_c, c_ju hq hw, c_fo hq hw, c_so hq hw, c_st, c_zo, c_ba, c_wi, e12]
    generalize fIn a 0 30 = b0
    generalize fIn c 0 30 = b1
    generalize fIn i 0 a = b2
    generalize fIn j 0 c = b3
    cases b0 <;> cases b1 <;> cases b2 <;> cases b3 <;> rfl
  · obtain ⟨h1, hn1⟩ := gn hn
    obtain ⟨h2, -⟩ := gn hn1
    rw [Bool.and_eq_true] at h1 h2
    obtain ⟨a1, al1, rfl⟩ := fWi_nI (m := 30) (by omega) h1.1
    obtain ⟨c1, cl1, rfl⟩ := fWi_nI (m := 30) (by omega) h2.1
    obtain ⟨i1, il1, rfl⟩ := fWi_nI (m := a1) (by omega) h1.2
    obtain ⟨j1, jl1, rfl⟩ := fWi_nI (m := c1) (by omega) h2.2
    have u0 := nN_nI (n := a1) (by omega)
    have u1 := nN_nI (n := c1) (by omega)
    have u2 := nN_nI (n := i1) (by omega)
    have u3 := nN_nI (n := j1) (by omega)
    simp only [u0, u1, u2, u3]
    exact ⟨v_leans al1 cl1 il1 jl1 al, h.2.1⟩
set_option maxRecDepth 100000 in
set_option maxHeartbeats 1000000 in
theorem al_rest {K : Nat} {g : GS} (h : Rel K g) (b : Int32) (k : Int32) (what : Int32) : Ct mX11_rest (rm 10 3 18) [.ref 0, .int b, .int k, .int what] (Wd g) (PLl [x_iob, x_iae, x_nse] (fun kk vv gg => ∀ w, Ct mX12_rest (rm 6 0 0) [.ref 63, .int b, .int k, .int what] (Wd (sB gg 82 w)) (RXl (AlL K kk vv w)))) := by
  obtain ⟨gl, rl, q, hw, hb, hC, hQ⟩ := h.cq
  have hq : BkQ g (gA g 64) := hb.1
  have e12 : gF g 20 12 = gA g 64 4 := hq.2.2.2.2.2.2.2.1
  have e11 : gF g 20 11 = nI (mN (gA g 64)) := hq.2.2.2.2.2.2.1.trans hw.1.2.2.2.2.2.1.2
  obtain ⟨cds, hcd⟩ := cds_of hb
  have e10 : gF g 20 10 = nI (mR (gA g 64)) := hq.2.2.2.2.2.1.trans hw.1.2.2.2.2.2.2.2.2.2.2.2.1.2
  have hm : ∀ g', gA g' 64 = gA g 64 → Ct mX12_rest (rm 6 0 0) [.ref 63, .int b, .int k, .int what] (Wd g') (PQl g' [(wMs (gA g 64) k, 1), (fIn b 0 31, 2), (fIn what 0 4, 3)] (fun x g2 => x = rsV what (rsS (fun q => rsW ((rsG (gA g 64) gl rl (gA g 64 6) (nN k) (wTo (gA g 64) (nN k)) b) q) 32) (5 + mR (gA g 64))) (rsH (rsN (rsG (gA g 64) gl rl (gA g 64 6) (nN k) (wTo (gA g 64) (nN k)) b) (4 + mR (gA g 64))) 31) (rsN (rsG (gA g 64) gl rl (gA g 64 6) (nN k) (wTo (gA g 64) (nN k)) b) (4 + mR (gA g 64)) (rsH (rsN (rsG (gA g 64) gl rl (gA g 64 6) (nN k) (wTo (gA g 64) (nN k)) b) (4 + mR (gA g 64))) 31)) ∧ QF g' g2)) := fun g' e => by
    have t := ct_m_rest g' gl rl (by rw [e]; exact hw.2.2.1) b k what
    rw [e] at t
    exact t
  refine al_l (E := [x_iob, x_iae, x_nse]) (l := [(fSo g k, 0), (fSt b, 1), (fWi what 4, 2)]) h (ct_rest g b k what q _ _ _ cds hC ⟨hw.r4, fun r hr => (hcd r hr).1⟩ e10 hw.r4) (ll rfl) (by decide) hm ?_ (fun hn => ?_) (kf_re Fr.rf _ _ _ _ _ _ _)
  · simp only [sx_c, c_ju hq hw, c_fo hq hw, c_so hq hw, c_st, c_zo, c_ba, c_wi, e12]
    generalize wMs (gA g 64) k = b0
    generalize fIn b 0 31 = b1
    generalize fIn what 0 4 = b2
    cases b0 <;> cases b1 <;> cases b2 <;> rfl
  · have n6 := hw.n6
    have g10 := hw.1.G
    obtain ⟨h1, hn1⟩ := gn hn
    obtain ⟨k1, kl1, rfl⟩ := so_nI hq hw h1
    obtain ⟨h2, hn2⟩ := gn hn1
    obtain ⟨h3, hn3⟩ := gn hn2
    have u0 := nN_nI (n := k1) (by omega)
    simp only [u0]
    exact v_rest hQ (fun r hr => (hcd r hr).2) kl1 b what
set_option maxRecDepth 100000 in
set_option maxHeartbeats 1000000 in
theorem al_season {K : Nat} {g : GS} (h : Rel K g) (jd : Int32) (b : Int32) (many : Int32) (seed : Int32) (what : Int32) : Ct mX11_season (rm 10 3 18) [.ref 0, .int jd, .int b, .int many, .int seed, .int what] (Wd g) (PLi [x_iob, x_iae, x_nse] (fun kk vv gg => ∀ w, Ct mX12_season (rm 6 0 0) [.ref 63, .int jd, .int b, .int many, .int seed, .int what] (Wd (sB gg 82 w)) (RXi (AlI K kk vv w)))) := by
  obtain ⟨gl, rl, q, hw, hb, hC, hQ⟩ := h.cq
  have hq : BkQ g (gA g 64) := hb.1
  have e12 : gF g 20 12 = gA g 64 4 := hq.2.2.2.2.2.2.2.1
  have e11 : gF g 20 11 = nI (mN (gA g 64)) := hq.2.2.2.2.2.2.1.trans hw.1.2.2.2.2.2.1.2
  obtain ⟨q2, hj2⟩ := Rel.jd hw hb jd
  have hm : ∀ g', gA g' 64 = gA g 64 → Ct mX12_season (rm 6 0 0) [.ref 63, .int jd, .int b, .int many, .int seed, .int what] (Wd g') (PQi g' [(wMj (gA g 64) jd, 1), (fMb jd b && fIn many 1 200 && (!(decide (sI (wRs (gA g 64)) (mN (gA g 64)) = 0))), 2), (fIn what 0 4, 3)] (fun x g2 => x = (msnN (gA g 64) gl rl jd b seed (nN many)).1 (nN what) ∧ QF g' g2)) := fun g' e => by
    have t := ct_m_season g' gl rl (by rw [e]; exact hw.2.2.1) (by rw [e]; exact hw.2.2.2) (by rw [e]; exact hw.1.rtk) jd b many seed what
    rw [e] at t
    exact t
  refine al_i (E := [x_iob, x_iae, x_nse]) (l := [(fJu g jd, 0), (fSe jd b many (bk_rr g 20 (mN (gA g 64))), 1), (fWi what 4, 2)]) h (ct_season g jd b many seed what q q2 _ _ _ hC hw.n6 e11 (fun x => (hj2 x).1)) (ll rfl) (by decide) hm ?_ (fun hn => ?_) (kf_snA Fr.rf _ _ _ _ _ _ _ _ _ _)
  · simp only [se_c hw.1 hq, sx_c, c_ju hq hw, c_fo hq hw, c_so hq hw, c_st, c_zo, c_ba, c_wi, e12]
    generalize wMj (gA g 64) jd = b0
    generalize fMb jd b = b1
    generalize fIn many 1 200 = b2
    generalize decide (sI (wRs (gA g 64)) (mN (gA g 64)) = 0) = b3
    generalize fIn what 0 4 = b4
    cases b0 <;> cases b1 <;> cases b2 <;> cases b3 <;> cases b4 <;> rfl
  · have n6 := hw.n6
    have g10 := hw.1.G
    obtain ⟨h1, hn1⟩ := gn hn
    obtain ⟨ja2, jb2, jc2⟩ := hj2 h1
    obtain ⟨h2, hn2⟩ := gn hn1
    rw [se_c hw.1 hq] at h2
    rw [Bool.and_eq_true, Bool.and_eq_true] at h2
    obtain ⟨m1, ml1, rfl⟩ := fIn_1 h2.1.2
    have hpos : ¬ sI (wRs (gA g 64)) (mN (gA g 64)) = 0 := fun z => by rw [decide_eq_true z] at h2; cases h2.2
    obtain ⟨h3, hn3⟩ := gn hn2
    obtain ⟨w1, wl1, rfl⟩ := fWi_nI (m := 4) (by omega) h3
    have u0 := nN_nI (n := m1) (by omega)
    have u1 := nN_nI (n := w1) (by omega)
    simp only [u0, u1]
    exact v_season hQ jb2 jc2 hw.2.2.2 b seed hpos ml1 wl1
