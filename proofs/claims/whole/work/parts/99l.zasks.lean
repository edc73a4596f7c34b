/-! what is asked, one call beside the other -/
theorem gn {b : Bool} {i : Nat} {t : List (Bool × Nat)} (h : fxN ((b, i) :: t) = none) : b = true ∧ fxN t = none := by
  cases b with
  | true => exact ⟨rfl, h⟩
  | false => cases h
theorem ll {E : List String} {l : List (Bool × Nat)} (h : l.all (fun p => Nat.blt p.2 E.length) = true) : ∀ p, p ∈ l → p.2 < E.length := fun p hp => by
  have := List.all_eq_true.mp h p hp
  exact Nat.le_of_ble_eq_true this
theorem so_nI {g : GS} {W : Nat → Int32} {gl : List TxL} {rl : Nat → List TxL} (hb : BkQ g W) (h : WR W gl rl) {s : Int32} (hs : fSo g s = true) : ∃ k, k < mN W ∧ s = nI k := by
  rw [c_so hb h] at hs
  exact wMs_nat h.2.2.1 hs
theorem fo_nI {g : GS} {W : Nat → Int32} {gl : List TxL} {rl : Nat → List TxL} (hb : BkQ g W) (h : WR W gl rl) {s z : Int32} (hs : fFo g s z = true) : ∃ k y, k < mN W ∧ y < 8 ∧ s = nI k ∧ z = nI y := by
  unfold fFo at hs
  rw [Bool.and_eq_true] at hs
  obtain ⟨k, k1, k2⟩ := so_nI hb h hs.1
  obtain ⟨y, y1, y2⟩ := fZo_nI hs.2
  exact ⟨k, y, k1, y1, k2, y2⟩
theorem sx_c (s : Int32) : fSx s = (decide (s = -1) || fIn s 0 31) := by
  unfold fSx
  by_cases c : s = -1
  · rw [if_pos c, decide_eq_true c]; rfl
  · rw [if_neg c, decide_eq_false c, c_st]; rfl
theorem fIn_1 {x : Int32} (h : fIn x 1 200 = true) : ∃ q, q ≤ 200 ∧ x = nI q := by
  unfold fIn at h
  by_cases c1 : x < 1
  · rw [if_pos c1] at h; cases h
  · rw [if_neg c1] at h
    by_cases c2 : (200 : Int32) < x
    · rw [if_pos c2] at h; cases h
    · have h1 := Int32.le_iff_toInt_le.mp (nlt_le c1)
      have h2 := Int32.le_iff_toInt_le.mp (nlt_le c2)
      rw [show (1 : Int32).toInt = 1 from rfl] at h1
      rw [show (200 : Int32).toInt = 200 from rfl] at h2
      exact ⟨x.toInt.toNat, by omega, Int32.toInt_inj.mp (by rw [nI_toInt (by omega)]; omega)⟩
theorem sx_nI {s : Int32} (h : fSx s = true) : s = -1 ∨ ∃ t, t < 32 ∧ s = nI t := by
  unfold fSx at h
  by_cases c : s = -1
  · exact Or.inl c
  · rw [if_neg c] at h; exact Or.inr (fSt_nI h)
theorem rtS_b {W : Nat → Int32} (hW : WB W) : rtS W (32 * mN W) < 1000000 := by
  have := rtS_le hW.rtk (32 * mN W) (Nat.le_refl _)
  have := hW.2.2.2.2.2.1.1
  omega
theorem se_c {g : GS} {W : Nat → Int32} (hW : WB W) (hq : BkQ g W) (j b m : Int32) : fSe j b m (bk_rr g 20 (mN W)) = (fMb j b && fIn m 1 200 && (!(decide (sI (wRs W) (mN W) = 0)))) := by
  obtain ⟨r1, r2⟩ := rr_z hq hW
  have hb := rtS_b hW
  unfold fSe fIn
  rw [c_ba, ← r2, r1]
  have e : (nI (rtS W (32 * mN W)) ≤ 0) ↔ (nI (rtS W (32 * mN W)) = 0) := by
    rw [Int32.le_iff_toInt_le, nI_toInt (by omega), Int32.toInt_zero]
    refine ⟨fun z => by rw [show rtS W (32 * mN W) = 0 by omega]; rfl, fun z => ?_⟩
    have := congrArg Int32.toInt z
    rw [nI_toInt (by omega), Int32.toInt_zero] at this; omega
  cases fMb j b
  · rfl
  · by_cases c1 : m < 1
    · rw [if_pos c1, if_pos c1]; rfl
    · rw [if_neg c1, if_neg c1]
      by_cases c2 : 200 < m
      · rw [if_pos c2, if_pos c2]; rfl
      · rw [if_neg c2, if_neg c2]
        by_cases c3 : nI (rtS W (32 * mN W)) = 0
        · rw [if_pos (e.mpr c3), decide_eq_true c3]; rfl
        · rw [if_neg (fun z => c3 (e.mp z)), decide_eq_false c3]; rfl
set_option maxRecDepth 100000 in
set_option maxHeartbeats 1000000 in
theorem al_worth {K : Nat} {g : GS} (h : Rel K g) (s : Int32) (t : Int32) : Ct mX11_worth (rm 10 2 12) [.ref 0, .int s, .int t] (Wd g) (PLl [x_iob, x_iae] (fun kk vv gg => ∀ w, Ct mX12_worth (rm 5 0 0) [.ref 63, .int s, .int t] (Wd (sB gg 82 w)) (RXl (AlL K kk vv w)))) := by
  obtain ⟨gl, rl, q, hw, hb, hC, hQ⟩ := h.cq
  have hq : BkQ g (gA g 64) := hb.1
  have e12 : gF g 20 12 = gA g 64 4 := hq.2.2.2.2.2.2.2.1
  have e11 : gF g 20 11 = nI (mN (gA g 64)) := hq.2.2.2.2.2.2.1.trans hw.1.2.2.2.2.2.1.2
  have hm : ∀ g', gA g' 64 = gA g 64 → Ct mX12_worth (rm 5 0 0) [.ref 63, .int s, .int t] (Wd g') (PQl g' [(fIn s 0 31, 1), (fIn t 0 60, 2)] (fun x g2 => x = mLT (gA g 64) (mGc (gA g 64) (gA g 64 6) gl) (nN t) (nN s) ∧ QF g' g2)) := fun g' e => by
    have t := ct_m_worth g' gl rl (by rw [e]; exact hw.2.2.1) s t
    rw [e] at t
    exact t
  refine al_l (E := [x_iob, x_iae]) (l := [(fSt s, 0), (fWi t 60, 1)]) h (ct_worth g s t q _ _ hC) (ll rfl) (by decide) hm ?_ (fun hn => ?_) (kf_open Fr.rf _ _ _)
  · simp only [sx_c, c_ju hq hw, c_fo hq hw, c_so hq hw, c_st, c_zo, c_ba, c_wi, e12]
    generalize fIn s 0 31 = b0
    generalize fIn t 0 60 = b1
    cases b0 <;> cases b1 <;> rfl
  · have n6 := hw.n6
    have g10 := hw.1.G
    obtain ⟨h1, hn1⟩ := gn hn
    obtain ⟨s1, sl1, rfl⟩ := fSt_nI h1
    obtain ⟨h2, hn2⟩ := gn hn1
    obtain ⟨w1, wl1, rfl⟩ := fWi_nI (m := 60) (by omega) h2
    have u0 := nN_nI (n := s1) (by omega)
    have u1 := nN_nI (n := w1) (by omega)
    simp only [u0, u1]
    exact ⟨v_worth hQ wl1 sl1, z_worth hQ wl1⟩
set_option maxRecDepth 100000 in
set_option maxHeartbeats 1000000 in
theorem al_stop {K : Nat} {g : GS} (h : Rel K g) (k : Int32) (z : Int32) (after : Bool) : Ct mX11_stop (rm 10 1 6) [.ref 0, .int k, .int z, .int (bI after)] (Wd g) (PLi [x_iob] (fun kk vv gg => ∀ w, Ct mX12_stop (rm 4 0 0) [.ref 63, .int k, .int z, .int (bI after)] (Wd (sB gg 82 w)) (RXi (AlI K kk vv w)))) := by
  obtain ⟨gl, rl, q, hw, hb, hC, hQ⟩ := h.cq
  have hq : BkQ g (gA g 64) := hb.1
  have e12 : gF g 20 12 = gA g 64 4 := hq.2.2.2.2.2.2.2.1
  have e11 : gF g 20 11 = nI (mN (gA g 64)) := hq.2.2.2.2.2.2.1.trans hw.1.2.2.2.2.2.1.2
  have hm : ∀ g', gA g' 64 = gA g 64 → Ct mX12_stop (rm 4 0 0) [.ref 63, .int k, .int z, .int (bI after)] (Wd g') (PQi g' [(wMs (gA g 64) k && fIn z 0 7, 1)] (fun x g2 => x = (bif after then wAf (gA g 64) (nN k) (wTo (gA g 64) (nN k)) else wSw (gA g 64) (nN k) (nN z) (wTo (gA g 64) (nN k))) ∧ QF g' g2)) := fun g' e => by
    have t := ct_m_stop g' gl rl (by rw [e]; exact hw.2.2.1) k z after
    rw [e] at t
    exact t
  refine al_i (E := [x_iob]) (l := [(fFo g k z, 0)]) h (ct_stop g k z after) (ll rfl) (by decide) hm ?_ (fun hn => ?_) (Fr.rf)
  · simp only [sx_c, c_ju hq hw, c_fo hq hw, c_so hq hw, c_st, c_zo, c_ba, c_wi, e12]
    generalize wMs (gA g 64) k = b0
    generalize fIn z 0 7 = b1
    cases b0 <;> cases b1 <;> rfl
  · have n6 := hw.n6
    have g10 := hw.1.G
    obtain ⟨h1, hn1⟩ := gn hn
    obtain ⟨k1, z1, kl1, zl1, rfl, rfl⟩ := fo_nI hq hw h1
    have u0 := nN_nI (n := k1) (by omega)
    have u1 := nN_nI (n := z1) (by omega)
    simp only [u0, u1]
    exact ⟨v_stop hQ kl1 zl1 after, h.2.1⟩
set_option maxRecDepth 100000 in
set_option maxHeartbeats 1000000 in
theorem al_judge {K : Nat} {g : GS} (h : Rel K g) (jd : Int32) (b : Int32) (k : Int32) (z : Int32) (s : Int32) (j : Int32) : Ct mX11_judge (rm 10 4 24) [.ref 0, .int jd, .int b, .int k, .int z, .int s, .int j] (Wd g) (PLl [x_iob, x_iae] (fun kk vv gg => ∀ w, Ct mX12_judge (rm 6 0 0) [.ref 63, .int jd, .int b, .int k, .int z, .int s, .int j] (Wd (sB gg 82 w)) (RXl (AlL K kk vv w)))) := by
  obtain ⟨gl, rl, q, hw, hb, hC, hQ⟩ := h.cq
  have hq : BkQ g (gA g 64) := hb.1
  have e12 : gF g 20 12 = gA g 64 4 := hq.2.2.2.2.2.2.2.1
  have e11 : gF g 20 11 = nI (mN (gA g 64)) := hq.2.2.2.2.2.2.1.trans hw.1.2.2.2.2.2.1.2
  obtain ⟨q2, hj2⟩ := Rel.jd hw hb jd
  have hm : ∀ g', gA g' 64 = gA g 64 → Ct mX12_judge (rm 6 0 0) [.ref 63, .int jd, .int b, .int k, .int z, .int s, .int j] (Wd g') (PQl g' [(wMj (gA g 64) jd && wMs (gA g 64) k && fIn z 0 7 && fIn s 0 31, 1), (fIn j 0 (gA g 64 4) && fMb jd b, 2)] (fun x g2 => x = jw (mJP (gA g 64) gl rl (gA g 64 6) (nN k) (nN z) (wTo (gA g 64) (nN k)) jd b (mG (gA g 64))) (nN j) (nN s) ∧ QF g' g2)) := fun g' e => by
    have t := ct_m_judge g' gl rl (by rw [e]; exact hw.2.2.1) jd b k z s j
    rw [e] at t
    exact t
  refine al_l (E := [x_iob, x_iae]) (l := [(fJu g jd, 0), (fFo g k z, 0), (fSt s, 0), (fWi j (gF g 20 12) && fBa jd b, 1)]) h (ct_judge g jd b k z s j q q2 _ _ hC (fun x => (hj2 x).1)) (ll rfl) (by decide) hm ?_ (fun hn => ?_) (kf_st Fr.rf _ _ _ _ _ _ _ _)
  · simp only [sx_c, c_ju hq hw, c_fo hq hw, c_so hq hw, c_st, c_zo, c_ba, c_wi, e12]
    generalize wMj (gA g 64) jd = b0
    generalize wMs (gA g 64) k = b1
    generalize fIn z 0 7 = b2
    generalize fIn s 0 31 = b3
    generalize fIn j 0 (gA g 64 4) = b4
    generalize fMb jd b = b5
    cases b0 <;> cases b1 <;> cases b2 <;> cases b3 <;> cases b4 <;> cases b5 <;> rfl
  · have n6 := hw.n6
    have g10 := hw.1.G
    obtain ⟨h1, hn1⟩ := gn hn
    obtain ⟨ja2, jb2, jc2⟩ := hj2 h1
    obtain ⟨h2, hn2⟩ := gn hn1
    obtain ⟨k1, z1, kl1, zl1, rfl, rfl⟩ := fo_nI hq hw h2
    obtain ⟨h3, hn3⟩ := gn hn2
    obtain ⟨s1, sl1, rfl⟩ := fSt_nI h3
    obtain ⟨h4, hn4⟩ := gn hn3
    rw [Bool.and_eq_true, e12, hw.1.2.2.2.2.2.2.2.2.2.1.2] at h4
    obtain ⟨j1, jl1, rfl⟩ := fWi_nI (by omega) h4.1
    have u0 := nN_nI (n := k1) (by omega)
    have u1 := nN_nI (n := z1) (by omega)
    have u2 := nN_nI (n := s1) (by omega)
    have u3 := nN_nI (n := j1) (by omega)
    simp only [u0, u1, u2, u3]
    exact ⟨(v_judge hQ jb2 b kl1 zl1 jl1 sl1).1, z_st hQ jb2 b kl1 zl1⟩
set_option maxRecDepth 100000 in
set_option maxHeartbeats 1000000 in
theorem al_does {K : Nat} {g : GS} (h : Rel K g) (jd : Int32) (b : Int32) (k : Int32) (z : Int32) (s : Int32) (j : Int32) : Ct mX11_does (rm 10 4 24) [.ref 0, .int jd, .int b, .int k, .int z, .int s, .int j] (Wd g) (PLi [x_iob, x_iae] (fun kk vv gg => ∀ w, Ct mX12_does (rm 6 0 0) [.ref 63, .int jd, .int b, .int k, .int z, .int s, .int j] (Wd (sB gg 82 w)) (RXi (AlI K kk vv w)))) := by
  obtain ⟨gl, rl, q, hw, hb, hC, hQ⟩ := h.cq
  have hq : BkQ g (gA g 64) := hb.1
  have e12 : gF g 20 12 = gA g 64 4 := hq.2.2.2.2.2.2.2.1
  have e11 : gF g 20 11 = nI (mN (gA g 64)) := hq.2.2.2.2.2.2.1.trans hw.1.2.2.2.2.2.1.2
  obtain ⟨q2, hj2⟩ := Rel.jd hw hb jd
  have hm : ∀ g', gA g' 64 = gA g 64 → Ct mX12_does (rm 6 0 0) [.ref 63, .int jd, .int b, .int k, .int z, .int s, .int j] (Wd g') (PQi g' [(wMj (gA g 64) jd && wMs (gA g 64) k && fIn z 0 7 && fIn s 0 31, 1), (fIn j 0 (gA g 64 4) && fMb jd b, 2)] (fun x g2 => x = ja (mJP (gA g 64) gl rl (gA g 64 6) (nN k) (nN z) (wTo (gA g 64) (nN k)) jd b (mG (gA g 64))) (nN j) (nN s) ∧ QF g' g2)) := fun g' e => by
    have t := ct_m_does g' gl rl (by rw [e]; exact hw.2.2.1) jd b k z s j
    rw [e] at t
    exact t
  refine al_i (E := [x_iob, x_iae]) (l := [(fJu g jd, 0), (fFo g k z, 0), (fSt s, 0), (fWi j (gF g 20 12) && fBa jd b, 1)]) h (ct_does g jd b k z s j q q2 _ _ hC (fun x => (hj2 x).1)) (ll rfl) (by decide) hm ?_ (fun hn => ?_) (kf_st Fr.rf _ _ _ _ _ _ _ _)
  · simp only [sx_c, c_ju hq hw, c_fo hq hw, c_so hq hw, c_st, c_zo, c_ba, c_wi, e12]
    generalize wMj (gA g 64) jd = b0
    generalize wMs (gA g 64) k = b1
    generalize fIn z 0 7 = b2
    generalize fIn s 0 31 = b3
    generalize fIn j 0 (gA g 64 4) = b4
    generalize fMb jd b = b5
    cases b0 <;> cases b1 <;> cases b2 <;> cases b3 <;> cases b4 <;> cases b5 <;> rfl
  · have n6 := hw.n6
    have g10 := hw.1.G
    obtain ⟨h1, hn1⟩ := gn hn
    obtain ⟨ja2, jb2, jc2⟩ := hj2 h1
    obtain ⟨h2, hn2⟩ := gn hn1
    obtain ⟨k1, z1, kl1, zl1, rfl, rfl⟩ := fo_nI hq hw h2
    obtain ⟨h3, hn3⟩ := gn hn2
    obtain ⟨s1, sl1, rfl⟩ := fSt_nI h3
    obtain ⟨h4, hn4⟩ := gn hn3
    rw [Bool.and_eq_true, e12, hw.1.2.2.2.2.2.2.2.2.2.1.2] at h4
    obtain ⟨j1, jl1, rfl⟩ := fWi_nI (by omega) h4.1
    have u0 := nN_nI (n := k1) (by omega)
    have u1 := nN_nI (n := z1) (by omega)
    have u2 := nN_nI (n := s1) (by omega)
    have u3 := nN_nI (n := j1) (by omega)
    simp only [u0, u1, u2, u3]
    exact ⟨(v_judge hQ jb2 b kl1 zl1 jl1 sl1).2, z_st hQ jb2 b kl1 zl1⟩
set_option maxRecDepth 100000 in
set_option maxHeartbeats 1000000 in
theorem al_waits {K : Nat} {g : GS} (h : Rel K g) (k : Int32) (z : Int32) (s : Int32) : Ct mX11_waits (rm 10 2 12) [.ref 0, .int k, .int z, .int s] (Wd g) (PLl [x_iob] (fun kk vv gg => ∀ w, Ct mX12_waits (rm 6 0 0) [.ref 63, .int k, .int z, .int s] (Wd (sB gg 82 w)) (RXl (AlL K kk vv w)))) := by
  obtain ⟨gl, rl, q, hw, hb, hC, hQ⟩ := h.cq
  have hq : BkQ g (gA g 64) := hb.1
  have e12 : gF g 20 12 = gA g 64 4 := hq.2.2.2.2.2.2.2.1
  have e11 : gF g 20 11 = nI (mN (gA g 64)) := hq.2.2.2.2.2.2.1.trans hw.1.2.2.2.2.2.1.2
  have hm : ∀ g', gA g' 64 = gA g 64 → Ct mX12_waits (rm 6 0 0) [.ref 63, .int k, .int z, .int s] (Wd g') (PQl g' [(wMs (gA g 64) k && fIn z 0 7 && fIn s 0 31, 1)] (fun x g2 => x = jw (mJP (gA g 64) gl rl (gA g 64 6) (nN k) (nN z) (wTo (gA g 64) (nN k)) 3 0 (mG (gA g 64))) 0 (nN s) - jw (mJP (gA g 64) gl rl (gA g 64 6) (nN k) (nN z) (wTo (gA g 64) (nN k)) 3 0 0) 0 (nN s) ∧ QF g' g2)) := fun g' e => by
    have t := ct_m_waits g' gl rl (by rw [e]; exact hw.2.2.1) k z s
    rw [e] at t
    exact t
  refine al_l (E := [x_iob]) (l := [(fFo g k z, 0), (fSt s, 0)]) h (ct_waits g k z s q _ _ hC) (ll rfl) (by decide) hm ?_ (fun hn => ?_) (bb_kf (bb_kf (kf_wt Fr.rf _ _) _ _ _) _ _ _)
  · simp only [sx_c, c_ju hq hw, c_fo hq hw, c_so hq hw, c_st, c_zo, c_ba, c_wi, e12]
    generalize wMs (gA g 64) k = b0
    generalize fIn z 0 7 = b1
    generalize fIn s 0 31 = b2
    cases b0 <;> cases b1 <;> cases b2 <;> rfl
  · have n6 := hw.n6
    have g10 := hw.1.G
    obtain ⟨h1, hn1⟩ := gn hn
    obtain ⟨k1, z1, kl1, zl1, rfl, rfl⟩ := fo_nI hq hw h1
    obtain ⟨h2, hn2⟩ := gn hn1
    obtain ⟨s1, sl1, rfl⟩ := fSt_nI h2
    have u0 := nN_nI (n := k1) (by omega)
    have u1 := nN_nI (n := z1) (by omega)
    have u2 := nN_nI (n := s1) (by omega)
    simp only [u0, u1, u2]
    exact ⟨v_waits hQ rl kl1 zl1 sl1, z_waits hQ kl1 zl1⟩
set_option maxRecDepth 100000 in
set_option maxHeartbeats 1000000 in
theorem al_enough {K : Nat} {g : GS} (h : Rel K g) (k : Int32) (z : Int32) (s : Int32) : Ct mX11_enough (rm 8 2 12) [.ref 0, .int k, .int z, .int s] (Wd g) (PLi [x_iob] (fun kk vv gg => ∀ w, Ct mX12_enough (rm 6 0 0) [.ref 63, .int k, .int z, .int s] (Wd (sB gg 82 w)) (RXi (AlI K kk vv w)))) := by
  obtain ⟨gl, rl, q, hw, hb, hC, hQ⟩ := h.cq
  have hq : BkQ g (gA g 64) := hb.1
  have e12 : gF g 20 12 = gA g 64 4 := hq.2.2.2.2.2.2.2.1
  have e11 : gF g 20 11 = nI (mN (gA g 64)) := hq.2.2.2.2.2.2.1.trans hw.1.2.2.2.2.2.1.2
  have hm : ∀ g', gA g' 64 = gA g 64 → Ct mX12_enough (rm 6 0 0) [.ref 63, .int k, .int z, .int s] (Wd g') (PQi g' [(wMs (gA g 64) k && fIn z 0 7 && fIn s 0 31, 1)] (fun x g2 => x = nI (enF (fun q => jw (mJP (gA g 64) gl rl (gA g 64 6) (nN k) (nN z) (wTo (gA g 64) (nN k)) 3 0 q) 0 (nN s)) 10 0) ∧ QF g' g2)) := fun g' e => by
    have t := ct_m_enough g' gl rl (by rw [e]; exact hw.2.2.1) k z s
    rw [e] at t
    exact t
  refine al_i (E := [x_iob]) (l := [(fFo g k z, 0), (fSt s, 0)]) h (ct_enough g k z s q _ _ hC) (ll rfl) (by decide) hm ?_ (fun hn => ?_) (kf_enA Fr.rf _ _ _ _ _)
  · simp only [sx_c, c_ju hq hw, c_fo hq hw, c_so hq hw, c_st, c_zo, c_ba, c_wi, e12]
    generalize wMs (gA g 64) k = b0
    generalize fIn z 0 7 = b1
    generalize fIn s 0 31 = b2
    cases b0 <;> cases b1 <;> cases b2 <;> rfl
  · have n6 := hw.n6
    have g10 := hw.1.G
    obtain ⟨h1, hn1⟩ := gn hn
    obtain ⟨k1, z1, kl1, zl1, rfl, rfl⟩ := fo_nI hq hw h1
    obtain ⟨h2, hn2⟩ := gn hn1
    obtain ⟨s1, sl1, rfl⟩ := fSt_nI h2
    have u0 := nN_nI (n := k1) (by omega)
    have u1 := nN_nI (n := z1) (by omega)
    have u2 := nN_nI (n := s1) (by omega)
    simp only [u0, u1, u2]
    exact ⟨v_enough hQ rl kl1 zl1 sl1, z_enough hQ kl1 zl1 _⟩
set_option maxRecDepth 100000 in
set_option maxHeartbeats 1000000 in
theorem al_loses {K : Nat} {g : GS} (h : Rel K g) (jd : Int32) (b : Int32) (k : Int32) (z : Int32) (st : Int32) : Ct mX11_loses (rm 10 4 24) [.ref 0, .int jd, .int b, .int k, .int z, .int st] (Wd g) (PLl [x_iob, x_iae] (fun kk vv gg => ∀ w, Ct mX12_loses (rm 6 0 0) [.ref 63, .int jd, .int b, .int k, .int z, .int st] (Wd (sB gg 82 w)) (RXl (AlL K kk vv w)))) := by
  obtain ⟨gl, rl, q, hw, hb, hC, hQ⟩ := h.cq
  have hq : BkQ g (gA g 64) := hb.1
  have e12 : gF g 20 12 = gA g 64 4 := hq.2.2.2.2.2.2.2.1
  have e11 : gF g 20 11 = nI (mN (gA g 64)) := hq.2.2.2.2.2.2.1.trans hw.1.2.2.2.2.2.1.2
  obtain ⟨q2, hj2⟩ := Rel.jd hw hb jd
  have hm : ∀ g', gA g' 64 = gA g 64 → Ct mX12_loses (rm 6 0 0) [.ref 63, .int jd, .int b, .int k, .int z, .int st] (Wd g') (PQl g' [(wMj (gA g 64) jd && wMs (gA g 64) k && fIn z 0 7 && (decide (st = -1) || fIn st 0 31), 1), (fMb jd b, 2)] (fun x g2 => x = wLs (mJP (gA g 64) gl rl (gA g 64 6) (nN k) (nN z) (wTo (gA g 64) (nN k)) 3 0 (mG (gA g 64))) (mJP (gA g 64) gl rl (gA g 64 6) (nN k) (nN z) (wTo (gA g 64) (nN k)) jd b (mG (gA g 64))) st ∧ QF g' g2)) := fun g' e => by
    have t := ct_m_loses g' gl rl (by rw [e]; exact hw.2.2.1) jd b k z st
    rw [e] at t
    exact t
  refine al_l (E := [x_iob, x_iae]) (l := [(fJu g jd, 0), (fFo g k z, 0), (fSx st, 0), (fBa jd b, 1)]) h (ct_loses g jd b k z st q q2 _ _ hC (fun x => (hj2 x).1)) (ll rfl) (by decide) hm ?_ (fun hn => ?_) (kf_st (kf_st Fr.rf _ _ _ _ _ _ _ _) _ _ _ _ _ _ _ _)
  · simp only [sx_c, c_ju hq hw, c_fo hq hw, c_so hq hw, c_st, c_zo, c_ba, c_wi, e12]
    generalize wMj (gA g 64) jd = b0
    generalize wMs (gA g 64) k = b1
    generalize fIn z 0 7 = b2
    generalize (decide (st = -1) || fIn st 0 31) = b3
    generalize fMb jd b = b4
    cases b0 <;> cases b1 <;> cases b2 <;> cases b3 <;> cases b4 <;> rfl
  · have n6 := hw.n6
    have g10 := hw.1.G
    obtain ⟨h1, hn1⟩ := gn hn
    obtain ⟨ja2, jb2, jc2⟩ := hj2 h1
    obtain ⟨h2, hn2⟩ := gn hn1
    obtain ⟨k1, z1, kl1, zl1, rfl, rfl⟩ := fo_nI hq hw h2
    obtain ⟨h3, hn3⟩ := gn hn2
    have u0 := nN_nI (n := k1) (by omega)
    have u1 := nN_nI (n := z1) (by omega)
    simp only [u0, u1]
    exact ⟨v_loses hQ jb2 b kl1 zl1 (sx_nI h3), z_st2 hQ JdQ_3 jb2 0 b kl1 zl1⟩
set_option maxRecDepth 100000 in
set_option maxHeartbeats 1000000 in
theorem al_part {K : Nat} {g : GS} (h : Rel K g) (jd : Int32) (j2 : Int32) (b : Int32) (k : Int32) (z : Int32) (fi : Bool) : Ct mX11_part (rm 10 4 24) [.ref 0, .int jd, .int j2, .int b, .int k, .int z, .int (bI fi)] (Wd g) (PLi [x_iob, x_iae] (fun kk vv gg => ∀ w, Ct mX12_part (rm 6 0 0) [.ref 63, .int jd, .int j2, .int b, .int k, .int z, .int (bI fi)] (Wd (sB gg 82 w)) (RXi (AlI K kk vv w)))) := by
  obtain ⟨gl, rl, q, hw, hb, hC, hQ⟩ := h.cq
  have hq : BkQ g (gA g 64) := hb.1
  have e12 : gF g 20 12 = gA g 64 4 := hq.2.2.2.2.2.2.2.1
  have e11 : gF g 20 11 = nI (mN (gA g 64)) := hq.2.2.2.2.2.2.1.trans hw.1.2.2.2.2.2.1.2
  obtain ⟨q2, hj2⟩ := Rel.jd hw hb jd
  obtain ⟨q3, hj3⟩ := Rel.jd hw hb j2
  have hm : ∀ g', gA g' 64 = gA g 64 → Ct mX12_part (rm 6 0 0) [.ref 63, .int jd, .int j2, .int b, .int k, .int z, .int (bI fi)] (Wd g') (PQi g' [(wMj (gA g 64) jd && wMs (gA g 64) k && fIn z 0 7 && wMj (gA g 64) j2, 1), (fMb jd b && fMb j2 b, 2)] (fun x g2 => x = ptS (fun i => ja (mJP (gA g 64) gl rl (gA g 64 6) (nN k) (nN z) (wTo (gA g 64) (nN k)) jd b (mG (gA g 64))) (i / 32) (i % 32)) (fun i => ja (mJP (gA g 64) gl rl (gA g 64 6) (nN k) (nN z) (wTo (gA g 64) (nN k)) j2 b (mG (gA g 64))) (i / 32) (i % 32)) fi (32 * (mG (gA g 64) + 1)) 0 0 ∧ QF g' g2)) := fun g' e => by
    have t := ct_m_part g' gl rl (by rw [e]; exact hw.2.2.1) jd j2 b k z fi
    rw [e] at t
    exact t
  refine al_i (E := [x_iob, x_iae]) (l := [(fJu g jd, 0), (fJu g j2, 0), (fFo g k z, 0), (fBa jd b && fBa j2 b, 1)]) h (ct_part g jd j2 b k z fi q q2 q3 _ _ hC (fun x => (hj2 x).1) (fun x => (hj3 x).1)) (ll rfl) (by decide) hm ?_ (fun hn => ?_) (kf_pa Fr.rf _ _ _ _ _ _ _ _ _ _)
  · simp only [sx_c, c_ju hq hw, c_fo hq hw, c_so hq hw, c_st, c_zo, c_ba, c_wi, e12]
    generalize wMj (gA g 64) jd = b0
    generalize wMs (gA g 64) k = b1
    generalize fIn z 0 7 = b2
    generalize wMj (gA g 64) j2 = b3
    generalize fMb jd b = b4
    generalize fMb j2 b = b5
    cases b0 <;> cases b1 <;> cases b2 <;> cases b3 <;> cases b4 <;> cases b5 <;> rfl
  · have n6 := hw.n6
    have g10 := hw.1.G
    obtain ⟨h1, hn1⟩ := gn hn
    obtain ⟨ja2, jb2, jc2⟩ := hj2 h1
    obtain ⟨h2, hn2⟩ := gn hn1
    obtain ⟨ja3, jb3, jc3⟩ := hj3 h2
    obtain ⟨h3, hn3⟩ := gn hn2
    obtain ⟨k1, z1, kl1, zl1, rfl, rfl⟩ := fo_nI hq hw h3
    have u0 := nN_nI (n := k1) (by omega)
    have u1 := nN_nI (n := z1) (by omega)
    simp only [u0, u1]
    exact ⟨v_part hQ jb2 jb3 b kl1 zl1 fi, z_pa hQ jb2 jb3 b kl1 zl1⟩
set_option maxRecDepth 100000 in
set_option maxHeartbeats 1000000 in
theorem al_bar {K : Nat} {g : GS} (h : Rel K g) (k : Int32) (z : Int32) : Ct mX11_bar (rm 8 1 6) [.ref 0, .int k, .int z] (Wd g) (PLi [x_iob] (fun kk vv gg => ∀ w, Ct mX12_bar (rm 6 0 0) [.ref 63, .int k, .int z] (Wd (sB gg 82 w)) (RXi (AlI K kk vv w)))) := by
  obtain ⟨gl, rl, q, hw, hb, hC, hQ⟩ := h.cq
  have hq : BkQ g (gA g 64) := hb.1
  have e12 : gF g 20 12 = gA g 64 4 := hq.2.2.2.2.2.2.2.1
  have e11 : gF g 20 11 = nI (mN (gA g 64)) := hq.2.2.2.2.2.2.1.trans hw.1.2.2.2.2.2.1.2
  have hm : ∀ g', gA g' 64 = gA g 64 → Ct mX12_bar (rm 6 0 0) [.ref 63, .int k, .int z] (Wd g') (PQi g' [(wMs (gA g 64) k && fIn z 0 7, 1)] (fun x g2 => x = nI (brS (fun q => wLs (mJP  (gA g 64) gl rl (gA g 64 6) (nN k) (nN z) (wTo (gA g 64) (nN k)) 3 0 (mG  (gA g 64))) (mJP  (gA g 64) gl rl (gA g 64 6) (nN k) (nN z) (wTo (gA g 64) (nN k)) 2 (nI q) (mG  (gA g 64))) (-1)) 31).1 ∧ QF g' g2)) := fun g' e => by
    have t := ct_m_bar g' gl rl (by rw [e]; exact hw.2.2.1) k z
    rw [e] at t
    exact t
  refine al_i (E := [x_iob]) (l := [(fFo g k z, 0)]) h (ct_bar g k z q _ _ hC) (ll rfl) (by decide) hm ?_ (fun hn => ?_) (kf_baA Fr.rf _ _ _ _ _)
  · simp only [sx_c, c_ju hq hw, c_fo hq hw, c_so hq hw, c_st, c_zo, c_ba, c_wi, e12]
    generalize wMs (gA g 64) k = b0
    generalize fIn z 0 7 = b1
    cases b0 <;> cases b1 <;> rfl
  · have n6 := hw.n6
    have g10 := hw.1.G
    obtain ⟨h1, hn1⟩ := gn hn
    obtain ⟨k1, z1, kl1, zl1, rfl, rfl⟩ := fo_nI hq hw h1
    have u0 := nN_nI (n := k1) (by omega)
    have u1 := nN_nI (n := z1) (by omega)
    simp only [u0, u1]
    exact ⟨v_bar hQ rl kl1 zl1, z_bar hQ kl1 zl1⟩
set_option maxRecDepth 100000 in
set_option maxHeartbeats 1000000 in
theorem al_pays {K : Nat} {g : GS} (h : Rel K g) (jd : Int32) (b : Int32) (k : Int32) : Ct mX11_pays (rm 10 3 18) [.ref 0, .int jd, .int b, .int k] (Wd g) (PLi [x_iob, x_iae] (fun kk vv gg => ∀ w, Ct mX12_pays (rm 6 0 0) [.ref 63, .int jd, .int b, .int k] (Wd (sB gg 82 w)) (RXi (AlI K kk vv w)))) := by
  obtain ⟨gl, rl, q, hw, hb, hC, hQ⟩ := h.cq
  have hq : BkQ g (gA g 64) := hb.1
  have e12 : gF g 20 12 = gA g 64 4 := hq.2.2.2.2.2.2.2.1
  have e11 : gF g 20 11 = nI (mN (gA g 64)) := hq.2.2.2.2.2.2.1.trans hw.1.2.2.2.2.2.1.2
  obtain ⟨q2, hj2⟩ := Rel.jd hw hb jd
  have hm : ∀ g', gA g' 64 = gA g 64 → Ct mX12_pays (rm 6 0 0) [.ref 63, .int jd, .int b, .int k] (Wd g') (PQi g' [(wMj (gA g 64) jd && wMs (gA g 64) k, 1), (fMb jd b, 2)] (fun x g2 => x = orI (wPy (gA g 64) gl rl (gA g 64 6) (nN k) (wTo (gA g 64) (nN k)) jd b) 32 ∧ QF g' g2)) := fun g' e => by
    have t := ct_m_pays g' gl rl (by rw [e]; exact hw.2.2.1) jd b k
    rw [e] at t
    exact t
  refine al_i (E := [x_iob, x_iae]) (l := [(fJu g jd, 0), (fSo g k, 0), (fBa jd b, 1)]) h (ct_pays g jd b k q q2 _ _ hC (fun x => (hj2 x).1)) (ll rfl) (by decide) hm ?_ (fun hn => ?_) (kf_py (kf_se Fr.rf _ _ _ _) _ _ _ _ _)
  · simp only [sx_c, c_ju hq hw, c_fo hq hw, c_so hq hw, c_st, c_zo, c_ba, c_wi, e12]
    generalize wMj (gA g 64) jd = b0
    generalize wMs (gA g 64) k = b1
    generalize fMb jd b = b2
    cases b0 <;> cases b1 <;> cases b2 <;> rfl
  · have n6 := hw.n6
    have g10 := hw.1.G
    obtain ⟨h1, hn1⟩ := gn hn
    obtain ⟨ja2, jb2, jc2⟩ := hj2 h1
    obtain ⟨h2, hn2⟩ := gn hn1
    obtain ⟨k1, kl1, rfl⟩ := so_nI hq hw h2
    have u0 := nN_nI (n := k1) (by omega)
    simp only [u0]
    exact ⟨v_pays hQ jb2 b kl1, z_pays hQ jb2 b kl1⟩
set_option maxRecDepth 100000 in
set_option maxHeartbeats 1000000 in
theorem al_least {K : Nat} {g : GS} (h : Rel K g) (jd : Int32) (b : Int32) (k : Int32) (sts : Int32) : Ct mX11_least (rm 9 3 18) [.ref 0, .int jd, .int b, .int k, .int sts] (Wd g) (PLi [x_iob, x_iae] (fun kk vv gg => ∀ w, Ct mX12_least (rm 6 0 0) [.ref 63, .int jd, .int b, .int k, .int sts] (Wd (sB gg 82 w)) (RXi (AlI K kk vv w)))) := by
  obtain ⟨gl, rl, q, hw, hb, hC, hQ⟩ := h.cq
  have hq : BkQ g (gA g 64) := hb.1
  have e12 : gF g 20 12 = gA g 64 4 := hq.2.2.2.2.2.2.2.1
  have e11 : gF g 20 11 = nI (mN (gA g 64)) := hq.2.2.2.2.2.2.1.trans hw.1.2.2.2.2.2.1.2
  obtain ⟨q2, hj2⟩ := Rel.jd hw hb jd
  have hm : ∀ g', gA g' 64 = gA g 64 → Ct mX12_least (rm 6 0 0) [.ref 63, .int jd, .int b, .int k, .int sts] (Wd g') (PQi g' [(wMj (gA g 64) jd && wMs (gA g 64) k, 1), (fMb jd b, 2)] (fun x g2 => x = lsT (lsF (fun q => orI (wPy  (gA g 64) gl rl (gA g 64 6) (nN k) (nI q) jd b) 32 &&& sts) 10000 0 10000) ∧ QF g' g2)) := fun g' e => by
    have t := ct_m_least g' gl rl (by rw [e]; exact hw.2.2.1) jd b k sts
    rw [e] at t
    exact t
  refine al_i (E := [x_iob, x_iae]) (l := [(fJu g jd, 0), (fSo g k, 0), (fBa jd b, 1)]) h (ct_least g jd b k sts q q2 _ _ hC (fun x => (hj2 x).1)) (ll rfl) (by decide) hm ?_ (fun hn => ?_) (kf_lcA (kf_se Fr.rf _ _ _ _) _ _ _ _)
  · simp only [sx_c, c_ju hq hw, c_fo hq hw, c_so hq hw, c_st, c_zo, c_ba, c_wi, e12]
    generalize wMj (gA g 64) jd = b0
    generalize wMs (gA g 64) k = b1
    generalize fMb jd b = b2
    cases b0 <;> cases b1 <;> cases b2 <;> rfl
  · have n6 := hw.n6
    have g10 := hw.1.G
    obtain ⟨h1, hn1⟩ := gn hn
    obtain ⟨ja2, jb2, jc2⟩ := hj2 h1
    obtain ⟨h2, hn2⟩ := gn hn1
    obtain ⟨k1, kl1, rfl⟩ := so_nI hq hw h2
    have u0 := nN_nI (n := k1) (by omega)
    simp only [u0]
    exact ⟨v_least hQ jb2 b kl1 sts, z_least hQ jb2 b kl1 sts⟩
set_option maxRecDepth 100000 in
set_option maxHeartbeats 1000000 in
theorem al_match {K : Nat} {g : GS} (h : Rel K g) (jd : Int32) (b : Int32) (stopped : Bool) : Ct mX11_match (rm 8 2 12) [.ref 0, .int jd, .int b, .int (bI stopped)] (Wd g) (PLl [x_iob, x_iae] (fun kk vv gg => ∀ w, Ct mX12_match (rm 6 0 0) [.ref 63, .int jd, .int b, .int (bI stopped)] (Wd (sB gg 82 w)) (RXl (AlL K kk vv w)))) := by
  obtain ⟨gl, rl, q, hw, hb, hC, hQ⟩ := h.cq
  have hq : BkQ g (gA g 64) := hb.1
  have e12 : gF g 20 12 = gA g 64 4 := hq.2.2.2.2.2.2.2.1
  have e11 : gF g 20 11 = nI (mN (gA g 64)) := hq.2.2.2.2.2.2.1.trans hw.1.2.2.2.2.2.1.2
  obtain ⟨q2, hj2⟩ := Rel.jd hw hb jd
  have hm : ∀ g', gA g' 64 = gA g 64 → Ct mX12_match (rm 6 0 0) [.ref 63, .int jd, .int b, .int (bI stopped)] (Wd g') (PQl g' [(wMj (gA g 64) jd, 1), (fMb jd b, 2)] (fun x g2 => x = (bif stopped then mtM (gA g 64) gl rl (gA g 64 6) jd b 1 else fdL (acL 0 (fun i => mtM (gA g 64) gl rl (nI (10 * i)) jd b 0) 9) 9) ∧ QF g' g2)) := fun g' e => by
    have t := ct_m_match g' gl rl (by rw [e]; exact hw.2.2.1) jd b stopped
    rw [e] at t
    exact t
  refine al_l (E := [x_iob, x_iae]) (l := [(fJu g jd, 0), (fBa jd b, 1)]) h (ct_match g jd b stopped q q2 _ _ _ hC hw.n6 e11 (fun x => (hj2 x).1)) (ll rfl) (by decide) hm ?_ (fun hn => ?_) (kf_mtA Fr.rf _ _ _ _ _ _ _ _)
  · simp only [sx_c, c_ju hq hw, c_fo hq hw, c_so hq hw, c_st, c_zo, c_ba, c_wi, e12]
    generalize wMj (gA g 64) jd = b0
    generalize fMb jd b = b1
    cases b0 <;> cases b1 <;> rfl
  · have n6 := hw.n6
    have g10 := hw.1.G
    obtain ⟨h1, hn1⟩ := gn hn
    obtain ⟨ja2, jb2, jc2⟩ := hj2 h1
    exact v_match hQ jb2 b stopped
set_option maxRecDepth 100000 in
set_option maxHeartbeats 1000000 in
theorem al_two {K : Nat} {g : GS} (h : Rel K g) (a : Int32) (z : Int32) (c : Int32) (y : Int32) (s : Int32) (worth : Bool) : Ct mX11_two (rm 10 3 18) [.ref 0, .int a, .int z, .int c, .int y, .int s, .int (bI worth)] (Wd g) (PLl [x_iob] (fun kk vv gg => ∀ w, Ct mX12_two (rm 6 0 0) [.ref 63, .int a, .int z, .int c, .int y, .int s, .int (bI worth)] (Wd (sB gg 82 w)) (RXl (AlL K kk vv w)))) := by
  obtain ⟨gl, rl, q, hw, hb, hC, hQ⟩ := h.cq
  have hq : BkQ g (gA g 64) := hb.1
  have e12 : gF g 20 12 = gA g 64 4 := hq.2.2.2.2.2.2.2.1
  have e11 : gF g 20 11 = nI (mN (gA g 64)) := hq.2.2.2.2.2.2.1.trans hw.1.2.2.2.2.2.1.2
  have hm : ∀ g', gA g' 64 = gA g 64 → Ct mX12_two (rm 6 0 0) [.ref 63, .int a, .int z, .int c, .int y, .int s, .int (bI worth)] (Wd g') (PQl g' [(wMs (gA g 64) a && fIn z 0 7 && wMs (gA g 64) c && fIn y 0 7 && fIn s 0 31, 1)] (fun x g2 => x = (bif worth then mtwV (wSw (gA g 64) (nN a) (nN z) (wTo (gA g 64) (nN a))) (wSw (gA g 64) (nN c) (nN y) (wTo (gA g 64) (nN c))) (jw (mJP (gA g 64) gl rl (gA g 64 6) (nN a) (nN z) (wTo (gA g 64) (nN a)) 3 0 (mG (gA g 64))) 0 (nN s)) else (mtwW (wSw (gA g 64) (nN a) (nN z) (wTo (gA g 64) (nN a))) (wSw (gA g 64) (nN c) (nN y) (wTo (gA g 64) (nN c)))).toInt64) ∧ QF g' g2)) := fun g' e => by
    have t := ct_m_two g' gl rl (by rw [e]; exact hw.2.2.1) a z c y s worth
    rw [e] at t
    exact t
  refine al_l (E := [x_iob]) (l := [(fFo g a z, 0), (fFo g c y, 0), (fSt s, 0)]) h (ct_two g a z c y s worth q _ _ hC) (ll rfl) (by decide) hm ?_ (fun hn => ?_) (kf_tw Fr.rf _ _ _ _ _ _ _ _)
  · simp only [sx_c, c_ju hq hw, c_fo hq hw, c_so hq hw, c_st, c_zo, c_ba, c_wi, e12]
    generalize wMs (gA g 64) a = b0
    generalize fIn z 0 7 = b1
    generalize wMs (gA g 64) c = b2
    generalize fIn y 0 7 = b3
    generalize fIn s 0 31 = b4
    cases b0 <;> cases b1 <;> cases b2 <;> cases b3 <;> cases b4 <;> rfl
  · have n6 := hw.n6
    have g10 := hw.1.G
    obtain ⟨h1, hn1⟩ := gn hn
    obtain ⟨k1, z1, kl1, zl1, rfl, rfl⟩ := fo_nI hq hw h1
    obtain ⟨h2, hn2⟩ := gn hn1
    obtain ⟨k2, z2, kl2, zl2, rfl, rfl⟩ := fo_nI hq hw h2
    obtain ⟨h3, hn3⟩ := gn hn2
    obtain ⟨s1, sl1, rfl⟩ := fSt_nI h3
    have u0 := nN_nI (n := k1) (by omega)
    have u1 := nN_nI (n := z1) (by omega)
    have u2 := nN_nI (n := k2) (by omega)
    have u3 := nN_nI (n := z2) (by omega)
    have u4 := nN_nI (n := s1) (by omega)
    simp only [u0, u1, u2, u3, u4]
    exact v_two hQ rl kl1 zl1 kl2 zl2 sl1 worth
set_option maxRecDepth 100000 in
set_option maxHeartbeats 1000000 in
theorem al_played {K : Nat} {g : GS} (h : Rel K g) (jd : Int32) (b : Int32) (k : Int32) (z : Int32) (s : Int32) (seed : Int32) : Ct mX11_played (rm 10 4 24) [.ref 0, .int jd, .int b, .int k, .int z, .int s, .int seed] (Wd g) (PLi [x_iob, x_iae] (fun kk vv gg => ∀ w, Ct mX12_played (rm 6 0 0) [.ref 63, .int jd, .int b, .int k, .int z, .int s, .int seed] (Wd (sB gg 82 w)) (RXi (AlI K kk vv w)))) := by
  obtain ⟨gl, rl, q, hw, hb, hC, hQ⟩ := h.cq
  have hq : BkQ g (gA g 64) := hb.1
  have e12 : gF g 20 12 = gA g 64 4 := hq.2.2.2.2.2.2.2.1
  have e11 : gF g 20 11 = nI (mN (gA g 64)) := hq.2.2.2.2.2.2.1.trans hw.1.2.2.2.2.2.1.2
  obtain ⟨q2, hj2⟩ := Rel.jd hw hb jd
  have hm : ∀ g', gA g' 64 = gA g 64 → Ct mX12_played (rm 6 0 0) [.ref 63, .int jd, .int b, .int k, .int z, .int s, .int seed] (Wd g') (PQi g' [(wMj (gA g 64) jd && wMs (gA g 64) k && fIn z 0 7 && fIn s 0 31, 1), (fMb jd b, 2)] (fun x g2 => x = (mpF (gA g 64) (ja (mJP (gA g 64) gl rl (gA g 64 6) (nN k) (nN z) (wTo (gA g 64) (nN k)) jd b (mG (gA g 64)))) (mT (gA g 64)) 0 (nN s) false seed).1 ∧ QF g' g2)) := fun g' e => by
    have t := ct_m_played g' gl rl (by rw [e]; exact hw.2.2.1) (by rw [e]; exact hw.2.2.2) jd b k z s seed
    rw [e] at t
    exact t
  refine al_i (E := [x_iob, x_iae]) (l := [(fJu g jd, 0), (fFo g k z, 0), (fSt s, 0), (fBa jd b, 1)]) h (ct_played g jd b k z s seed q q2 _ _ hC (fun x => (hj2 x).1)) (ll rfl) (by decide) hm ?_ (fun hn => ?_) (kf_pd Fr.rf _ _ _ _ _ _ _ _ _ _)
  · simp only [sx_c, c_ju hq hw, c_fo hq hw, c_so hq hw, c_st, c_zo, c_ba, c_wi, e12]
    generalize wMj (gA g 64) jd = b0
    generalize wMs (gA g 64) k = b1
    generalize fIn z 0 7 = b2
    generalize fIn s 0 31 = b3
    generalize fMb jd b = b4
    cases b0 <;> cases b1 <;> cases b2 <;> cases b3 <;> cases b4 <;> rfl
  · have n6 := hw.n6
    have g10 := hw.1.G
    obtain ⟨h1, hn1⟩ := gn hn
    obtain ⟨ja2, jb2, jc2⟩ := hj2 h1
    obtain ⟨h2, hn2⟩ := gn hn1
    obtain ⟨k1, z1, kl1, zl1, rfl, rfl⟩ := fo_nI hq hw h2
    obtain ⟨h3, hn3⟩ := gn hn2
    obtain ⟨s1, sl1, rfl⟩ := fSt_nI h3
    have u0 := nN_nI (n := k1) (by omega)
    have u1 := nN_nI (n := z1) (by omega)
    have u2 := nN_nI (n := s1) (by omega)
    simp only [u0, u1, u2]
    exact v_played hQ jb2 jc2 hw.2.2.2 b seed kl1 zl1 sl1
set_option maxRecDepth 100000 in
set_option maxHeartbeats 1000000 in
theorem al_ends {K : Nat} {g : GS} (h : Rel K g) (jd : Int32) (b : Int32) (k : Int32) (z : Int32) (s : Int32) (what : Int32) : Ct mX11_ends (rm 10 5 30) [.ref 0, .int jd, .int b, .int k, .int z, .int s, .int what] (Wd g) (PLi [x_iob, x_iae, x_nse] (fun kk vv gg => ∀ w, Ct mX12_ends (rm 6 0 0) [.ref 63, .int jd, .int b, .int k, .int z, .int s, .int what] (Wd (sB gg 82 w)) (RXi (AlI K kk vv w)))) := by
  obtain ⟨gl, rl, q, hw, hb, hC, hQ⟩ := h.cq
  have hq : BkQ g (gA g 64) := hb.1
  have e12 : gF g 20 12 = gA g 64 4 := hq.2.2.2.2.2.2.2.1
  have e11 : gF g 20 11 = nI (mN (gA g 64)) := hq.2.2.2.2.2.2.1.trans hw.1.2.2.2.2.2.1.2
  obtain ⟨q2, hj2⟩ := Rel.jd hw hb jd
  have hm : ∀ g', gA g' 64 = gA g 64 → Ct mX12_ends (rm 6 0 0) [.ref 63, .int jd, .int b, .int k, .int z, .int s, .int what] (Wd g') (PQi g' [(wMj (gA g 64) jd && wMs (gA g 64) k && fIn z 0 7 && fIn s 0 31, 1), (fMb jd b, 2), (fIn what 0 2, 3)] (fun x g2 => x = (eW (gA g 64) (ja (mJP (gA g 64) gl rl (gA g 64 6) (nN k) (nN z) (wTo (gA g 64) (nN k)) jd b (mG (gA g 64)))) what (mT (gA g 64)) (mT (gA g 64)) (nN s)).toInt32 ∧ QF g' g2)) := fun g' e => by
    have t := ct_m_ends g' gl rl (by rw [e]; exact hw.2.2.1) (by rw [e]; exact hw.2.2.2) jd b k z s what
    rw [e] at t
    exact t
  refine al_i (E := [x_iob, x_iae, x_nse]) (l := [(fJu g jd, 0), (fFo g k z, 0), (fSt s, 0), (fBa jd b, 1), (fWi what 2, 2)]) h (ct_ends g jd b k z s what q q2 _ _ hC (fun x => (hj2 x).1)) (ll rfl) (by decide) hm ?_ (fun hn => ?_) (kf_en Fr.rf _ _ _ _ _ _ _ _ _)
  · simp only [sx_c, c_ju hq hw, c_fo hq hw, c_so hq hw, c_st, c_zo, c_ba, c_wi, e12]
    generalize wMj (gA g 64) jd = b0
    generalize wMs (gA g 64) k = b1
    generalize fIn z 0 7 = b2
    generalize fIn s 0 31 = b3
    generalize fMb jd b = b4
    generalize fIn what 0 2 = b5
    cases b0 <;> cases b1 <;> cases b2 <;> cases b3 <;> cases b4 <;> cases b5 <;> rfl
  · have n6 := hw.n6
    have g10 := hw.1.G
    obtain ⟨h1, hn1⟩ := gn hn
    obtain ⟨ja2, jb2, jc2⟩ := hj2 h1
    obtain ⟨h2, hn2⟩ := gn hn1
    obtain ⟨k1, z1, kl1, zl1, rfl, rfl⟩ := fo_nI hq hw h2
    obtain ⟨h3, hn3⟩ := gn hn2
    obtain ⟨s1, sl1, rfl⟩ := fSt_nI h3
    have u0 := nN_nI (n := k1) (by omega)
    have u1 := nN_nI (n := z1) (by omega)
    have u2 := nN_nI (n := s1) (by omega)
    simp only [u0, u1, u2]
    exact v_ends hQ jb2 jc2 hw.2.2.2 b what kl1 zl1 sl1
set_option maxRecDepth 100000 in
set_option maxHeartbeats 1000000 in
theorem al_mean {K : Nat} {g : GS} (h : Rel K g) (jd : Int32) (b : Int32) (what : Int32) : Ct mX11_mean (rm 8 3 18) [.ref 0, .int jd, .int b, .int what] (Wd g) (PLl [x_iob, x_iae, x_nse] (fun kk vv gg => ∀ w, Ct mX12_mean (rm 6 0 0) [.ref 63, .int jd, .int b, .int what] (Wd (sB gg 82 w)) (RXl (AlL K kk vv w)))) := by
  obtain ⟨gl, rl, q, hw, hb, hC, hQ⟩ := h.cq
  have hq : BkQ g (gA g 64) := hb.1
  have e12 : gF g 20 12 = gA g 64 4 := hq.2.2.2.2.2.2.2.1
  have e11 : gF g 20 11 = nI (mN (gA g 64)) := hq.2.2.2.2.2.2.1.trans hw.1.2.2.2.2.2.1.2
  obtain ⟨q2, hj2⟩ := Rel.jd hw hb jd
  have hm : ∀ g', gA g' 64 = gA g 64 → Ct mX12_mean (rm 6 0 0) [.ref 63, .int jd, .int b, .int what] (Wd g') (PQl g' [(wMj (gA g 64) jd, 1), (fMb jd b, 2), (fIn what 0 2, 3)] (fun x g2 => x = acL 0 (mnT (gA g 64) gl rl jd b what) (32 * mN (gA g 64)) ∧ QF g' g2)) := fun g' e => by
    have t := ct_m_mean g' gl rl (by rw [e]; exact hw.2.2.1) (by rw [e]; exact hw.2.2.2) jd b what
    rw [e] at t
    exact t
  refine al_l (E := [x_iob, x_iae, x_nse]) (l := [(fJu g jd, 0), (fBa jd b, 1), (fWi what 2, 2)]) h (ct_mean g jd b what q q2 _ _ _ hC hw.n6 e11 (fun x => (hj2 x).1)) (ll rfl) (by decide) hm ?_ (fun hn => ?_) (kf_meA Fr.rf _ _ _ _ _ _ _ _)
  · simp only [sx_c, c_ju hq hw, c_fo hq hw, c_so hq hw, c_st, c_zo, c_ba, c_wi, e12]
    generalize wMj (gA g 64) jd = b0
    generalize fMb jd b = b1
    generalize fIn what 0 2 = b2
    cases b0 <;> cases b1 <;> cases b2 <;> rfl
  · have n6 := hw.n6
    have g10 := hw.1.G
    obtain ⟨h1, hn1⟩ := gn hn
    obtain ⟨ja2, jb2, jc2⟩ := hj2 h1
    exact v_mean hQ jb2 jc2 hw.2.2.2 b what
set_option maxRecDepth 100000 in
set_option maxHeartbeats 1000000 in
theorem al_plain {K : Nat} {g : GS} (h : Rel K g) (k : Int32) (z : Int32) : Ct mX11_plain (rm 8 1 6) [.ref 0, .int k, .int z] (Wd g) (PLi [x_iob] (fun kk vv gg => ∀ w, Ct mX12_plain (rm 6 0 0) [.ref 63, .int k, .int z] (Wd (sB gg 82 w)) (RXi (AlI K kk vv w)))) := by
  obtain ⟨gl, rl, q, hw, hb, hC, hQ⟩ := h.cq
  have hq : BkQ g (gA g 64) := hb.1
  have e12 : gF g 20 12 = gA g 64 4 := hq.2.2.2.2.2.2.2.1
  have e11 : gF g 20 11 = nI (mN (gA g 64)) := hq.2.2.2.2.2.2.1.trans hw.1.2.2.2.2.2.1.2
  have hm : ∀ g', gA g' 64 = gA g 64 → Ct mX12_plain (rm 6 0 0) [.ref 63, .int k, .int z] (Wd g') (PQi g' [(wMs (gA g 64) k && fIn z 0 7, 1)] (fun x g2 => x = (pnS (fun n => wLs (mJP (gA g 64) gl rl (gA g 64 6) (nN k) (nN z) (wTo (gA g 64) (nN k)) 3 0 (mG (gA g 64))) (mJP (gA g 64) gl rl (gA g 64 6) (nN k) (nN z) (wTo (gA g 64) (nN k)) (nI (100 + 10 * (n / 5) + n % 5)) 0 (mG (gA g 64))) (-1)) 45).1 ∧ QF g' g2)) := fun g' e => by
    have t := ct_m_plain g' gl rl (by rw [e]; exact hw.2.2.1) k z
    rw [e] at t
    exact t
  refine al_i (E := [x_iob]) (l := [(fFo g k z, 0)]) h (ct_plain g k z q _ _ hC) (ll rfl) (by decide) hm ?_ (fun hn => ?_) (kf_pnA Fr.rf _ _ _ _ _)
  · simp only [sx_c, c_ju hq hw, c_fo hq hw, c_so hq hw, c_st, c_zo, c_ba, c_wi, e12]
    generalize wMs (gA g 64) k = b0
    generalize fIn z 0 7 = b1
    cases b0 <;> cases b1 <;> rfl
  · have n6 := hw.n6
    have g10 := hw.1.G
    obtain ⟨h1, hn1⟩ := gn hn
    obtain ⟨k1, z1, kl1, zl1, rfl, rfl⟩ := fo_nI hq hw h1
    have u0 := nN_nI (n := k1) (by omega)
    have u1 := nN_nI (n := z1) (by omega)
    simp only [u0, u1]
    exact ⟨v_plain hQ rl kl1 zl1, z_plain hQ kl1 zl1⟩
set_option maxRecDepth 100000 in
set_option maxHeartbeats 1000000 in
theorem al_right {K : Nat} {g : GS} (h : Rel K g) (jd : Int32) (b : Int32) (k : Int32) (z : Int32) : Ct mX11_right (rm 10 3 18) [.ref 0, .int jd, .int b, .int k, .int z] (Wd g) (PLi [x_iob, x_iae] (fun kk vv gg => ∀ w, Ct mX12_right (rm 6 0 0) [.ref 63, .int jd, .int b, .int k, .int z] (Wd (sB gg 82 w)) (RXi (AlI K kk vv w)))) := by
  obtain ⟨gl, rl, q, hw, hb, hC, hQ⟩ := h.cq
  have hq : BkQ g (gA g 64) := hb.1
  have e12 : gF g 20 12 = gA g 64 4 := hq.2.2.2.2.2.2.2.1
  have e11 : gF g 20 11 = nI (mN (gA g 64)) := hq.2.2.2.2.2.2.1.trans hw.1.2.2.2.2.2.1.2
  obtain ⟨q2, hj2⟩ := Rel.jd hw hb jd
  have hm : ∀ g', gA g' 64 = gA g 64 → Ct mX12_right (rm 6 0 0) [.ref 63, .int jd, .int b, .int k, .int z] (Wd g') (PQi g' [(wMj (gA g 64) jd && wMs (gA g 64) k && fIn z 0 7, 1), (fMb jd b, 2)] (fun x g2 => x = orI (fun s => rgV (jw (mJP (gA g 64) gl rl (gA g 64 6) (nN k) (nN z) (wTo (gA g 64) (nN k)) 3 0 (mG (gA g 64))) 0 s) (jw (mJP (gA g 64) gl rl (gA g 64 6) (nN k) (nN z) (wTo (gA g 64) (nN k)) jd b (mG (gA g 64))) 0 s) s) 32 ∧ QF g' g2)) := fun g' e => by
    have t := ct_m_right g' gl rl (by rw [e]; exact hw.2.2.1) jd b k z
    rw [e] at t
    exact t
  refine al_i (E := [x_iob, x_iae]) (l := [(fJu g jd, 0), (fFo g k z, 0), (fBa jd b, 1)]) h (ct_right g jd b k z q q2 _ _ hC (fun x => (hj2 x).1)) (ll rfl) (by decide) hm ?_ (fun hn => ?_) (kf_ri Fr.rf _ _ _ _ _ _ _ _)
  · simp only [sx_c, c_ju hq hw, c_fo hq hw, c_so hq hw, c_st, c_zo, c_ba, c_wi, e12]
    generalize wMj (gA g 64) jd = b0
    generalize wMs (gA g 64) k = b1
    generalize fIn z 0 7 = b2
    generalize fMb jd b = b3
    cases b0 <;> cases b1 <;> cases b2 <;> cases b3 <;> rfl
  · have n6 := hw.n6
    have g10 := hw.1.G
    obtain ⟨h1, hn1⟩ := gn hn
    obtain ⟨ja2, jb2, jc2⟩ := hj2 h1
    obtain ⟨h2, hn2⟩ := gn hn1
    obtain ⟨k1, z1, kl1, zl1, rfl, rfl⟩ := fo_nI hq hw h2
    have u0 := nN_nI (n := k1) (by omega)
    have u1 := nN_nI (n := z1) (by omega)
    simp only [u0, u1]
    exact ⟨v_right hQ jb2 b kl1 zl1, z_ri hQ jb2 b kl1 zl1⟩
