theorem c_lt6 {N : Nat} (h : N ≤ 6) : fLt (nI N) 6 = !(decide (nI N = 6)) := by
  have : N = 0 ∨ N = 1 ∨ N = 2 ∨ N = 3 ∨ N = 4 ∨ N = 5 ∨ N = 6 := by omega
  rcases this with rfl | rfl | rfl | rfl | rfl | rfl | rfl <;> decide
theorem a64_Z (c : Nat) (h : aZ c = false) : a64o c = false := by
  unfold aZ at h
  exact (Bool.or_eq_false_iff.mp (Bool.or_eq_false_iff.mp h).2).2
theorem al_sort {K : Nat} {g : GS} (h : Rel K g) (c f : Int32) : Ct mX11_sort (rm 10 2 12) [.ref 0, .int c, .int f] (Wd g) (PLi [x_iae, x_uoe] (fun kk vv gg => ∀ w, Ct mX12_sort (rm 2 0 0) [.ref 63, .int c, .int f] (Wd (sB gg 82 w)) (RXi (AlI K kk vv w)))) := by
  obtain ⟨gl, rl, q, hw, hb, hC, hQ⟩ := h.cq
  have hq : BkQ g (gA g 64) := hb.1
  have n6 := hw.n6
  have e2 : gA g 64 2 = nI (mN (gA g 64)) := hw.1.2.2.2.2.2.1.2
  have e11 : gF g 20 11 = nI (mN (gA g 64)) := hq.2.2.2.2.2.2.1.trans e2
  have hm : ∀ g', gA g' 64 = gA g 64 → Ct mX12_sort (rm 2 0 0) [.ref 63, .int c, .int f] (Wd g') (PQi g' [(fIn c 0 9999 && fIn f 0 100, 1), ((!(decide (gA g 64 2 = 6))), 2)] (fun x g2 => x = nI (mN (gA g 64)) ∧ g2 = wU (soG (mN (gA g 64)) c f (sF g' 63 0 0)) 2 (nI (mN (gA g 64)) + 1))) := fun g' e => by
    have t := ct_m_sort g' gl rl (by rw [e]; exact hw.2.2.1) c f
    rw [e] at t
    exact t
  refine al_g (E := [x_iae, x_uoe]) (l := [(fWi c 9999 && fWi f 100, 0), (fLt (gF g 20 11) 6, 1)]) h (ct_sort g c f) (ll rfl) (by decide) hm rfl ?_ (fun hn w x g2 hp => ?_)
  · rw [e11, e2, c_lt6 n6]
    simp only [c_wi]
    generalize fIn c 0 9999 = b0
    generalize fIn f 0 100 = b1
    generalize (!(decide (nI (mN (gA g 64)) = 6))) = b2
    cases b0 <;> cases b1 <;> cases b2 <;> rfl
  · obtain ⟨h1, hn1⟩ := gn hn
    obtain ⟨h2, -⟩ := gn hn1
    rw [Bool.and_eq_true] at h1
    have bc := fIn_b (x := c) (lo := 0) (hi := 9999) h1.1
    have bf := fIn_b (x := f) (lo := 0) (hi := 100) h1.2
    obtain ⟨p1, p2⟩ := hp
    have hN : mN (gA g 64) < 6 := by
      rcases Nat.lt_or_ge (mN (gA g 64)) 6 with x | x
      · exact x
      · rw [e11, show mN (gA g 64) = 6 by omega] at h2
        exact absurd h2 (by decide)
    have e64 : gA g2 64 = soW (gA g 64) (mN (gA g 64)) c f := by rw [p2]; exact so_64 _ _ c f
    have fr1 : Fr fZ aZ g (bk_as g 20 c f) := ((Fr.rf.sA rfl).sA rfl).sF rfl
    have fr2 : Fr fZ aZ g (itU (soZ (mN (gA g 64))) 34 0 (sF (sB (bk_as g 20 c f) 82 w) 63 0 0)) := ((fr1.sB rfl).sF rfl).tr ((soZ_fr _ 34 0 Fr.rf).mono (fun _ _ _ => rfl) a64_Z)
    have fr3 : Fr fZ aZ g g2 := by rw [p2]; exact ((fr2.sA rfl).sA rfl).sA rfl
    have hs2 : Fr f0 a64o (bk_as g 20 c f) (itU (soZ (mN (gA g 64))) 34 0 (bk_as g 20 c f)) := soZ_fr _ 34 0 Fr.rf
    have hs : Fr f0 a64o (sF (sB (bk_as g 20 c f) 82 w) 63 0 0) g2 := by rw [p2]; exact (((soZ_fr _ 34 0 Fr.rf).sA rfl).sA rfl).sA rfl
    have r23 : gA g2 23 = upd (gA g 23) (mN (gA g 64)) c := by
      rw [hs.2.1 23 rfl]
      show rPut 6 (gA g 23) (gF g 20 11) c = _
      rw [e11, rPut_in hN (by omega)]
    have r24 : gA g2 24 = upd (gA g 24) (mN (gA g 64)) f := by
      rw [hs.2.1 24 rfl]
      show rPut 6 (gA g 24) (gF g 20 11) f = _
      rw [e11, rPut_in hN (by omega)]
    have f11 : gF g2 20 11 = nI (mN (gA g 64)) + 1 := by
      rw [hs.1 20 11 rfl]
      show gF g 20 11 + 1 = _
      rw [e11]
    have fk : ∀ k, ¬ k = 11 → gF g2 20 k = gF g 20 k := fun k hk => by
      rw [hs.1 20 k rfl]
      show (bif Nat.beq 20 20 && Nat.beq k 11 then _ else gF g 20 k) = _
      rw [show Nat.beq k 11 = false from by cases x : Nat.beq k 11; rfl; exact absurd (Nat.eq_of_beq_eq_true x) hk]; rfl
    refine ⟨e11.trans p1.symm, by rw [hs.1 63 0 rfl]; rfl, h.mk2 fr3 ⟨gl, rl, ?_, ?_⟩ ?_, hs.2.2.1 82 rfl⟩
    · rw [e64]
      exact hw.of (soW_B hw.1 rfl hN bc bf) (by
        rw [NZ_c (fun s k hs hk => show zW (soW _ _ c f) _ = zW _ _ by unfold zW; rw [soW_lo (by omega) (by omega)]) 32 (Nat.le_refl _), soW_lo (by omega) (by omega)]; exact hw.2.1) (soW_lo (by omega) (by omega)) (soW_lo (by omega) (by omega)) (fun i a _ => soW_lo (by omega) (by omega))
    · rw [e64]
      have u : BkQ g2 (soW (gA g 64) (mN (gA g 64)) c f) := soW_Q hq rfl hN ((hs.2.1 21 rfl).trans rfl) ((hs.2.1 22 rfl).trans rfl) r23 r24 ((hs.2.1 25 rfl).trans rfl) fk f11
      exact hb.w u (fk 8 (by omega)) ((hs.2.2.2.1 20 7 rfl).trans rfl) ((hs.2.2.2.2.1 29 rfl).trans rfl) (hs.2.2.2.2.2.trans rfl) (soW_lo (by omega) (by omega)) (soW_lo (by omega) (by omega)) (soW_lo (by omega) (by omega))
    · intro s hsl
      rw [hs.2.1 50 rfl, hs.2.1 59 rfl]
      exact h.2.1 s hsl
/-! learning -/
def aKL (c : Nat) : Bool := aK c || Nat.beq c 25
theorem aKL_K (c : Nat) (h : aKL c = false) : aK c = false := (Bool.or_eq_false_iff.mp h).1
theorem kl_lrS {g0 : GS} (q : Option CD) (G so s : Nat) {p : Bool × GS} (h : Fr fK aKL g0 p.2) : Fr fK aKL g0 (lrS q G so s p).2 := by
  have h1 : Fr fK aKL g0 (lwG p.2 (nI so) (nI s) q G) := h.tr ((kf_lw (Fr.rf : KF p.2 p.2) (nI so) (nI s) q G).mono (fun _ _ e => e) aKL_K)
  unfold lrS
  by_cases c : bk_rt p.2 20 (nI so) (nI s) ≤ 0
  · rw [if_pos c]; exact h
  · rw [if_neg c]; exact h1.sA rfl
theorem kl_lrT {g0 : GS} (q : Option CD) (G so : Nat) {p : Bool × GS} (h : Fr fK aKL g0 p.2) : Fr fK aKL g0 (lrT q G so p).2 := fr_itQ (q := p) h (fun s p hp => kl_lrS q G so s hp) 32
theorem kl_lrN {g0 : GS} (q : Option CD) (G n : Nat) {g : GS} (h : Fr fK aKL g0 g) : Fr fK aKL g0 (itN (lrT q G) n (false, g)).2 := fr_itQ (q := (false, g)) h (fun s p hp => kl_lrT q G s hp) n
theorem kl_leR {g0 : GS} (q : Option CD) (G n : Nat) : ∀ (k i : Nat) {g : GS}, Fr fK aKL g0 g → Fr fK aKL g0 (leR q G n k i g).2
  | 0, _, g, h => h.sA rfl
  | k + 1, i, g, h => by
    have h1 := kl_lrN q G n h
    unfold leR
    by_cases c : (itN (lrT q G) n (false, g)).1 = true
    · rw [if_pos c]; exact kl_leR q G n k (i + 1) h1
    · rw [if_neg c]; exact h1
theorem kl_leA {g : GS} (j b : Int32) (q q2 : Option CD) (T G n : Nat) : Fr fK aKL g (leA g j b q q2 T G n).2 := kl_leR q2 G n 61 0 ((kf_lb (kf_se (Fr.rf : KF g g) j b q T)).mono (fun _ _ e => e) aKL_K)
theorem BkQ.tr {g g' : GS} {W : Nat → Int32} (h : BkQ g W) (h1 : gA g' 21 = gA g 21) (h2 : gA g' 22 = gA g 22) (h3 : gA g' 23 = gA g 23) (h4 : gA g' 24 = gA g 24) (h5 : gA g' 25 = gA g 25) (hF : gF g' 20 = gF g 20) : BkQ g' W := by
  unfold BkQ ChQ at *
  rw [h1, h2, h3, h4, h5, hF]; exact h
theorem fZ_K (c k : Nat) (h : fZ c k = false) : fK c k = false := fRl_K c k (Bool.or_eq_false_iff.mp h).1
theorem fZ_Q (c k : Nat) (h : fZ c k = false) : fQ c k = false := fRl_Q c k (Bool.or_eq_false_iff.mp h).1
theorem aZ_KL (c : Nat) (h : aZ c = false) : aKL c = false := by
  have h1 := Bool.or_eq_false_iff.mp h
  have h2 := Bool.or_eq_false_iff.mp h1.2
  refine Bool.or_eq_false_iff.mpr ⟨aRl_K c h1.1, ?_⟩
  cases x : Nat.beq c 25
  · rfl
  · rw [Nat.eq_of_beq_eq_true x] at h2; exact absurd h2.1 (by decide)
theorem aZ_Q64 (c : Nat) (h : aZ c = false) : aQ64 c = false := by
  have h1 := Bool.or_eq_false_iff.mp h
  exact Bool.or_eq_false_iff.mpr ⟨aRl_Q c h1.1, (Bool.or_eq_false_iff.mp h1.2).2⟩
theorem al_learn {K : Nat} {g : GS} (h : Rel K g) (jd b : Int32) : Ct mX11_learn (rm 8 2 12) [.ref 0, .int jd, .int b] (Wd g) (PLi [x_iob, x_iae] (fun kk vv gg => ∀ w, Ct mX12_learn (rm 7 0 0) [.ref 63, .int jd, .int b] (Wd (sB gg 82 w)) (RXi (AlI K kk vv w)))) := by
  obtain ⟨gl, rl, q, hw, hb, hC, hQ⟩ := h.cq
  have hq : BkQ g (gA g 64) := hb.1
  have e11 : gF g 20 11 = nI (mN (gA g 64)) := hq.2.2.2.2.2.2.1.trans hw.1.2.2.2.2.2.1.2
  obtain ⟨q2, hj2⟩ := Rel.jd hw hb jd
  have hm : ∀ g', gA g' 64 = gA g 64 → Ct mX12_learn (rm 7 0 0) [.ref 63, .int jd, .int b] (Wd g') (PQi g' [(wMj (gA g 64) jd, 1), (fMb jd b, 2)] (fun x g2 => x = (lnF gl rl (gA g 64 6) jd b (gA g 64) 61 0 (gA g 64)).1 ∧ gA g2 64 = (lnF gl rl (gA g 64 6) jd b (gA g 64) 61 0 (gA g 64)).2 ∧ Fr fQ aQ64 g' g2 ∧ gF g2 63 0 = 0)) := fun g' e => by
    have t := ct_m_learn g' gl rl (by rw [e]; exact hw.2.2.1) jd b
    rw [e] at t
    exact t
  have hk := kl_leA (g := g) jd b q q2 (mT (gA g 64)) (mG (gA g 64)) (mN (gA g 64))
  refine al_g (E := [x_iob, x_iae]) (l := [(fJu g jd, 0), (fBa jd b, 1)]) h (ct_learn g jd b q q2 _ _ _ hC hw.n6 e11 (fun x => (hj2 x).1)) (ll rfl) (by decide) hm (hk.2.1 64 rfl) ?_ (fun hn w x g2 hp => ?_)
  · simp only [c_ju hq hw, c_ba]
    generalize wMj (gA g 64) jd = b0
    generalize fMb jd b = b1
    cases b0 <;> cases b1 <;> rfl
  · obtain ⟨h1, hn1⟩ := gn hn
    obtain ⟨ja2, jb2, jc2⟩ := hj2 h1
    obtain ⟨v1, v2, v3, v4, v5⟩ := v_learn hQ jb2 b
    obtain ⟨p1, p2, p3, p4⟩ := hp
    have fr : Fr fZ aZ g g2 := ((hk.mono fZ_K aZ_KL).sB rfl).tr (p3.mono fZ_Q aZ_Q64)
    refine ⟨v1.trans p1.symm, p4, h.mk2 fr ⟨gl, rl, ?_, ?_⟩ (fun s hs => ?_), p3.2.2.1 82 rfl⟩
    · rw [p2]; exact hw.eq v3 v5
    · rw [p2]
      have u := v2.tr (g' := g2) (p3.2.1 21 rfl) (p3.2.1 22 rfl) (p3.2.1 23 rfl) (p3.2.1 24 rfl) (p3.2.1 25 rfl) (funext fun k => p3.1 20 k rfl)
      exact hb.w u ((p3.1 20 8 rfl).trans (hk.1 20 8 rfl)) ((p3.2.2.2.1 20 7 rfl).trans (hk.2.2.2.1 20 7 rfl)) ((p3.2.2.2.2.1 29 rfl).trans (hk.2.2.2.2.1 29 rfl)) fr.2.2.2.2.2 (v5.lo (by omega)) (v5.lo (by omega)) (v5.hi (by omega))
    · rw [p3.2.1 50 rfl, p3.2.1 59 rfl]; exact v4 s hs
