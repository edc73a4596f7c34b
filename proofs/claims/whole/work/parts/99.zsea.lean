
/-! seasons -/
theorem WB.rtk {W : Nat → Int32} (hW : WB W) : RTK W := by
  intro n hn
  have hk : n / 32 < mN W := by omega
  have h := (hW.2.2.2.2.2.2.1 (n / 32) hk).2.2 (n % 32) (by omega)
  refine ⟨(zW W (1106 + 34 * (n / 32) + (2 + n % 32))).toNat, by omega, ?_⟩
  rw [← zW_I W (1106 + 34 * (n / 32) + (2 + n % 32)), zI_n]
  congr 1
  omega
theorem rate_p {g : GS} {W : Nat → Int32} (h : BkQ g W) (hW : WB W) {p : Nat} (hp : p < 32 * mN W) : gA g 25 p = nI (rtN W p) ∧ rtN W p ≤ 999 := by
  have r := hW.rtk.n hp
  have e := (h.2.2.1 (p / 32) (by omega)).2.2 (p % 32) (by omega)
  rw [show 32 * (p / 32) + p % 32 = p by omega] at e
  exact ⟨e.trans r.2, r.1⟩
theorem rtS_mono {W : Nat → Int32} {a b : Nat} (h : a ≤ b) : rtS W a ≤ rtS W b := by
  induction b with
  | zero => rw [show a = 0 by omega]; exact Nat.le_refl _
  | succ b ih =>
    by_cases c : a = b + 1
    · rw [c]; exact Nat.le_refl _
    · have h1 := ih (by omega)
      show _ ≤ rtS W b + rtN W b
      omega
theorem rhR_z {g : GS} {W : Nat → Int32} (h : BkQ g W) (hW : WB W) : ∀ (d p a l : Nat), p + d = 192 → p ≤ 32 * mN W → a + l ≤ 1000000 → l < rtS W (32 * mN W) - rtS W p → rhR g (nI (a + l)) d p (nI a) = nI (rtF W (32 * mN W - p) p l) ∧ rtF W (32 * mN W - p) p l < 32 * mN W
  | 0, p, a, l, hp, hN, hal, hl => by
    have h6 := hW.2.2.2.2.2.1.1
    have : 32 * mN W = p := by omega
    rw [this] at hl; omega
  | d + 1, p, a, l, hp, hN, hal, hl => by
    have hlt : p < 32 * mN W := by
      have : ¬ p = 32 * mN W := fun z => by rw [z] at hl; omega
      omega
    obtain ⟨e, r9⟩ := rate_p h hW hlt
    have hk : 32 * mN W - p = (32 * mN W - (p + 1)) + 1 := by omega
    have eS : rtS W (p + 1) = rtS W p + rtN W p := rfl
    have mS := rtS_mono (W := W) (show p + 1 ≤ 32 * mN W by omega)
    rw [hk]
    unfold rhR rtF
    rw [e, show nI a + nI (rtN W p) = nI (a + rtN W p) from nIa rfl rfl]
    by_cases c : l < rtN W p
    · rw [if_neg (fun z => by have := nI_led (by omega) (by omega) z; omega), if_pos c]
      exact ⟨rfl, hlt⟩
    · rw [if_pos (nI_le_n (by omega) (by omega)), if_neg c]
      have ih := rhR_z h hW d (p + 1) (a + rtN W p) (l - rtN W p) (by omega) (by omega) (by omega) (by omega)
      rw [show a + rtN W p + (l - rtN W p) = a + l by omega] at ih
      exact ih
theorem rr_z {g : GS} {W : Nat → Int32} (h : BkQ g W) (hW : WB W) : bk_rr g 20 (mN W) = nI (rtS W (32 * mN W)) ∧ bk_rr g 20 (mN W) = sI (wRs W) (mN W) := by
  have e : bk_rr g 20 (mN W) = sI (wRs W) (mN W) := sIc (mN W) (fun k hk => bk_rs_z h hW hk)
  exact ⟨e.trans (rt_all hW.rtk (mN W) (Nat.le_refl _)), e⟩
theorem camG_v (c : Nat → Int32) {u : Nat} (hu : u < 400) {w : Nat} (hw : w ≤ 4) : camG c u w = if w = 4 then c 4 + nI (u % 100) else if w = u / 100 then c w + 1 else c w := by
  unfold camG camU
  by_cases h4 : w = 4
  · subst h4
    rw [upd_here, if_pos rfl, upd_other (show ¬ 4 = u / 100 by omega)]
  · rw [upd_other h4, if_neg h4]
    by_cases h5 : w = u / 100
    · rw [if_pos h5, h5, upd_here]
    · rw [if_neg h5, upd_other h5]
theorem BO.pl {g g' : GS} {W : Nat → Int32} {gl : List TxL} {rl : Nat → List TxL} {m : Int32} {T G : Nat} {jd b : Int32} {q : Option CD} (h : BO g W gl rl m T G jd b q) (hf : Fr fPl aNo g g') (hk : KF g g') : BO g' W gl rl m T G jd b q := by
  refine ⟨h.1.fr (fun c _ => hf.2.1 c rfl) (hf.1 40 13 rfl) (fun i _ => by rw [hf.2.1 48 rfl]), h.2.1.kf hk, (hf.1 40 12 rfl).trans h.2.2.1, h.2.2.2.1.fr (hf.1 40 8 rfl) (hf.1 40 9 rfl) (hf.1 40 10 rfl) (hf.1 40 11 rfl), ?_⟩
  intro s hs
  rw [hf.2.1 50 rfl, hf.2.1 59 rfl]; exact h.2.2.2.2 s hs
theorem sn_z {g : GS} {W : Nat → Int32} {gl : List TxL} {rl : Nat → List TxL} {jd b : Int32} {q2 : Option CD} (h : BO g W gl rl (W 6) (mT W) (mG W) jd b q2) (hW : WB W) (hjd : jdOK W jd) (hko : KOK W rl) (hpos : 0 < rtS W (32 * mN W)) {x : Int32} (hx : gF g 58 7 = x) :
    ∃ c e : Nat, c ≤ 3 ∧ e ≤ 60 ∧ gF (snG q2 (mG W) (mT W) (nI (rtS W (32 * mN W))) g) 58 8 = nI c ∧ gF (snG q2 (mG W) (mT W) (nI (rtS W (32 * mN W))) g) 58 9 = nI e ∧ (msnR W gl rl jd b x).1 = nI (100 * c + e) ∧ gF (snG q2 (mG W) (mT W) (nI (rtS W (32 * mN W))) g) 58 7 = (msnR W gl rl jd b x).2 ∧ BO (snG q2 (mG W) (mT W) (nI (rtS W (32 * mN W))) g) W gl rl (W 6) (mT W) (mG W) jd b q2 := by
  have h6 := hW.2.2.2.2.2.1.1
  have hS := rtS_le hW.rtk (32 * mN W) (Nat.le_refl _)
  obtain ⟨u, hu, eu⟩ := drV_nat x
  have h1 : BO (cdrG g) W gl rl (W 6) (mT W) (mG W) jd b q2 := h.pl (Fr.rf.sF (c := 58) (k := 7) rfl) (Fr.rf.sF rfl)
  have eV : cdrV g (nI (rtS W (32 * mN W))) = nI (u % rtS W (32 * mN W)) := by
    rw [(cdr_z hx).2, if_neg (fun z => by have := Int32.le_iff_toInt_le.mp z; rw [nI_toInt (by omega), Int32.toInt_zero] at this; omega)]
    exact nIr (by omega) (by omega) eu rfl
  have hl : u % rtS W (32 * mN W) < rtS W (32 * mN W) := Nat.mod_lt _ hpos
  obtain ⟨r1, r2⟩ := rhR_z h1.2.1 hW 192 0 0 (u % rtS W (32 * mN W)) (by omega) (Nat.zero_le _) (by omega) (by show _ < rtS W (32 * mN W) - 0; omega)
  rw [Nat.zero_add, Nat.sub_zero] at r1
  rw [Nat.sub_zero] at r2
  have eP : snP g (nI (rtS W (32 * mN W))) = nI (msnP W x) := by
    unfold snP msnP
    rw [eV, show (0 : Int32) = nI 0 from rfl, r1, eu, nN_nI (by omega)]
  have hp : msnP W x < 32 * mN W := by
    unfold msnP
    rw [eu, nN_nI (by omega)]; exact r2
  have e1 : nI (msnP W x) / 32 = nI (msnP W x / 32) := nId (by omega) (by omega) rfl (nIc 32)
  have e2 : nI (msnP W x) - nI (msnP W x) / 32 * 32 = nI (msnP W x % 32) := nIr (by omega) (by omega) rfl (nIc 32)
  have e3 : nI (msnP W x % 32) / 4 = nI (msnP W x % 32 / 4) := nId (by omega) (by omega) rfl (nIc 4)
  have hk : msnP W x / 32 < mN W := by omega
  have hz : msnP W x % 32 / 4 < 8 := by omega
  obtain ⟨l1, l2⟩ := h1.lay hW (Nat.le_refl _) hW.G hk hz (hW.to hk) (bk_cn_z h1.2.1 hW hk)
  have e13 : gF (lyAll (cdrG g) (nI (msnP W x / 32)) (nI (msnP W x % 32 / 4)) (bk_cn (cdrG g) 20 (nI (msnP W x / 32))) q2 (mG W)) 20 13 = nI (mT W) := by rw [l1.2.1.2.2.2.2.2.2.2.2.1]; exact hW.2.2.2.2.2.2.2.2.2.2.1.2.2
  have hP : PlH (sF (lyAll (cdrG g) (nI (msnP W x / 32)) (nI (msnP W x % 32 / 4)) (bk_cn (cdrG g) 20 (nI (msnP W x / 32))) q2 (mG W)) 58 8 3) W (ja (mJP W gl rl (W 6) (msnP W x / 32) (msnP W x % 32 / 4) (wTo W (msnP W x / 32)) jd b (mG W))) (mT W) (mG W) := ⟨l1.1.1, e13, fun j s hj hs => l2.de hW.G hj hs⟩
  have hx2 : gF (sF (lyAll (cdrG g) (nI (msnP W x / 32)) (nI (msnP W x % 32 / 4)) (bk_cn (cdrG g) 20 (nI (msnP W x / 32))) q2 (mG W)) 58 8 3) 58 7 = mrS x := ((ly_59 _ _ _ _ _ _).2 7).trans (cdr_z hx).1
  obtain ⟨c, e, s1, s2, s3, s4, s5, s6, s7⟩ := plR_z hW.1 hW.T hW.G (fun j s _ _ => ja_012 hW.2.2.2.2.2.2.2.2.2.2.2.1.1 hjd hko j s) (fun s _ => ja_end hW.2.2.2.2.2.2.2.2.2.2.2.1.1 hjd hko s) (mT W) 0 (msnP W x % 32) false (mrS x) _ (by omega) (show msnP W x % 32 < 32 by omega) hP hx2 rfl (Or.inl (Nat.zero_le _))
  have eG : snG q2 (mG W) (mT W) (nI (rtS W (32 * mN W))) g = plR (mT W + 1) 0 (nI (msnP W x % 32)) 1 (sF (lyAll (cdrG g) (nI (msnP W x / 32)) (nI (msnP W x % 32 / 4)) (bk_cn (cdrG g) 20 (nI (msnP W x / 32))) q2 (mG W)) 58 8 3) := by
    unfold snG
    rw [eP, e2, e1, e3]
  rw [eG]
  exact ⟨c, e, s1, s2, s3, s4, s5, s6, (l1.pl (Fr.rf.sF (c := 58) (k := 8) rfl) (Fr.rf.sF rfl)).pl s7 (kf_pl _ _ _ _ Fr.rf)⟩
theorem snR_z {W : Nat → Int32} {gl : List TxL} {rl : Nat → List TxL} {jd b : Int32} {q2 : Option CD} (hW : WB W) (hjd : jdOK W jd) (hko : KOK W rl) (hpos : 0 < rtS W (32 * mN W)) (seed : Int32) {w : Nat} (hw : w ≤ 4) : ∀ (k n : Nat) {g : GS} {told : Int32}, BO g W gl rl (W 6) (mT W) (mG W) jd b q2 → gF g 58 7 = (msnN W gl rl jd b seed n).2 → told = (msnN W gl rl jd b seed n).1 w →
    (snR q2 (mG W) (mT W) (nI (rtS W (32 * mN W))) (nI w) k told g).1 = (msnN W gl rl jd b seed (n + k)).1 w ∧ Z0 (snR q2 (mG W) (mT W) (nI (rtS W (32 * mN W))) (nI w) k told g).2
  | 0, n, g, told, h, hx, ht => ⟨ht, h.2.2.2.2⟩
  | k + 1, n, g, told, h, hx, ht => by
    obtain ⟨c, e, s1, s2, s3, s4, s5, s6, s7⟩ := sn_z h hW hjd hko hpos hx
    have ih := snR_z hW hjd hko hpos seed hw k (n + 1) s7 s6 (told := snT (snG q2 (mG W) (mT W) (nI (rtS W (32 * mN W))) g) (nI w) told) ?_
    · rw [show n + (k + 1) = n + 1 + k by omega]; exact ih
    · show _ = camG (msnN W gl rl jd b seed n).1 (nN (msnR W gl rl jd b (msnN W gl rl jd b seed n).2).1) w
      rw [s5, nN_nI (by omega), camG_v _ (by omega) hw]
      unfold snT
      rw [s3, s4, ht, show (100 * c + e) % 100 = e by omega, show (100 * c + e) / 100 = c by omega]
      by_cases h4 : w = 4
      · subst h4; rw [if_neg (fun z => z rfl), if_pos rfl]
      · rw [if_pos (show ¬ nI w = 4 from nI_nq (b := 4) (by omega) (by omega) h4), if_neg h4]
        by_cases h5 : w = c
        · subst h5; rw [if_neg (fun z => z rfl), if_pos rfl]; rfl
        · rw [if_pos (nI_nq (by omega) (by omega) h5), if_neg h5]
theorem v_season {g : GS} {W : Nat → Int32} {gl : List TxL} {rl : Nat → List TxL} {q q2 : Option CD} (h : CQ g W gl q) {jd : Int32} (hj : JdQ q2 rl jd) (hjd : jdOK W jd) (hko : KOK W rl) (b seed : Int32) (hpos : ¬ sI (wRs W) (mN W) = 0) {k w : Nat} (hk : k ≤ 200) (hw : w ≤ 4) :
    (snA g jd b (nI k) seed (nI w) q q2 (mT W) (mG W) (mN W)).1 = (msnN W gl rl jd b seed k).1 w ∧ Z0 (snA g jd b (nI k) seed (nI w) q q2 (mT W) (mG W) (mN W)).2 := by
  have hr := rr_z h.1 h.2.1
  have hp : 0 < rtS W (32 * mN W) := by
    have : ¬ rtS W (32 * mN W) = 0 := fun z => by
      rw [← hr.2, hr.1, z] at hpos; exact hpos rfl
    omega
  have hB := (seG_B h hj b).pl (g' := sF (seG g jd b q (mT W)) 58 7 seed) (Fr.rf.sF (c := 58) (k := 7) rfl) (Fr.rf.sF rfl)
  have r := snR_z h.2.1 hjd hko hp seed hw k 0 hB rfl (told := 0) rfl
  unfold snA
  rw [hr.1, show (nI k).toNatClampNeg = k from nN_nI (by omega)]
  rw [Nat.zero_add] at r
  exact r
