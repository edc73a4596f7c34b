
/-! how fouls end -/
def zGo (w : Int32) : Int := if ¬ w = 1 then 0 else 1000000
def zLo (w : Int32) : Int := if ¬ w = 2 then 0 else 1000000
def zSp (w : Int32) : Int := if ¬ w = 0 then 0 else 1000000
theorem zGo_b (w : Int32) : 0 ≤ zGo w ∧ zGo w ≤ 1000000 := by unfold zGo; split <;> omega
theorem zLo_b (w : Int32) : 0 ≤ zLo w ∧ zLo w ≤ 1000000 := by unfold zLo; split <;> omega
theorem zSp_b (w : Int32) : 0 ≤ zSp w ∧ zSp w ≤ 1000000 := by unfold zSp; split <;> omega
def zLw (o : Nat) (w : Int32) : Int := if o = 1 then zLo w else zSp w
theorem zLw_b (o : Nat) (w : Int32) : 0 ≤ zLw o w ∧ zLw o w ≤ 1000000 := by
  unfold zLw; split
  · exact zLo_b w
  · exact zSp_b w
theorem weD_z {W : Nat → Int32} (hc : CB W) {s : Nat} (hs : s < 32) {th : Nat → Int64} (ht : ∀ q, q < 32 → 0 ≤ (th q).toInt ∧ (th q).toInt ≤ 1000000) {o : Nat} (ho : o = 0 ∨ o = 1) (w : Int32) :
    weD W th s o w = zL (zMx W s (zGo w) (zLw o w) (fun q => (th q).toInt)) ∧ 0 ≤ (weD W th s o w).toInt ∧ (weD W th s o w).toInt ≤ 1000000 := by
  have hn := zNum_bd hc hs (lo := 0) (hi := 1000000) (a := zGo w) (b := zLw o w) (row := fun q => (th q).toInt) (zGo_b w) (zLw_b o w) ht
  have hst : -2147483648 ≤ zSt W s ∧ zSt W s ≤ 2147483647 := by
    have := hc s hs
    have h3 := zS_nn 34 (fun i hi => this.1 i hi)
    unfold zSt; omega
  have e : weD W th s o w = zL (zMx W s (zGo w) (zLw o w) (fun q => (th q).toInt)) := by
    unfold weD
    have hG : (if ¬ w = 1 then (0 : Int64) else 1000000 * (W (18 + 34 * s + 32)).toInt64) = zL (zC W s 32 * zGo w) := by
      unfold zGo
      by_cases c : ¬ w = 1
      · rw [if_pos c, if_pos c, Int.mul_zero]; rfl
      · rw [if_neg c, if_neg c, zW_L, Int.mul_comm, zL_mul]; rfl
    have hL : (if ¬ w = (if ¬ nI o = 1 then 0 else 2) then (0 : Int64) else 1000000 * (W (18 + 34 * s + 33)).toInt64) = zL (zC W s 33 * zLw o w) := by
      rcases ho with rfl | rfl
      · rw [show (if ¬ nI 0 = 1 then (0 : Int32) else 2) = 0 from rfl]
        show _ = zL (zC W s 33 * zSp w)
        unfold zSp
        by_cases c : ¬ w = 0
        · rw [if_pos c, if_pos c, Int.mul_zero]; rfl
        · rw [if_neg c, if_neg c, zW_L, Int.mul_comm, zL_mul]; rfl
      · rw [show (if ¬ nI 1 = 1 then (0 : Int32) else 2) = 2 from rfl]
        show _ = zL (zC W s 33 * zLo w)
        unfold zLo
        by_cases c : ¬ w = 2
        · rw [if_pos c, if_pos c, Int.mul_zero]; rfl
        · rw [if_neg c, if_neg c, zW_L, Int.mul_comm, zL_mul]; rfl
    have hs0 : (wSt W s).toInt64 * th s = zL (zSt W s * (th s).toInt) := by rw [wSt_z, zI_64 hst.1 hst.2, zL_mul, zL_of]
    rw [hG, hL, hs0, acL_z (h := fun q => zC W s q * (th q).toInt) 32 (fun i _ => by rw [zW_L, zL_mul, zL_of]; rfl), ← zL_add, ← zL_add]
    have en : zSt W s * (th s).toInt + zS (fun q => zC W s q * (th q).toInt) 32 + zC W s 32 * zGo w + zC W s 33 * zLw o w = zNum W s (zGo w) (zLw o w) (fun q => (th q).toInt) := by unfold zNum; dsimp only; omega
    rw [en]
    exact fdL_z (by omega) (by omega)
  have b := zMx_bd hc hs (lo := 0) (hi := 1000000) (a := zGo w) (b := zLw o w) (row := fun q => (th q).toInt) (zGo_b w) (zLw_b o w) ht
  refine ⟨e, ?_⟩
  rw [e, zL_T (by omega) (by omega)]; exact b
theorem eOn_b {W : Nat → Int32} (hc : CB W) (w : Int32) : ∀ t s, s < 32 → 0 ≤ (eOn W w t s).toInt ∧ (eOn W w t s).toInt ≤ 1000000
  | 0, s, _ => ⟨by show 0 ≤ (0 : Int64).toInt; decide, by show (0 : Int64).toInt ≤ _; decide⟩
  | t + 1, s, hs => by unfold eOn; exact (weD_z hc hs (fun q hq => eOn_b hc w t q hq) (Or.inr rfl) w).2
theorem eVa_b {a w : Int32} {x y : Int64} (hx : 0 ≤ x.toInt ∧ x.toInt ≤ 1000000) (hy : 0 ≤ y.toInt ∧ y.toInt ≤ 1000000) : 0 ≤ (eVa a w x y).toInt ∧ (eVa a w x y).toInt ≤ 1000000 := by
  unfold eVa
  split
  · split
    · exact hy
    · exact hx
  · split
    · exact ⟨by decide, by show (0 : Int64).toInt ≤ _; decide⟩
    · exact ⟨by decide, by show (1000000 : Int64).toInt ≤ _; decide⟩
theorem eW_b {W : Nat → Int32} (hc : CB W) (ac : Nat → Nat → Int32) (w : Int32) (T : Nat) : ∀ k s, s < 32 → 0 ≤ (eW W ac w T k s).toInt ∧ (eW W ac w T k s).toInt ≤ 1000000
  | 0, s, hs => eVa_b (eOn_b hc w 0 s hs) ⟨by decide, by decide⟩
  | k + 1, s, hs => eVa_b (eOn_b hc w (k + 1) s hs) (weD_z hc hs (fun q hq => eW_b hc ac w T k q hq) (Or.inl rfl) w).2
/-! the class's course: alone -/
def a59 (c : Nat) : Bool := Nat.beq c 59
def fAk (c k : Nat) : Bool := Nat.beq c 58 && (Nat.beq k 4 || (Nat.beq k 5 || Nat.beq k 6))
def AkR (g : GS) (W : Nat → Int32) (w : Int32) (n : Nat) : Prop := ∀ t s, s < 32 → 32 * t + s < n → gA g 59 (32 * t + s) = zI (eOn W w t s).toInt
def AkF (g : GS) (w : Int32) : Prop := gF g 58 4 = zI (zSp w) ∧ gF g 58 5 = zI (zGo w) ∧ gF g 58 6 = zI (zLo w)
theorem akS_z {g : GS} {W : Nat → Int32} (hw : WyP g W) (h0 : CB W) {w : Int32} (hF : AkF g w) {t s : Nat} (ht : t < 60) (hs : s < 32) (h : AkR g W w (32 * (t + 1) + s)) : AkR (akS (t + 1) s g) W w (32 * (t + 1) + (s + 1)) := by
  have hm : mixI g 1952 (gA g 59) (nI s) ((nI (t + 1) - 1) * 32) (gF g 58 5) (gF g 58 6) = zI (eOn W w (t + 1) s).toInt := by
    have b := eOn_b h0 w
    have z := weD_z h0 hs (fun q hq => b t q hq) (Or.inr rfl) w
    have bm := zMx_bd h0 hs (lo := 0) (hi := 1000000) (a := zGo w) (b := zLw 1 w) (row := fun q => (eOn W w t q).toInt) (zGo_b w) (zLw_b 1 w) (fun q hq => b t q hq)
    rw [hF.2.1, hF.2.2]
    rw [mixI_b hw h0 hs (lo := 0) (hi := 1000000) (row := fun q => (eOn W w t q).toInt) (by omega) (by omega) (zGo_b w) (zLo_b w) (fun o ho => b t o ho) ?_]
    · show _ = zI (weD W (eOn W w t) s 1 w).toInt
      rw [z.1, zL_T (by omega) (by omega)]; rfl
    · intro o ho
      have e : (nI (t + 1) - 1) * 32 + nI o = nI (32 * t + o) := by
        rw [nIs (a := t + 1) (b := 1) (by omega) rfl (nIc 1), Nat.add_sub_cancel, i32m]
      rw [e, rAt_in (by omega) (by omega)]
      exact h t o ho (by omega)
  unfold akS
  rw [hm, i32m, rPut_in (by omega) (by omega)]
  intro t' s' hs' hn
  show (upd (gA g 59) (32 * (t + 1) + s) _) (32 * t' + s') = _
  by_cases c : 32 * t' + s' = 32 * (t + 1) + s
  · rw [c, upd_here]
    have e1 : t' = t + 1 := by omega
    have e2 : s' = s := by omega
    rw [e1, e2]
  · rw [upd_other c]; exact h t' s' hs' (by omega)
theorem WyP.f59 {g g' : GS} {W : Nat → Int32} (h : WyP g W) (hf : Fr f0 a59 g g') : WyP g' W := h.fr (hf.2.1 42 rfl) (hf.2.1 43 rfl) (hf.2.1 44 rfl) (hf.2.1 45 rfl) (hf.2.1 46 rfl) (hf.2.1 47 rfl)
theorem AkF.fr {g g' : GS} {w : Int32} (h : AkF g w) (h4 : gF g' 58 4 = gF g 58 4) (h5 : gF g' 58 5 = gF g 58 5) (h6 : gF g' 58 6 = gF g 58 6) : AkF g' w := ⟨h4.trans h.1, h5.trans h.2.1, h6.trans h.2.2⟩
theorem akT_z {g0 : GS} {W : Nat → Int32} (hw : WyP g0 W) (h0 : CB W) {w : Int32} (hF : AkF g0 w) {t : Nat} (ht : t < 60) {g : GS} (hf : Fr f0 a59 g0 g) (h : AkR g W w (32 * (t + 1))) : ∀ n, n ≤ 32 → Fr f0 a59 g0 (itN (akS (t + 1)) n g) ∧ AkR (itN (akS (t + 1)) n g) W w (32 * (t + 1) + n)
  | 0, _ => ⟨hf, h⟩
  | n + 1, hn => by
    obtain ⟨i1, i2⟩ := akT_z hw h0 hF ht hf h n (by omega)
    rw [itN_p]
    exact ⟨i1.sA rfl, akS_z (hw.f59 i1) h0 (hF.fr (i1.1 58 4 rfl) (i1.1 58 5 rfl) (i1.1 58 6 rfl)) ht (by omega) i2⟩
theorem akR_z {g : GS} {W : Nat → Int32} (hw : WyP g W) (h0 : CB W) {w : Int32} (hF : AkF g w) (hz : ∀ s, s < 32 → gA g 59 s = 0) : ∀ T, T ≤ 60 → Fr f0 a59 g (itN akT T g) ∧ AkR (itN akT T g) W w (32 * (T + 1))
  | 0, _ => ⟨Fr.rf, fun t s hs hn => by
      have e : t = 0 := by omega
      subst e
      rw [show 32 * 0 + s = s by omega, show itN akT 0 g = g from rfl, hz s hs]; rfl⟩
  | T + 1, hT => by
    obtain ⟨i1, i2⟩ := akR_z hw h0 hF hz T (by omega)
    rw [itN_p, akT_e]
    exact akT_z hw h0 hF (by omega) i1 i2 32 (Nat.le_refl _)
/-- asked for: what playing alone comes to -/
def AkS (g : GS) (W : Nat → Int32) (w : Int32) (T : Nat) : Prop := AkR g W w (32 * (T + 1)) ∧ AkF g w
theorem ak_z {g : GS} {W : Nat → Int32} {gl : List TxL} {rl : Nat → List TxL} {m : Int32} {T G : Nat} {jd b : Int32} {q : Option CD} (h : BO g W gl rl m T G jd b q) (hW : WB W) (w : Int32) {T' : Nat} (hT : T' ≤ 60) : AkS (akAll g w T') W w T' ∧ BO (akAll g w T') W gl rl m T G jd b q ∧ Fr fAk a59 g (akAll g w T') := by
  have hF : AkF (ak3 (ak2 (ak1 g w) w) w) w := by
    refine ⟨?_, ?_, ?_⟩
    · show (if ¬ w = 0 then (0 : Int32) else 1000000) = _
      unfold zSp; split <;> rfl
    · show (if ¬ w = 1 then (0 : Int32) else 1000000) = _
      unfold zGo; split <;> rfl
    · show (if ¬ w = 2 then (0 : Int32) else 1000000) = _
      unfold zLo; split <;> rfl
  have f1 : Fr fAk a59 g (ak3 (ak2 (ak1 g w) w) w) := ((Fr.rf.sF (c := 58) (k := 4) rfl).sF (c := 58) (k := 5) rfl).sF (c := 58) (k := 6) rfl
  have hw : WyP (ak3 (ak2 (ak1 g w) w) w) W := h.1.1.fr rfl rfl rfl rfl rfl rfl
  obtain ⟨r1, r2⟩ := akR_z hw hW.1 hF (fun s hs => (h.2.2.2.2 s hs).2) T' hT
  have f2 : Fr fAk a59 g (akAll g w T') := f1.tr (r1.mono (fun _ _ _ => rfl) (fun _ e => e))
  refine ⟨⟨r2, hF.fr (r1.1 58 4 rfl) (r1.1 58 5 rfl) (r1.1 58 6 rfl)⟩, ⟨?_, h.2.1.kf (kf_ak Fr.rf w T'), (f2.1 40 12 rfl).trans h.2.2.1, h.2.2.2.1.fr (f2.1 40 8 rfl) (f2.1 40 9 rfl) (f2.1 40 10 rfl) (f2.1 40 11 rfl), ?_⟩, f2⟩
  · refine h.1.fr (fun c hc => ?_) (f2.1 40 13 rfl) (fun i _ => by rw [f2.2.1 48 rfl])
    rcases hc with rfl | rfl | rfl | rfl | rfl | rfl | rfl <;> exact f2.2.1 _ rfl
  · intro s hs
    refine ⟨by rw [f2.2.1 50 rfl]; exact (h.2.2.2.2 s hs).1, ?_⟩
    have := r2 0 s hs (by omega)
    rw [show 32 * 0 + s = s by omega] at this
    exact this.trans rfl
/-! watched -/
def a60 (c : Nat) : Bool := Nat.beq c 60
def ShI (g : GS) (W : Nat → Int32) (ac : Nat → Nat → Int32) (w : Int32) (T M j s : Nat) : Prop := ∀ j' s', j' ≤ M → s' < 32 → (j < j' ∨ j' = j ∧ s' < s) → gA g 60 (32 * j' + s') = zI (eW W ac w T (T - j') s').toInt
theorem shI_z {g : GS} {W : Nat → Int32} {ac : Nat → Nat → Int32} {w : Int32} {T G : Nat} (hw : WyP g W) (h0 : CB W) (hA : AkS g W w T) (h13 : gF g 20 13 = nI T) (hT : T ≤ 60) (hG : G ≤ 10) (hac : ∀ j s, j ≤ G → s < 32 → deI g (nI j) (nI s) = ac j s) (hend : ∀ s, s < 32 → ac G s = 0 ∨ ac G s = 1) {j s : Nat} (hj : j ≤ min G T) (hs : s < 32) (h : ShI g W ac w T (min G T) j s) : shI g (nI j) (nI s) = zI (eW W ac w T (T - j) s).toInt := by
  have hjG : j ≤ G := by omega
  have hjT : j ≤ T := by omega
  unfold shI
  rw [hac j s hjG hs, eW_eq, show T - (T - j) = j by omega, h13, hA.2.1]
  unfold eVa
  by_cases c0 : ac j s = 0
  · rw [if_neg (fun x => x c0), if_neg (fun x => x c0)]
    unfold zSp
    by_cases c : ¬ w = 0
    · rw [if_pos c, if_pos c]; rfl
    · rw [if_neg c, if_neg c]; rfl
  · rw [if_pos c0, if_pos c0]
    have et : nI T - nI j = nI (T - j) := nIs hjT rfl rfl
    by_cases c1 : ac j s = 1
    · rw [if_neg (fun x => x c1), if_neg (fun x => x c1), et, i32m, rAt_in (by omega) (by omega)]
      exact hA.1 (T - j) s hs (by omega)
    · rw [if_pos c1, if_pos c1, et]
      by_cases ce : T = j
      · rw [if_pos (by rw [ce, Nat.sub_self]; decide), if_pos (by omega)]; rfl
      · have hlt : j < min G T := by
          have : ¬ j = G := fun x => by
            have := hend s hs
            rw [← x] at this
            rcases this with y | y
            · exact c0 y
            · exact c1 y
          omega
        rw [if_neg (fun z => by have := Int32.le_iff_toInt_le.mp z; rw [nI_toInt (by omega), Int32.toInt_zero] at this; omega), if_neg (by omega), hA.2.2.1]
        have b := eW_b h0 ac w T (T - (j + 1))
        have z := weD_z h0 hs (fun q hq => b q hq) (Or.inl rfl) w
        have bm := zMx_bd h0 hs (lo := 0) (hi := 1000000) (a := zGo w) (b := zLw 0 w) (row := fun q => (eW W ac w T (T - (j + 1)) q).toInt) (zGo_b w) (zLw_b 0 w) (fun q hq => b q hq)
        rw [mixI_b hw h0 hs (lo := 0) (hi := 1000000) (row := fun q => (eW W ac w T (T - (j + 1)) q).toInt) (by omega) (by omega) (zGo_b w) (zSp_b w) (fun o ho => b o ho) ?_]
        · rw [show T - j - 1 = T - (j + 1) by omega, z.1, zL_T (by omega) (by omega)]; rfl
        · intro o ho
          have e : (nI j + 1) * 32 + nI o = nI (32 * (j + 1) + o) := by rw [show nI j + 1 = nI (j + 1) from nI_s _, i32m]
          rw [e, rAt_in (by omega) (by omega)]
          exact h (j + 1) o (by omega) ho (Or.inl (by omega))
/-- what the bench and the course hold while it is told -/
def ShH (g : GS) (W : Nat → Int32) (ac : Nat → Nat → Int32) (w : Int32) (T G : Nat) : Prop := WyP g W ∧ AkS g W w T ∧ gF g 20 13 = nI T ∧ ∀ j s, j ≤ G → s < 32 → deI g (nI j) (nI s) = ac j s
theorem ShH.fr {g g' : GS} {W : Nat → Int32} {ac : Nat → Nat → Int32} {w : Int32} {T G : Nat} (h : ShH g W ac w T G) (hf : Fr f0 a60 g g') : ShH g' W ac w T G := by
  refine ⟨h.1.fr (hf.2.1 42 rfl) (hf.2.1 43 rfl) (hf.2.1 44 rfl) (hf.2.1 45 rfl) (hf.2.1 46 rfl) (hf.2.1 47 rfl), ⟨?_, h.2.1.2.fr (hf.1 58 4 rfl) (hf.1 58 5 rfl) (hf.1 58 6 rfl)⟩, (hf.1 20 13 rfl).trans h.2.2.1, ?_⟩
  · unfold AkR; rw [hf.2.1 59 rfl]; exact h.2.1.1
  · intro j s hj hs
    unfold deI
    rw [hf.2.1 52 rfl]; exact h.2.2.2 j s hj hs
theorem shRow_z {W : Nat → Int32} {ac : Nat → Nat → Int32} {w : Int32} {T G : Nat} (h0 : CB W) (hT : T ≤ 60) (hG : G ≤ 10) (hend : ∀ s, s < 32 → ac G s = 0 ∨ ac G s = 1) {j : Nat} (hj : j ≤ min G T) {g : GS} (hH : ShH g W ac w T G) (h : ShI g W ac w T (min G T) j 0) : ∀ n, n ≤ 32 → Fr f0 a60 g (itN (shS j) n g) ∧ ShI (itN (shS j) n g) W ac w T (min G T) j n
  | 0, _ => ⟨Fr.rf, h⟩
  | n + 1, hn => by
    obtain ⟨i1, i2⟩ := shRow_z h0 hT hG hend hj hH h n (by omega)
    have hH' := hH.fr i1
    rw [itN_p]
    generalize itN (shS j) n g = g1 at i1 i2 hH'
    have e := shI_z hH'.1 h0 hH'.2.1 hH'.2.2.1 hT hG hH'.2.2.2 hend hj (show n < 32 by omega) i2
    refine ⟨i1.sA rfl, ?_⟩
    intro j' s' hj' hs' hc
    show (rPut 352 (gA g1 60) (nI j * 32 + nI n) (shI g1 (nI j) (nI n))) (32 * j' + s') = _
    rw [e, i32m, rPut_in (by omega) (by omega)]
    by_cases c : 32 * j' + s' = 32 * j + n
    · rw [c, upd_here]
      have e1 : j' = j := by omega
      have e2 : s' = n := by omega
      rw [e1, e2]
    · rw [upd_other c]; exact i2 j' s' hj' hs' (by omega)
theorem shD_z {W : Nat → Int32} {ac : Nat → Nat → Int32} {w : Int32} {T G : Nat} (h0 : CB W) (hT : T ≤ 60) (hG : G ≤ 10) (hend : ∀ s, s < 32 → ac G s = 0 ∨ ac G s = 1) : ∀ (j : Nat) {g : GS}, j ≤ min G T → ShH g W ac w T G → ShI g W ac w T (min G T) j 0 → Fr f0 a60 g (shD j g) ∧ ∀ s, s < 32 → gA (shD j g) 60 s = zI (eW W ac w T T s).toInt
  | 0, g, hj, hH, h => by
    obtain ⟨i1, i2⟩ := shRow_z h0 hT hG hend hj hH h 32 (Nat.le_refl _)
    rw [shD_0]
    refine ⟨i1, fun s hs => ?_⟩
    have := i2 0 s (Nat.zero_le _) hs (Or.inr ⟨rfl, hs⟩)
    rwa [show 32 * 0 + s = s by omega, Nat.sub_zero] at this
  | j + 1, g, hj, hH, h => by
    obtain ⟨i1, i2⟩ := shRow_z h0 hT hG hend hj hH h 32 (Nat.le_refl _)
    rw [shD_s]
    obtain ⟨k1, k2⟩ := shD_z h0 hT hG hend j (show j ≤ min G T by omega) (hH.fr i1) (fun j' s' a b c => i2 j' s' a b (by omega))
    exact ⟨i1.tr k1, k2⟩
theorem ja_012 {W : Nat → Int32} {gl : List TxL} {rl : Nat → List TxL} {m : Int32} {k z : Nat} {told jd b : Int32} {G : Nat} (hR : mR W ≤ 4) (hj : jdOK W jd) (hk : KOK W rl) (j s : Nat) : ja (mJP W gl rl m k z told jd b G) j s = 0 ∨ ja (mJP W gl rl m k z told jd b G) j s = 1 ∨ ja (mJP W gl rl m k z told jd b G) j s = 2 := by
  have h := ja_kind (gl := gl) (m := m) (k := k) (z := z) (told := told) (b := b) (G := G) hR hj hk (jG (mJP W gl rl m k z told jd b G) - (jG (mJP W gl rl m k z told jd b G) - j)) s (decide (jG (mJP W gl rl m k z told jd b G) - j = 0)) (jWt (mJP W gl rl m k z told jd b G) (jG (mJP W gl rl m k z told jd b G) - j) s)
  unfold ja
  rw [jAc_eq]
  have key : ∀ (e : Bool) (a : Int32), a = 0 ∨ a = 1 ∨ a = 2 → mA3 e a = 0 ∨ mA3 e a = 1 ∨ mA3 e a = 2 := by
    intro e a ha
    rcases ha with rfl | rfl | rfl <;> cases e <;> decide
  exact key _ _ h
/-- the class's shares of a laid FOUL -/
theorem sh_z {g : GS} {W : Nat → Int32} {gl : List TxL} {rl : Nat → List TxL} {m : Int32} {T : Nat} {jd b : Int32} {q : Option CD} (h : BO g W gl rl m T (mG W) jd b q) (hW : WB W) {P : JP} (hP : jG P = mG W) (hL : LyS g P) (hend : ∀ s, s < 32 → ja P (mG W) s = 0 ∨ ja P (mG W) s = 1) {w : Int32} (hA : AkS g W w (mT W)) :
    (∀ s, s < 32 → gA (shD (min (mG W) (mT W)) g) 60 s = zI (eW W (ja P) w (mT W) (mT W) s).toInt) ∧ BO (shD (min (mG W) (mT W)) g) W gl rl m T (mG W) jd b q ∧ AkS (shD (min (mG W) (mT W)) g) W w (mT W) := by
  have e13 : gF g 20 13 = nI (mT W) := by rw [h.2.1.2.2.2.2.2.2.2.2.1]; exact hW.2.2.2.2.2.2.2.2.2.2.1.2.2
  have hH : ShH g W (ja P) w (mT W) (mG W) := ⟨h.1.1, hA, e13, fun j s hj hs => hL.de (by rw [hP]; exact hW.G) (by rw [hP]; exact hj) hs⟩
  obtain ⟨r1, r2⟩ := shD_z hW.1 hW.T hW.G hend (min (mG W) (mT W)) (Nat.le_refl _) hH (fun j' s' a b c => by omega)
  refine ⟨r2, ⟨?_, h.2.1.kf (kf_sh _ Fr.rf), (r1.1 40 12 rfl).trans h.2.2.1, h.2.2.2.1.fr (r1.1 40 8 rfl) (r1.1 40 9 rfl) (r1.1 40 10 rfl) (r1.1 40 11 rfl), ?_⟩, (hH.fr r1).2.1⟩
  · refine h.1.fr (fun c hc => ?_) (r1.1 40 13 rfl) (fun i _ => by rw [r1.2.1 48 rfl])
    rcases hc with rfl | rfl | rfl | rfl | rfl | rfl | rfl <;> exact r1.2.1 _ rfl
  · intro s hs
    rw [r1.2.1 50 rfl, r1.2.1 59 rfl]; exact h.2.2.2.2 s hs
theorem v_ends {g : GS} {W : Nat → Int32} {gl : List TxL} {rl : Nat → List TxL} {q q2 : Option CD} (h : CQ g W gl q) {jd : Int32} (hj : JdQ q2 rl jd) (hjd : jdOK W jd) (hko : KOK W rl) (b w : Int32) {k z s : Nat} (hk : k < mN W) (hz : z < 8) (hs : s < 32) :
    sfI (enG g jd b (nI k) (nI z) w q q2 (mT W) (mG W)) (nI s) = (eW W (ja (mJP W gl rl (W 6) k z (wTo W k) jd b (mG W))) w (mT W) (mT W) s).toInt32 ∧ Z0 (enG g jd b (nI k) (nI z) w q q2 (mT W) (mG W)) := by
  have hW := h.2.1
  obtain ⟨b1, l1⟩ := st_z h (rl := rl) hj b hk hz
  obtain ⟨a1, a2, a3⟩ := ak_z b1 hW w hW.T
  have l2 : LyS (akAll (stG g jd b (nI k) (nI z) q q2 (mT W) (mG W)) w (mT W)) (mJP W gl rl (W 6) k z (wTo W k) jd b (mG W)) := fun j s hj hs => by
    rw [a3.2.1 51 rfl, a3.2.1 52 rfl]; exact l1 j s hj hs
  obtain ⟨s1, s2, -⟩ := sh_z a2 hW rfl l2 (fun s _ => ja_end hW.2.2.2.2.2.2.2.2.2.2.2.1.1 hjd hko s) a1
  have bd := eW_b hW.1 (ja (mJP W gl rl (W 6) k z (wTo W k) jd b (mG W))) w (mT W) (mT W) s hs
  refine ⟨?_, s2.2.2.2.2⟩
  unfold sfI enG
  rw [rAt_in (by omega) (by omega), s1 s hs, ← zL_of (eW W (ja (mJP W gl rl (W 6) k z (wTo W k) jd b (mG W))) w (mT W) (mT W) s), zL_32 (by omega) (by omega), zL_of]
