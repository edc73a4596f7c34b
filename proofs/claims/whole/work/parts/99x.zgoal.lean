theorem Fg.kT {g g1 : GS} (h : Fg g g1) (l : List ME) : Fg g (kT g1 l) := h.tr ⟨fun _ _ _ => rfl, fun _ _ => rfl, fun _ _ _ => rfl, fun _ _ => rfl, l, rfl⟩
theorem Fg.sV {g g1 : GS} (h : Fg g g1) {c k : Nat} {v : Value} (hc : fY c k = true) : Fg g (sV g1 c k v) := h.tr (Fg.of (f := fY) (a := aY) (Fr.rf.sV hc) (fun _ _ e => e) (fun _ e => e))
theorem Fg.sP {g g1 : GS} (h : Fg g g1) {c : Nat} {v : Nat → Option Nat} (hc : aY c = true) : Fg g (sP g1 c v) := h.tr (Fg.of (f := fY) (a := aY) (Fr.rf.sP hc) (fun _ _ e => e) (fun _ e => e))
theorem fMd_20 (k : Nat) : fMd 20 k = false := rfl
theorem go_core {K : Nat} {g gd g2 g4 : GS} {gl : List TxL} {rl : Nat → List TxL} {s : HC} {c0 : Nat} {cd : CD} {w : Nat → Int64} {l : List ME} (h : Rel K g) (hw : WR (gA g 64) gl rl) (hb : BkR g (gA g 64) gl rl) (f : Fg g gd) (f20 : ∀ k, ¬ k = 8 → gF gd 20 k = gF g 20 k) (f8 : gF gd 20 8 = 1) (fA : ∀ c, 21 ≤ c → c ≤ 25 → gA gd c = gA g c) (f64 : gA gd 64 = gA g 64) (fV : gV gd 20 7 = .ref c0) (fP : gP gd 29 = gP g 29) (fT : gT gd = gT g ++ l) (hl3 : l.length = 3) (fc : CodeT (gT gd) c0 cd) (hcd : CdOf cd s) (hgd : GdTx false s) (f11 : gF gd 1 1 = 0) (f77 : gF gd 7 7 = -1) (hz : Z0 gd)
    (m : Fr fMd aTg (sB gd 82 w) g4) (ml : Lo (gA gd 64) (gA g4 64)) (m5 : gF g4 63 5 = 0) (m10 : gF g4 63 10 = -1) (m0 : gF g4 63 0 = 0) (tx : TxQ false (gA g4 64) 5 s) (e2 : g2 = wU (kpG 4 g4) 3 1) : gF g2 63 0 = 0 ∧ gA g2 64 (1310 + 861 * 4) = nI s.1.length ∧ Rel (K + 3) g2 ∧ gB g2 82 = w := by
  have hn6 := hw.n6
  have hk := kpG_fr 4 g4
  have x : Fr f0 a64o g4 g2 := by rw [e2]; exact hk.sA rfl
  have eW : ∀ j, gA g2 64 j = if j = 3 then 1 else if 1310 + 861 * 4 ≤ j ∧ j < 1310 + 861 * 4 + 861 then gA g4 64 (1310 + 861 * 5 + (j - (1310 + 861 * 4))) else gA g4 64 j := fun j => by
    rw [e2]
    show (if j = 3 then 1 else gA (kpG 4 g4) 64 j) = _
    rw [kpG_at (by omega)]
  have lo : ∀ i, i < 1310 + 861 * 4 → ¬ i = 3 → gA g2 64 i = gA g 64 i := fun i h1 h2 => by
    rw [eW i, if_neg h2, if_neg (by omega), ml i (by omega), f64]
  have e3 : gA g2 64 3 = 1 := by rw [eW 3, if_pos rfl]
  have tx4 : TxQ false (gA g2 64) 4 s := tx.mv (fun i hi => by
    rw [eW _, if_neg (by omega), if_pos (by omega), show 1310 + 861 * 4 + i - (1310 + 861 * 4) = i by omega])
  have eR : mR (gA g2 64) = mR (gA g 64) := by unfold mR; rw [lo 1 (by omega) (by omega)]
  obtain ⟨hWB, hNZ⟩ := hw.1.tx (W' := gA g2 64) (fun i a _ b => lo i (by omega) b) (by rw [eR, lo 1 (by omega) (by omega)]; exact hw.1.2.2.2.2.2.2.2.2.2.2.2.1)
  obtain ⟨-, hnz, ⟨-, -, ⟨q1, q2, q3⟩, -, -, -⟩, hK⟩ := hw
  have A2 : ∀ c, a64o c = false → aTg c = false → gA g2 c = gA (sB gd 82 w) c := fun c h1 h2 => (x.2.1 c h1).trans (m.2.1 c h2)
  have g20 : ∀ k, gF g2 20 k = gF gd 20 k := fun k => (x.1 20 k rfl).trans (m.1 20 k rfl)
  have hT : gT g2 = gT gd := x.2.2.2.2.2.trans m.2.2.2.2.2
  refine ⟨(x.1 63 0 rfl).trans m0, tx4.1, h.mk3 ((f.sB (c := 82) (v := w) rfl).tr ((Fg.of m fMd_Y aTg_Y).tr (Fg.of x (fun _ _ _ => rfl) (fun c e => aY_of (a := a64o) ⟨rfl, rfl, rfl, rfl, rfl⟩ rfl rfl c e)))) ⟨lsW (gA g2 64) 4 s, rl, ?_, ?_⟩ (fun t ht => ?_) ⟨0, by omega, ?_, ?_, fun i hi => absurd hi (by omega)⟩ ?_ ?_, (x.2.2.1 82 rfl).trans (m.2.2.1 82 rfl)⟩
  · refine ⟨hWB, by rw [hNZ, lo 0 (by omega) (by omega)]; exact hnz, ⟨hWB.2.2.2.2.2.2.2.2.2.1, hWB.2.2.2.2.2.2.2.2.2.2.1, ⟨by rw [eR]; exact q1, by rw [eR, lo 1 (by omega) (by omega)]; exact q2, fun r hr => ?_⟩, hWB.2.2.2.2.2.1, fun _ => MTx_of tx4 hgd, GOK_of tx4 hgd⟩, fun r hr => ?_⟩
    · rw [eR] at hr
      exact (q3 r hr).cg (fun i a b => lo i (by omega) (by omega))
    · rw [eR] at hr; exact hK r hr
  · unfold BkR
    rw [A2 21 rfl rfl, A2 22 rfl rfl, A2 23 rfl rfl, A2 24 rfl rfl, A2 25 rfl rfl, x.2.2.2.1 20 7 rfl, m.2.2.2.1 20 7 rfl, x.2.2.2.2.1 29 rfl, m.2.2.2.2.1 29 rfl, hT]
    show BV (gF g2 20) (gA gd 21) (gA gd 22) (gA gd 23) (gA gd 24) (gA gd 25) (gV gd 20 7) (gP gd 29) (gT gd) (gA g2 64) (lsW (gA g2 64) 4 s) rl
    rw [fA 21 (by omega) (by omega), fA 22 (by omega) (by omega), fA 23 (by omega) (by omega), fA 24 (by omega) (by omega), fA 25 (by omega) (by omega), fV, fP]
    refine BV.tx hb hn6 (W' := gA g2 64) (fun i a _ b => lo i (by omega) b) (fun k a _ => (g20 k).trans (f20 k a)) ?_ (Or.inr ⟨e3, (g20 8).trans f8, c0, cd, rfl, fc, GolC_W hcd tx4 hgd, by rw [hcd.1]; exact tx4.1.symm⟩) (fun r hr => ?_) (fun i hi v hv => ?_)
    · rw [g20 10, f20 10 (by omega), lo 1 (by omega) (by omega)]; exact hb.1.2.2.2.2.2.1
    · rw [eR] at hr
      obtain ⟨c, cd', y1, y2, y3⟩ := hb.2.2.1 r hr
      exact ⟨c, cd', y1, by rw [fT]; exact y2.app l, y3⟩
    · obtain ⟨cd', y⟩ := hb.2.2.2 i hi v hv
      exact ⟨cd', by rw [fT]; exact y.app l⟩
  · rw [A2 50 rfl rfl, A2 59 rfl rfl]; exact hz t ht
  · exact ((x.1 1 1 rfl).trans (m.1 1 1 rfl)).trans f11
  · exact (x.1 63 5 rfl).trans m5
  · rw [x.1 7 7 rfl, m.1 7 7 rfl, x.1 63 10 rfl, m10]; exact f77
  · rw [hT, fT, List.length_append, hl3]; have := h.2.2.2.2.2.2; omega
theorem ru_core {K : Nat} {g gd g2 g4 : GS} {gl : List TxL} {rl : Nat → List TxL} {s : HC} {c0 R : Nat} {cd : CD} {w : Nat → Int64} {l : List ME} (h : Rel K g) (hw : WR (gA g 64) gl rl) (hb : BkR g (gA g 64) gl rl) (hR : mR (gA g 64) = R) (hR4 : R < 4) (f : Fg g gd) (f20 : ∀ k, ¬ k = 10 → gF gd 20 k = gF g 20 k) (f10 : gF gd 20 10 = nI (R + 1)) (fA : ∀ c, 21 ≤ c → c ≤ 25 → gA gd c = gA g c) (f64 : gA gd 64 = gA g 64) (fV : gV gd 20 7 = gV g 20 7) (fP : ∀ i, gP gd 29 i = if i = R then some c0 else gP g 29 i) (fT : gT gd = gT g ++ l) (hl3 : l.length = 3) (fc : CodeT (gT gd) c0 cd) (hcd : CdOf cd s) (hgd : GdTx true s) (f11 : gF gd 1 1 = 0) (f77 : gF gd 7 7 = -1) (hz : Z0 gd)
    (m : Fr fMd aTg (sB gd 82 w) g4) (ml : Lo (gA gd 64) (gA g4 64)) (m5 : gF g4 63 5 = 0) (m10 : gF g4 63 10 = -1) (m0 : gF g4 63 0 = 0) (tx : TxQ true (gA g4 64) 5 s) (e2 : g2 = wU (kpG R g4) 1 (nI (R + 1))) : gF g2 63 0 = 0 ∧ Rel (K + 3) g2 ∧ gB g2 82 = w := by
  have hn6 := hw.n6
  have hk := kpG_fr R g4
  have x : Fr f0 a64o g4 g2 := by rw [e2]; exact hk.sA rfl
  have eW : ∀ j, gA g2 64 j = if j = 1 then nI (R + 1) else if 1310 + 861 * R ≤ j ∧ j < 1310 + 861 * R + 861 then gA g4 64 (1310 + 861 * 5 + (j - (1310 + 861 * R))) else gA g4 64 j := fun j => by
    rw [e2]
    show (if j = 1 then nI (R + 1) else gA (kpG R g4) 64 j) = _
    rw [kpG_at (by omega)]
  have lo : ∀ i, i < 5615 → (i < 1310 + 861 * R ∨ 1310 + 861 * R + 861 ≤ i) → ¬ i = 1 → gA g2 64 i = gA g 64 i := fun i h1 h3 h2 => by
    rw [eW i, if_neg h2, if_neg (by omega), ml i (by omega), f64]
  have e1 : gA g2 64 1 = nI (R + 1) := by rw [eW 1, if_pos rfl]
  have tx4 : TxQ true (gA g2 64) R s := tx.mv (fun i hi => by
    rw [eW _, if_neg (by omega), if_pos (by omega), show 1310 + 861 * R + i - (1310 + 861 * R) = i by omega])
  have eR : mR (gA g2 64) = R + 1 := by unfold mR; rw [e1, nI_clamp (by omega)]
  obtain ⟨hWB, hNZ⟩ := hw.1.tx (W' := gA g2 64) (fun i a b _ => lo i (by omega) (by omega) b) (by rw [eR, e1]; exact ⟨by omega, rfl⟩)
  obtain ⟨-, hnz, ⟨-, -, ⟨q1, q2, q3⟩, -, q4, q5⟩, hK⟩ := hw
  have A2 : ∀ c, a64o c = false → aTg c = false → gA g2 c = gA (sB gd 82 w) c := fun c h1 h2 => (x.2.1 c h1).trans (m.2.1 c h2)
  have g20 : ∀ k, gF g2 20 k = gF gd 20 k := fun k => (x.1 20 k rfl).trans (m.1 20 k rfl)
  have hT : gT g2 = gT gd := x.2.2.2.2.2.trans m.2.2.2.2.2
  have e3 : gA g2 64 3 = gA g 64 3 := lo 3 (by omega) (by omega) (by omega)
  have rn : ∀ r, r < R → (fun r => if r = R then lsW (gA g2 64) R s else rl r) r = rl r := fun r hr => if_neg (by omega)
  have rR : (fun r => if r = R then lsW (gA g2 64) R s else rl r) R = lsW (gA g2 64) R s := if_pos rfl
  refine ⟨(x.1 63 0 rfl).trans m0, h.mk3 ((f.sB (c := 82) (v := w) rfl).tr ((Fg.of m fMd_Y aTg_Y).tr (Fg.of x (fun _ _ _ => rfl) (fun c e => aY_of (a := a64o) ⟨rfl, rfl, rfl, rfl, rfl⟩ rfl rfl c e)))) ⟨gl, fun r => if r = R then lsW (gA g2 64) R s else rl r, ?_, ?_⟩ (fun t ht => ?_) ⟨0, by omega, ?_, ?_, fun i hi => absurd hi (by omega)⟩ ?_ ?_, (x.2.2.1 82 rfl).trans (m.2.2.1 82 rfl)⟩
  · refine ⟨hWB, by rw [hNZ, lo 0 (by omega) (by omega) (by omega)]; exact hnz, ⟨hWB.2.2.2.2.2.2.2.2.2.1, hWB.2.2.2.2.2.2.2.2.2.2.1, ⟨by omega, by rw [eR]; exact e1, fun r hr => ?_⟩, hWB.2.2.2.2.2.1, fun hx => ?_, q5⟩, fun r hr => ?_⟩
    · rw [eR] at hr
      by_cases c : r = R
      · rw [c, rR]; exact MTx_of tx4 hgd
      · rw [rn r (by omega)]
        exact (q3 r (by omega)).cg (fun i a b => lo i (by omega) (by omega) (by omega))
    · rw [e3] at hx
      exact (q4 hx).cg (fun i a b => lo i (by omega) (by omega) (by omega))
    · rw [eR] at hr
      by_cases c : r = R
      · rw [c, rR]; exact KOK_of tx4 hgd
      · rw [rn r (by omega)]; exact hK r (by omega)
  · unfold BkR
    rw [A2 21 rfl rfl, A2 22 rfl rfl, A2 23 rfl rfl, A2 24 rfl rfl, A2 25 rfl rfl, x.2.2.2.1 20 7 rfl, m.2.2.2.1 20 7 rfl, x.2.2.2.2.1 29 rfl, m.2.2.2.2.1 29 rfl, hT]
    show BV (gF g2 20) (gA gd 21) (gA gd 22) (gA gd 23) (gA gd 24) (gA gd 25) (gV gd 20 7) (gP gd 29) (gT gd) (gA g2 64) gl _
    rw [fA 21 (by omega) (by omega), fA 22 (by omega) (by omega), fA 23 (by omega) (by omega), fA 24 (by omega) (by omega), fA 25 (by omega) (by omega)]
    refine BV.tx hb hn6 (W' := gA g2 64) (fun i a b _ => lo i (by omega) (by omega) b) (fun k _ b => (g20 k).trans (f20 k b)) ?_ ?_ (fun r hr => ?_) (fun i hi v hv => ?_)
    · rw [g20 10, f10, e1]
    · rw [e3, g20 8, f20 8 (by omega), fV, lo (1310 + 861 * 4) (by omega) (by omega) (by omega)]
      rcases hb.2.1 with y | ⟨y1, y2, c, cd', y3, y4, y5⟩
      · exact Or.inl y
      · exact Or.inr ⟨y1, y2, c, cd', y3, by rw [fT]; exact y4.app l, y5⟩
    · rw [eR] at hr
      by_cases c : r = R
      · rw [c, if_pos rfl]
        exact ⟨c0, cd, by rw [fP, if_pos rfl], fc, RulQ_W hcd tx4 hgd⟩
      · rw [if_neg c]
        obtain ⟨c', cd', y1, y2, y3⟩ := hb.2.2.1 r (by omega)
        exact ⟨c', cd', by rw [fP, if_neg c]; exact y1, by rw [fT]; exact y2.app l, y3⟩
    · rw [fP] at hv
      by_cases c : i = R
      · rw [if_pos c] at hv; cases hv; exact ⟨cd, fc⟩
      · rw [if_neg c] at hv
        obtain ⟨cd', y⟩ := hb.2.2.2 i hi v hv
        exact ⟨cd', by rw [fT]; exact y.app l⟩
  · rw [A2 50 rfl rfl, A2 59 rfl rfl]; exact hz t ht
  · exact ((x.1 1 1 rfl).trans (m.1 1 1 rfl)).trans f11
  · exact (x.1 63 5 rfl).trans m5
  · rw [x.1 7 7 rfl, m.1 7 7 rfl, x.1 63 10 rfl, m10]; exact f77
  · rw [hT, fT, List.length_append, hl3]; have := h.2.2.2.2.2.2; omega
