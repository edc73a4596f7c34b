
/-! the Model: texts -/
theorem nIdc {a : Nat} (h : 1 ≤ a) : nI a + Int32.ofInt (-1) = nI (a - 1) := by
  obtain ⟨b, rfl⟩ : ∃ b, a = b + 1 := ⟨a - 1, by omega⟩
  exact nI_m b
theorem nI_inj {a b : Nat} (ha : a < 2 ^ 31) (hb : b < 2 ^ 31) (h : nI a = nI b) : a = b := by
  have e := congrArg Int32.toInt h
  rw [nI_toInt ha, nI_toInt hb] at e; omega
theorem nI_ltd {a b : Nat} (ha : a < 2 ^ 31) (hb : b < 2 ^ 31) (h : nI a < nI b) : a < b := by
  rw [Int32.lt_iff_toInt_lt, nI_toInt ha, nI_toInt hb] at h; omega
theorem nI_led {a b : Nat} (ha : a < 2 ^ 31) (hb : b < 2 ^ 31) (h : nI a ≤ nI b) : a ≤ b := by
  rw [Int32.le_iff_toInt_le, nI_toInt ha, nI_toInt hb] at h; omega
abbrev SP : Type := Nat × Int32
def jnB (x a b : Int32) : Int32 := if ¬ x = 10 then (if ¬ x = 11 then (if ¬ x = 13 then (if a + b ≤ 0 then 0 else 1) else (if ¬ a + b = 2 then 0 else 1)) else (if a ≤ b then 0 else 1)) else (if b ≤ a then 0 else 1)
def jnI (x a b : Int32) : Int32 := if ¬ x = 9 then (if jnB x a b = 0 then 0 else 1) else a + b
def evP (F : Nat → Int32) (p : SP) (st : List Int32) : List Int32 :=
  if p.1 ≤ 8 then (if p.1 = 8 then p.2 else F p.1) :: st
  else if p.1 = 12 then (1 - st.getD 0 0) :: st.drop 1
  else jnI (nI p.1) (st.getD 1 0) (st.getD 0 0) :: st.drop 2
def evA (F : Nat → Int32) : List SP → List Int32 → List Int32
  | [], st => st
  | p :: r, st => evA F r (evP F p st)
def dpo : List SP → Nat → Prop
  | [], _ => True
  | p :: r, d => p.1 ≤ 14 ∧ (if p.1 ≤ 8 then d < 400 ∧ dpo r (d + 1) else if p.1 = 12 then 1 ≤ d ∧ dpo r d else 2 ≤ d ∧ dpo r (d - 1))
def stT (st : List Int32) : Bool := if st.length = 0 then true else if ¬ st.getD (st.length - 1) 0 = 1 then false else true
def txH (F : Nat → Int32) (ps : List SP) : Bool := stT (evA F ps [])
def MLine (W : Nat → Int32) (t n b : Nat) (ps : List SP) : Prop :=
  W (1310 + 861 * t + 1 + 5 * n + 3) = nI b ∧ W (1310 + 861 * t + 1 + 5 * n + 4) = nI (b + ps.length) ∧ b + ps.length ≤ 400 ∧ (∀ q, q < ps.length → W (1310 + 861 * t + 61 + 2 * (b + q)) = nI (ps.getD q (0, 0)).1 ∧ W (1310 + 861 * t + 61 + 2 * (b + q) + 1) = (ps.getD q (0, 0)).2) ∧ dpo ps 0
def SV (V : Nat → Int32) (st : List Int32) : Prop := ∀ q, q < st.length → V (st.length - 1 - q) = st.getD q 0
theorem SV.push {V : Nat → Int32} {st : List Int32} (h : SV V st) (x : Int32) : SV (upd V st.length x) (x :: st) := by
  intro q hq
  cases q with
  | zero => show (if (x :: st).length - 1 - 0 = st.length then x else _) = x; rw [if_pos (by simp)]
  | succ q =>
    show (if (x :: st).length - 1 - (q + 1) = st.length then x else V ((x :: st).length - 1 - (q + 1))) = st.getD q 0
    have hq' : q < st.length := by simpa using hq
    rw [if_neg (by simp; omega), show (x :: st).length - 1 - (q + 1) = st.length - 1 - q by simp; omega]
    exact h q hq'
theorem SV.drop {V : Nat → Int32} {st : List Int32} (h : SV V st) (k : Nat) : SV V (st.drop k) := by
  intro q hq
  have hq' : q < st.length - k := by simpa using hq
  have e := h (k + q) (by omega)
  rw [show (st.drop k).length - 1 - q = st.length - 1 - (k + q) by simp; omega, e]
  rw [List.getD_eq_getElem?_getD, List.getD_eq_getElem?_getD, List.getElem?_drop]
theorem SV.rep {V : Nat → Int32} {st : List Int32} (h : SV V st) (k : Nat) (hk : k ≤ st.length) (x : Int32) : SV (upd V (st.length - k) x) (x :: st.drop k) := by
  have e := (h.drop k).push x
  rwa [List.length_drop] at e
theorem SV.get {V : Nat → Int32} {st : List Int32} (h : SV V st) {q : Nat} (hq : q < st.length) : V (st.length - 1 - q) = st.getD q 0 := h q hq

set_option maxRecDepth 100000 in
set_option maxHeartbeats 4000000 in
theorem lp_m_holds (g : GS) (t n e : Nat) (ht : t ≤ 5) (hn : n < 12) (he : gA g 64 (1310 + 861 * t + 1 + 5 * n + 4) = nI e) (he4 : e ≤ 400) (fin : List Int32) (n0 : Nat) : ∀ (k : Nat) (i d : Nat) (st : List Int32) (V : Nat → Int32) (ps : List SP), ps.length = k → e = i + ps.length → d = st.length → st.length ≤ 400 → (∀ q, q < ps.length → gA g 64 (1310 + 861 * t + 61 + 2 * (i + q)) = nI (ps.getD q (0, 0)).1 ∧ gA g 64 (1310 + 861 * t + 61 + 2 * (i + q) + 1) = (ps.getD q (0, 0)).2) → dpo ps d → SV V st → fin = evA (gA g 70) ps st → J mX12_holdsLine (rm 2 0 0) (RXi (fun x g1 => x = bI (stT fin) ∧ ∃ V1, g1 = sA g 71 V1)) n0 20 [some (.ref 63), some (.int (nI (t))), some (.int (nI (n))), some (.int (nI (d))), some (.int (nI (1310 + 861 * t + 1 + 5 * n))), some (.int (nI (i))), none, none, none, none] [] (Wd (sA g 71 V)) 0 0 := by
  intro k
  induction k with
  | zero =>
    intro i d st V ps hps hie hd hst hw hdp hv hf
    have efin : fin = st := by rw [hf, List.eq_nil_of_length_eq_zero hps]; rfl
    refine J_iload (nx := 22) dX12_holdsLine_20 rfl rfl ?_
    refine J_aload_n (nx := 23) dX12_holdsLine_22 rfl rfl ?_
    refine Jg_63_1 (nx := 26) dX12_holdsLine_23 rfl fl_X12_13 ?_
    refine J_iload (nx := 28) dX12_holdsLine_26 rfl rfl ?_
    refine J_iconst (nx := 29) (i := 4) (v := 4) (by decide) dX12_holdsLine_28 rfl ?_
    refine J_iadd (nx := 30) dX12_holdsLine_29 rfl ?_
    refine Ja_64 (nx := 31) dX12_holdsLine_30 rfl (vpE (n := (1310 + 861 * t + 1 + 5 * n + 4)) (nIa (Eq.refl (nI (1310 + 861 * t + 1 + 5 * n))) (nIc 4)) (by omega) (by decide)) ?_
    rw [clE (n := (1310 + 861 * t + 1 + 5 * n + 4)) (nIa (Eq.refl (nI (1310 + 861 * t + 1 + 5 * n))) (nIc 4)) (by omega)]
    refine J_icmp_ge (nx := 34) (tgt := 279) dX12_holdsLine_31 rfl (by decide) (fun c_31 => ?_) (fun c_31 => ?_)
    · refine J_iload_n (nx := 280) dX12_holdsLine_279 rfl rfl ?_
      refine J_if_eq (nx := 283) (tgt := 293) dX12_holdsLine_280 rfl (by decide) (fun c_280 => ?_) (fun c_280 => ?_)
      · refine J_iconst (nx := 294) (i := 1) (v := 1) (by decide) dX12_holdsLine_293 rfl ?_
        refine J_goto (nx := 298) dX12_holdsLine_294 (by decide) ?_
        exact Jrz dX12_holdsLine_298 rfl (by decide) (Nat.zero_le _) (Nat.zero_le _) (RXi.of ⟨by rw [efin]; unfold stT; first | (rw [if_pos (nI_inj (b := 0) (by omega) (by omega) (show nI st.length = nI 0 from hd ▸ c_280))]; rfl) | (rw [if_neg hne, ← hv.get (q := st.length - 1) (by omega), show st.length - 1 - (st.length - 1) = 0 by omega]; first | (rw [if_pos (show ¬ V 0 = 1 from c_290)]; rfl) | (rw [if_neg (show ¬ ¬ V 0 = 1 from fun z => z c_290)]; rfl)), V, rfl⟩)
      · have hne : ¬ st.length = 0 := fun z => c_280 (by rw [hd, z]; rfl)
        refine J_aload_n (nx := 284) dX12_holdsLine_283 rfl rfl ?_
        refine Jg_63_18 (nx := 287) dX12_holdsLine_284 rfl fl_X12_39 ?_
        refine J_iconst (nx := 288) (i := 0) (v := 0) (by decide) dX12_holdsLine_287 rfl ?_
        refine Ja_71 (nx := 289) dX12_holdsLine_288 rfl (vpE (n := 0) (nIc 0) (by omega) (by decide)) ?_
        rw [clE (n := 0) (nIc 0) (by omega)]
        refine J_iconst (nx := 290) (i := 1) (v := 1) (by decide) dX12_holdsLine_289 rfl ?_
        refine J_icmp_ne (nx := 293) (tgt := 297) dX12_holdsLine_290 rfl (by decide) (fun c_290 => ?_) (fun c_290 => ?_)
        · refine J_iconst (nx := 298) (i := 0) (v := 0) (by decide) dX12_holdsLine_297 rfl ?_
          exact Jrz dX12_holdsLine_298 rfl (by decide) (Nat.zero_le _) (Nat.zero_le _) (RXi.of ⟨by rw [efin]; unfold stT; first | (rw [if_pos (nI_inj (b := 0) (by omega) (by omega) (show nI st.length = nI 0 from hd ▸ c_280))]; rfl) | (rw [if_neg hne, ← hv.get (q := st.length - 1) (by omega), show st.length - 1 - (st.length - 1) = 0 by omega]; first | (rw [if_pos (show ¬ V 0 = 1 from c_290)]; rfl) | (rw [if_neg (show ¬ ¬ V 0 = 1 from fun z => z c_290)]; rfl)), V, rfl⟩)
        · refine J_iconst (nx := 294) (i := 1) (v := 1) (by decide) dX12_holdsLine_293 rfl ?_
          refine J_goto (nx := 298) dX12_holdsLine_294 (by decide) ?_
          exact Jrz dX12_holdsLine_298 rfl (by decide) (Nat.zero_le _) (Nat.zero_le _) (RXi.of ⟨by rw [efin]; unfold stT; first | (rw [if_pos (nI_inj (b := 0) (by omega) (by omega) (show nI st.length = nI 0 from hd ▸ c_280))]; rfl) | (rw [if_neg hne, ← hv.get (q := st.length - 1) (by omega), show st.length - 1 - (st.length - 1) = 0 by omega]; first | (rw [if_pos (show ¬ V 0 = 1 from c_290)]; rfl) | (rw [if_neg (show ¬ ¬ V 0 = 1 from fun z => z c_290)]; rfl)), V, rfl⟩)
    · exact absurd (show nI e ≤ nI i from by rw [hie, hps]; exact le_self_nI) (by rw [show gA (sA g 71 V) 64 (1310 + 861 * t + 1 + 5 * n + 4) = nI e from he] at c_31; exact c_31)
  | succ k ih =>
    intro i d st V ps hps hie hd hst hw hdp hv hf
    obtain ⟨p, ps, rfl⟩ : ∃ p r, ps = p :: r := by
      cases ps with
      | nil => exact absurd hps (by simp)
      | cons p r => exact ⟨p, r, rfl⟩
    have hps2 : ps.length = k := by simpa using hps
    have hie2 : e = i + 1 + ps.length := by rw [hie]; simp; omega
    obtain ⟨w0, w1⟩ := hw 0 (by simp)
    have w0 : gA g 64 (1310 + 861 * t + 61 + 2 * i) = nI p.1 := w0
    have w1 : gA g 64 (1310 + 861 * t + 61 + 2 * i + 1) = p.2 := w1
    have hw2 : ∀ q, q < ps.length → gA g 64 (1310 + 861 * t + 61 + 2 * (i + 1 + q)) = nI (ps.getD q (0, 0)).1 ∧ gA g 64 (1310 + 861 * t + 61 + 2 * (i + 1 + q) + 1) = (ps.getD q (0, 0)).2 := fun q hq => by
      have z := hw (q + 1) (by simp; omega)
      rw [show i + (q + 1) = i + 1 + q by omega] at z
      exact z
    obtain ⟨p14, hdp⟩ := hdp
    have hif : fin = evA (gA g 70) ps (evP (gA g 70) p st) := hf
    have hil : i < 400 := by omega
    have bk : ∀ (d2 : Nat) (st2 : List Int32) (V2 : Nat → Int32), d2 = st2.length → st2.length ≤ 400 → evP (gA g 70) p st = st2 → dpo ps d2 → SV V2 st2 → J mX12_holdsLine (rm 2 0 0) (RXi (fun x g1 => x = bI (stT fin) ∧ ∃ V1, g1 = sA g 71 V1)) n0 20 [some (.ref 63), some (.int (nI (t))), some (.int (nI (n))), some (.int (nI (d2))), some (.int (nI (1310 + 861 * t + 1 + 5 * n))), some (.int (nI (i + 1))), none, none, none, none] [] (Wd (sA g 71 (V2))) 0 0 :=
      fun d2 st2 V2 h1 h2 h3 h4 h5 => ih (i + 1) d2 st2 V2 ps hps2 hie2 h1 h2 hw2 h4 h5 (by rw [hif, h3])
    have q57 : (8 : Int32) < nI p.1 → ¬ p.1 ≤ 8 := fun z => by
      have := nI_ltd (a := 8) (by omega) (by omega) z; omega
    have q57n : ¬ (8 : Int32) < nI p.1 → p.1 ≤ 8 := fun z => by
      rcases Nat.lt_or_ge 8 p.1 with w | w
      · exact absurd (nI_lt w (by omega)) z
      · exact w
    have qe : ∀ k, k ≤ 14 → nI p.1 = nI k → p.1 = k := fun k hk z => nI_inj (by omega) (by omega) z
    have bk1 : p.1 ≤ 8 → ∀ x, (if p.1 = 8 then p.2 else gA g 70 p.1) = x → J mX12_holdsLine (rm 2 0 0) (RXi (fun x g1 => x = bI (stT fin) ∧ ∃ V1, g1 = sA g 71 V1)) n0 20 [some (.ref 63), some (.int (nI (t))), some (.int (nI (n))), some (.int (nI (d + 1))), some (.int (nI (1310 + 861 * t + 1 + 5 * n))), some (.int (nI (i + 1))), none, none, none, none] [] (Wd (sA g 71 (upd V d x))) 0 0 := fun h8 x hx => by
      rw [if_pos h8] at hdp
      refine bk (d + 1) (x :: st) _ (by simp [hd]) (by simp; omega) (by unfold evP; rw [if_pos h8, hx]) hdp.2 ?_
      rw [hd]; exact hv.push x
    have bkN : ¬ p.1 ≤ 8 → p.1 = 12 → J mX12_holdsLine (rm 2 0 0) (RXi (fun x g1 => x = bI (stT fin) ∧ ∃ V1, g1 = sA g 71 V1)) n0 20 [some (.ref 63), some (.int (nI (t))), some (.int (nI (n))), some (.int (nI (d))), some (.int (nI (1310 + 861 * t + 1 + 5 * n))), some (.int (nI (i + 1))), none, none, none, none] [] (Wd (sA g 71 (upd V (d - 1) (1 - V (d - 1))))) 0 0 := fun h8 h12 => by
      rw [if_neg h8, if_pos h12] at hdp
      have e0 : V (d - 1) = st.getD 0 0 := by have z := hv.get (q := 0) (by omega); rw [hd]; exact z
      refine bk d ((1 - st.getD 0 0) :: st.drop 1) _ (by simp; omega) (by simp; omega) (by unfold evP; rw [if_neg h8, if_pos h12]) hdp.2 ?_
      rw [e0, hd]; exact hv.rep 1 (by omega) _
    have bkJ : ¬ p.1 ≤ 8 → ¬ p.1 = 12 → ∀ x, jnI (nI p.1) (gA (sA g 71 V) 71 (d - 1 - 1)) (gA (sA g 71 V) 71 (d - 1)) = x → J mX12_holdsLine (rm 2 0 0) (RXi (fun x g1 => x = bI (stT fin) ∧ ∃ V1, g1 = sA g 71 V1)) n0 20 [some (.ref 63), some (.int (nI (t))), some (.int (nI (n))), some (.int (nI (d - 1))), some (.int (nI (1310 + 861 * t + 1 + 5 * n))), some (.int (nI (i + 1))), none, none, none, none] [] (Wd (sA g 71 (upd V (d - 1 - 1) x))) 0 0 := fun h8 h12 x hx => by
      rw [if_neg h8, if_neg h12] at hdp
      have e0 : V (d - 1) = st.getD 0 0 := by have z := hv.get (q := 0) (by omega); rw [hd]; exact z
      have e1 : V (d - 1 - 1) = st.getD 1 0 := by have z := hv.get (q := 1) (by omega); rw [hd]; exact z
      have hx : jnI (nI p.1) (V (d - 1 - 1)) (V (d - 1)) = x := hx
      rw [e0, e1] at hx
      refine bk (d - 1) (x :: st.drop 2) _ (by simp; omega) (by simp; omega) (by unfold evP; rw [if_neg h8, if_neg h12, hx]) hdp.2 ?_
      rw [show d - 1 - 1 = st.length - 2 by omega]; exact hv.rep 2 (by omega) _
    refine J_iload (nx := 22) dX12_holdsLine_20 rfl rfl ?_
    refine J_aload_n (nx := 23) dX12_holdsLine_22 rfl rfl ?_
    refine Jg_63_1 (nx := 26) dX12_holdsLine_23 rfl fl_X12_13 ?_
    refine J_iload (nx := 28) dX12_holdsLine_26 rfl rfl ?_
    refine J_iconst (nx := 29) (i := 4) (v := 4) (by decide) dX12_holdsLine_28 rfl ?_
    refine J_iadd (nx := 30) dX12_holdsLine_29 rfl ?_
    refine Ja_64 (nx := 31) dX12_holdsLine_30 rfl (vpE (n := (1310 + 861 * t + 1 + 5 * n + 4)) (nIa (Eq.refl (nI (1310 + 861 * t + 1 + 5 * n))) (nIc 4)) (by omega) (by decide)) ?_
    rw [clE (n := (1310 + 861 * t + 1 + 5 * n + 4)) (nIa (Eq.refl (nI (1310 + 861 * t + 1 + 5 * n))) (nIc 4)) (by omega)]
    refine J_icmp_ge (nx := 34) (tgt := 279) dX12_holdsLine_31 rfl (by decide) (fun c_31 => ?_) (fun c_31 => ?_)
    · exact absurd (show nI e ≤ nI i from by rw [show gA (sA g 71 V) 64 (1310 + 861 * t + 1 + 5 * n + 4) = nI e from he] at c_31; exact c_31) (nlt_nI (by rw [hie, List.length_cons]; omega) (by omega))
    · have hil : i < 400 := by omega
      refine J_aload_n (nx := 35) dX12_holdsLine_34 rfl rfl ?_
      refine Jg_63_1 (nx := 38) dX12_holdsLine_35 rfl fl_X12_13 ?_
      refine J_iload_n (nx := 39) dX12_holdsLine_38 rfl rfl ?_
      refine JcS1 (R' := rm (0) 0 0) (nx := 42) dX12_holdsLine_39 rfl ml_X12_textAt lk_X12_117 st_X12_textAt ⟨(Nat.le_of_ble_eq_true rfl), (Nat.le_of_ble_eq_true rfl)⟩ (Nat.le_of_ble_eq_true rfl) ⟨rfl, rfl⟩ (ct_m_textAt _ (t)) ?_
      refine J_bipush (nx := 44) (i := 61) (v := 61) (by decide) dX12_holdsLine_42 rfl ?_
      refine J_iadd (nx := 45) dX12_holdsLine_44 rfl ?_
      refine J_iconst (nx := 46) (i := 2) (v := 2) (by decide) dX12_holdsLine_45 rfl ?_
      refine J_iload (nx := 48) dX12_holdsLine_46 rfl rfl ?_
      refine J_imul (nx := 49) dX12_holdsLine_48 rfl ?_
      refine J_iadd (nx := 50) dX12_holdsLine_49 rfl ?_
      refine Ja_64 (nx := 51) dX12_holdsLine_50 rfl (vpE (n := ((1310 + 861 * t + 61) + (2 * i))) (nIa (nIa (Eq.refl (nI (1310 + 861 * t))) (nIc 61)) (nIm (nIc 2) (Eq.refl (nI (i))))) (by omega) (by decide)) ?_
      rw [clE (n := ((1310 + 861 * t + 61) + (2 * i))) (nIa (nIa (Eq.refl (nI (1310 + 861 * t))) (nIc 61)) (nIm (nIc 2) (Eq.refl (nI (i))))) (by omega)]
      rw [show gA (sA g 71 V) 64 (1310 + 861 * t + 61 + 2 * i) = nI p.1 from w0]
      refine J_istore (nx := 53) dX12_holdsLine_51 rfl rfl (Nat.le_of_ble_eq_true rfl) ?_
      refine J_iload (nx := 55) dX12_holdsLine_53 rfl rfl ?_
      refine J_bipush (nx := 57) (i := 8) (v := 8) (by decide) dX12_holdsLine_55 rfl ?_
      refine J_icmp_gt (nx := 60) (tgt := 108) dX12_holdsLine_57 rfl (by decide) (fun c_57 => ?_) (fun c_57 => ?_)
      · have p8 := q57 c_57
        refine J_iload (nx := 110) dX12_holdsLine_108 rfl rfl ?_
        refine J_bipush (nx := 112) (i := 12) (v := 12) (by decide) dX12_holdsLine_110 rfl ?_
        refine J_icmp_ne (nx := 115) (tgt := 136) dX12_holdsLine_112 rfl (by decide) (fun c_112 => ?_) (fun c_112 => ?_)
        · have p12 : ¬ p.1 = 12 := fun z => c_112 (by rw [z]; rfl)
          have hdq := hdp
          rw [if_neg p8, if_neg p12] at hdq
          refine J_iinc (nx := 139) dX12_holdsLine_136 rfl rfl rfl (Nat.le_of_ble_eq_true rfl) ?_
          refine J_aload_n (nx := 140) dX12_holdsLine_139 rfl rfl ?_
          refine Jg_63_18 (nx := 143) dX12_holdsLine_140 rfl fl_X12_39 ?_
          refine J_iload_n (nx := 144) dX12_holdsLine_143 rfl rfl ?_
          refine J_iconst (nx := 145) (i := 1) (v := 1) (by decide) dX12_holdsLine_144 rfl ?_
          refine J_isub (nx := 146) dX12_holdsLine_145 rfl ?_
          refine Ja_71 (nx := 147) dX12_holdsLine_146 rfl (vpE (n := ((d - 1) - 1)) (nIs (by omega) (nIdc (by omega) : nI (d) + Int32.ofInt (-1) = nI (d - 1)) (nIc 1)) (by omega) (by decide)) ?_
          rw [clE (n := ((d - 1) - 1)) (nIs (by omega) (nIdc (by omega) : nI (d) + Int32.ofInt (-1) = nI (d - 1)) (nIc 1)) (by omega)]
          refine J_istore (nx := 149) dX12_holdsLine_147 rfl rfl (Nat.le_of_ble_eq_true rfl) ?_
          refine J_aload_n (nx := 150) dX12_holdsLine_149 rfl rfl ?_
          refine Jg_63_18 (nx := 153) dX12_holdsLine_150 rfl fl_X12_39 ?_
          refine J_iload_n (nx := 154) dX12_holdsLine_153 rfl rfl ?_
          refine Ja_71 (nx := 155) dX12_holdsLine_154 rfl (vpE (n := (d - 1)) (nIdc (by omega) : nI (d) + Int32.ofInt (-1) = nI (d - 1)) (by omega) (by decide)) ?_
          rw [clE (n := (d - 1)) (nIdc (by omega) : nI (d) + Int32.ofInt (-1) = nI (d - 1)) (by omega)]
          refine J_istore (nx := 157) dX12_holdsLine_155 rfl rfl (Nat.le_of_ble_eq_true rfl) ?_
          refine J_iload (nx := 159) dX12_holdsLine_157 rfl rfl ?_
          refine J_bipush (nx := 161) (i := 10) (v := 10) (by decide) dX12_holdsLine_159 rfl ?_
          refine J_icmp_ne (nx := 164) (tgt := 179) dX12_holdsLine_161 rfl (by decide) (fun c_161 => ?_) (fun c_161 => ?_)
          · refine J_iload (nx := 181) dX12_holdsLine_179 rfl rfl ?_
            refine J_bipush (nx := 183) (i := 11) (v := 11) (by decide) dX12_holdsLine_181 rfl ?_
            refine J_icmp_ne (nx := 186) (tgt := 201) dX12_holdsLine_183 rfl (by decide) (fun c_183 => ?_) (fun c_183 => ?_)
            · refine J_iload (nx := 203) dX12_holdsLine_201 rfl rfl ?_
              refine J_bipush (nx := 205) (i := 13) (v := 13) (by decide) dX12_holdsLine_203 rfl ?_
              refine J_icmp_ne (nx := 208) (tgt := 225) dX12_holdsLine_205 rfl (by decide) (fun c_205 => ?_) (fun c_205 => ?_)
              · refine J_iload (nx := 227) dX12_holdsLine_225 rfl rfl ?_
                refine J_iload (nx := 229) dX12_holdsLine_227 rfl rfl ?_
                refine J_iadd (nx := 230) dX12_holdsLine_229 rfl ?_
                refine J_if_le (nx := 233) (tgt := 237) dX12_holdsLine_230 rfl (by decide) (fun c_230 => ?_) (fun c_230 => ?_)
                · refine J_iconst (nx := 238) (i := 0) (v := 0) (by decide) dX12_holdsLine_237 rfl ?_
                  refine J_istore (nx := 240) dX12_holdsLine_238 rfl rfl (Nat.le_of_ble_eq_true rfl) ?_
                  refine J_aload_n (nx := 241) dX12_holdsLine_240 rfl rfl ?_
                  refine Jg_63_18 (nx := 244) dX12_holdsLine_241 rfl fl_X12_39 ?_
                  refine J_iload_n (nx := 245) dX12_holdsLine_244 rfl rfl ?_
                  refine J_iconst (nx := 246) (i := 1) (v := 1) (by decide) dX12_holdsLine_245 rfl ?_
                  refine J_isub (nx := 247) dX12_holdsLine_246 rfl ?_
                  refine J_iload (nx := 249) dX12_holdsLine_247 rfl rfl ?_
                  refine J_bipush (nx := 251) (i := 9) (v := 9) (by decide) dX12_holdsLine_249 rfl ?_
                  refine J_icmp_ne (nx := 254) (tgt := 262) dX12_holdsLine_251 rfl (by decide) (fun c_251 => ?_) (fun c_251 => ?_)
                  · refine J_iload (nx := 264) dX12_holdsLine_262 rfl rfl ?_
                    refine J_if_eq (nx := 267) (tgt := 271) dX12_holdsLine_264 rfl (by decide) (fun c_264 => ?_) (fun c_264 => ?_)
                    · refine J_iconst (nx := 272) (i := 0) (v := 0) (by decide) dX12_holdsLine_271 rfl ?_
                      refine Jt_71 (nx := 273) dX12_holdsLine_272 rfl (vpE (n := ((d - 1) - 1)) (nIs (by omega) (nIdc (by omega) : nI (d) + Int32.ofInt (-1) = nI (d - 1)) (nIc 1)) (by omega) (by decide)) ?_
                      rw [clE (n := ((d - 1) - 1)) (nIs (by omega) (nIdc (by omega) : nI (d) + Int32.ofInt (-1) = nI (d - 1)) (nIc 1)) (by omega)]
                      refine J_iinc (nx := 276) dX12_holdsLine_273 rfl rfl rfl (Nat.le_of_ble_eq_true rfl) ?_
                      refine J_goto (nx := 20) dX12_holdsLine_276 (by decide) ?_
                      rw [sA_sA]
                      refine J_kill (nx := 0) 6 ?_
                      refine J_kill (nx := 0) 7 ?_
                      refine J_kill (nx := 0) 8 ?_
                      refine J_kill (nx := 0) 9 ?_
                      rw [show (nI (i) + Int32.ofInt 1) = nI (i + 1) from (show nI (i) + Int32.ofInt 1 = nI (i + 1) from nI_add (i) 1)]
                      rw [show (nI (d) + Int32.ofInt (-1)) = nI ((d - 1)) from (nIdc (by omega) : nI (d) + Int32.ofInt (-1) = nI (d - 1))]
                      first
                      | exact bk1 p8 _ (by rw [if_neg p9]; rfl)
                      | exact bk1 p8 _ (by rw [if_pos (qe 8 (by decide) c_69)]; exact w1.symm)
                      | exact bkN p8 p12
                      | exact absurd c_264 (by decide)
                      | exact bkJ p8 p12 _ (by
                          unfold jnI jnB
                          repeat (first | rw [if_neg (show ¬ ¬ nI p.1 = 9 from fun z => z c_251)] | rw [if_pos c_251] | rw [if_pos c_161] | rw [if_neg (show ¬ ¬ nI p.1 = 10 from fun z => z c_161)] | rw [if_pos c_183] | rw [if_neg (show ¬ ¬ nI p.1 = 11 from fun z => z c_183)] | rw [if_pos c_205] | rw [if_neg (show ¬ ¬ nI p.1 = 13 from fun z => z c_205)] | rw [if_pos c_168] | rw [if_neg c_168] | rw [if_pos c_190] | rw [if_neg c_190] | rw [if_pos c_214] | rw [if_neg (show ¬ ¬ gA (sA g 71 V) 71 (d - 1 - 1) + gA (sA g 71 V) 71 (d - 1) = 2 from fun z => z c_214)] | rw [if_pos c_230] | rw [if_neg c_230])
                          try rfl)
                    · refine J_iconst (nx := 268) (i := 1) (v := 1) (by decide) dX12_holdsLine_267 rfl ?_
                      refine J_goto (nx := 272) dX12_holdsLine_268 (by decide) ?_
                      refine Jt_71 (nx := 273) dX12_holdsLine_272 rfl (vpE (n := ((d - 1) - 1)) (nIs (by omega) (nIdc (by omega) : nI (d) + Int32.ofInt (-1) = nI (d - 1)) (nIc 1)) (by omega) (by decide)) ?_
                      rw [clE (n := ((d - 1) - 1)) (nIs (by omega) (nIdc (by omega) : nI (d) + Int32.ofInt (-1) = nI (d - 1)) (nIc 1)) (by omega)]
                      refine J_iinc (nx := 276) dX12_holdsLine_273 rfl rfl rfl (Nat.le_of_ble_eq_true rfl) ?_
                      refine J_goto (nx := 20) dX12_holdsLine_276 (by decide) ?_
                      rw [sA_sA]
                      refine J_kill (nx := 0) 6 ?_
                      refine J_kill (nx := 0) 7 ?_
                      refine J_kill (nx := 0) 8 ?_
                      refine J_kill (nx := 0) 9 ?_
                      rw [show (nI (i) + Int32.ofInt 1) = nI (i + 1) from (show nI (i) + Int32.ofInt 1 = nI (i + 1) from nI_add (i) 1)]
                      rw [show (nI (d) + Int32.ofInt (-1)) = nI ((d - 1)) from (nIdc (by omega) : nI (d) + Int32.ofInt (-1) = nI (d - 1))]
                      first
                      | exact bk1 p8 _ (by rw [if_neg p9]; rfl)
                      | exact bk1 p8 _ (by rw [if_pos (qe 8 (by decide) c_69)]; exact w1.symm)
                      | exact bkN p8 p12
                      | exact absurd c_264 (by decide)
                      | exact bkJ p8 p12 _ (by
                          unfold jnI jnB
                          repeat (first | rw [if_neg (show ¬ ¬ nI p.1 = 9 from fun z => z c_251)] | rw [if_pos c_251] | rw [if_pos c_161] | rw [if_neg (show ¬ ¬ nI p.1 = 10 from fun z => z c_161)] | rw [if_pos c_183] | rw [if_neg (show ¬ ¬ nI p.1 = 11 from fun z => z c_183)] | rw [if_pos c_205] | rw [if_neg (show ¬ ¬ nI p.1 = 13 from fun z => z c_205)] | rw [if_pos c_168] | rw [if_neg c_168] | rw [if_pos c_190] | rw [if_neg c_190] | rw [if_pos c_214] | rw [if_neg (show ¬ ¬ gA (sA g 71 V) 71 (d - 1 - 1) + gA (sA g 71 V) 71 (d - 1) = 2 from fun z => z c_214)] | rw [if_pos c_230] | rw [if_neg c_230])
                          try rfl)
                  · refine J_iload (nx := 256) dX12_holdsLine_254 rfl rfl ?_
                    refine J_iload (nx := 258) dX12_holdsLine_256 rfl rfl ?_
                    refine J_iadd (nx := 259) dX12_holdsLine_258 rfl ?_
                    refine J_goto (nx := 272) dX12_holdsLine_259 (by decide) ?_
                    refine Jt_71 (nx := 273) dX12_holdsLine_272 rfl (vpE (n := ((d - 1) - 1)) (nIs (by omega) (nIdc (by omega) : nI (d) + Int32.ofInt (-1) = nI (d - 1)) (nIc 1)) (by omega) (by decide)) ?_
                    rw [clE (n := ((d - 1) - 1)) (nIs (by omega) (nIdc (by omega) : nI (d) + Int32.ofInt (-1) = nI (d - 1)) (nIc 1)) (by omega)]
                    refine J_iinc (nx := 276) dX12_holdsLine_273 rfl rfl rfl (Nat.le_of_ble_eq_true rfl) ?_
                    refine J_goto (nx := 20) dX12_holdsLine_276 (by decide) ?_
                    rw [sA_sA]
                    refine J_kill (nx := 0) 6 ?_
                    refine J_kill (nx := 0) 7 ?_
                    refine J_kill (nx := 0) 8 ?_
                    refine J_kill (nx := 0) 9 ?_
                    rw [show (nI (i) + Int32.ofInt 1) = nI (i + 1) from (show nI (i) + Int32.ofInt 1 = nI (i + 1) from nI_add (i) 1)]
                    rw [show (nI (d) + Int32.ofInt (-1)) = nI ((d - 1)) from (nIdc (by omega) : nI (d) + Int32.ofInt (-1) = nI (d - 1))]
                    first
                    | exact bk1 p8 _ (by rw [if_neg p9]; rfl)
                    | exact bk1 p8 _ (by rw [if_pos (qe 8 (by decide) c_69)]; exact w1.symm)
                    | exact bkN p8 p12
                    | exact absurd c_264 (by decide)
                    | exact bkJ p8 p12 _ (by
                        unfold jnI jnB
                        repeat (first | rw [if_neg (show ¬ ¬ nI p.1 = 9 from fun z => z c_251)] | rw [if_pos c_251] | rw [if_pos c_161] | rw [if_neg (show ¬ ¬ nI p.1 = 10 from fun z => z c_161)] | rw [if_pos c_183] | rw [if_neg (show ¬ ¬ nI p.1 = 11 from fun z => z c_183)] | rw [if_pos c_205] | rw [if_neg (show ¬ ¬ nI p.1 = 13 from fun z => z c_205)] | rw [if_pos c_168] | rw [if_neg c_168] | rw [if_pos c_190] | rw [if_neg c_190] | rw [if_pos c_214] | rw [if_neg (show ¬ ¬ gA (sA g 71 V) 71 (d - 1 - 1) + gA (sA g 71 V) 71 (d - 1) = 2 from fun z => z c_214)] | rw [if_pos c_230] | rw [if_neg c_230])
                        try rfl)
                · refine J_iconst (nx := 234) (i := 1) (v := 1) (by decide) dX12_holdsLine_233 rfl ?_
                  refine J_goto (nx := 238) dX12_holdsLine_234 (by decide) ?_
                  refine J_istore (nx := 240) dX12_holdsLine_238 rfl rfl (Nat.le_of_ble_eq_true rfl) ?_
                  refine J_aload_n (nx := 241) dX12_holdsLine_240 rfl rfl ?_
                  refine Jg_63_18 (nx := 244) dX12_holdsLine_241 rfl fl_X12_39 ?_
                  refine J_iload_n (nx := 245) dX12_holdsLine_244 rfl rfl ?_
                  refine J_iconst (nx := 246) (i := 1) (v := 1) (by decide) dX12_holdsLine_245 rfl ?_
                  refine J_isub (nx := 247) dX12_holdsLine_246 rfl ?_
                  refine J_iload (nx := 249) dX12_holdsLine_247 rfl rfl ?_
                  refine J_bipush (nx := 251) (i := 9) (v := 9) (by decide) dX12_holdsLine_249 rfl ?_
                  refine J_icmp_ne (nx := 254) (tgt := 262) dX12_holdsLine_251 rfl (by decide) (fun c_251 => ?_) (fun c_251 => ?_)
                  · refine J_iload (nx := 264) dX12_holdsLine_262 rfl rfl ?_
                    refine J_if_eq (nx := 267) (tgt := 271) dX12_holdsLine_264 rfl (by decide) (fun c_264 => ?_) (fun c_264 => ?_)
                    · refine J_iconst (nx := 272) (i := 0) (v := 0) (by decide) dX12_holdsLine_271 rfl ?_
                      refine Jt_71 (nx := 273) dX12_holdsLine_272 rfl (vpE (n := ((d - 1) - 1)) (nIs (by omega) (nIdc (by omega) : nI (d) + Int32.ofInt (-1) = nI (d - 1)) (nIc 1)) (by omega) (by decide)) ?_
                      rw [clE (n := ((d - 1) - 1)) (nIs (by omega) (nIdc (by omega) : nI (d) + Int32.ofInt (-1) = nI (d - 1)) (nIc 1)) (by omega)]
                      refine J_iinc (nx := 276) dX12_holdsLine_273 rfl rfl rfl (Nat.le_of_ble_eq_true rfl) ?_
                      refine J_goto (nx := 20) dX12_holdsLine_276 (by decide) ?_
                      rw [sA_sA]
                      refine J_kill (nx := 0) 6 ?_
                      refine J_kill (nx := 0) 7 ?_
                      refine J_kill (nx := 0) 8 ?_
                      refine J_kill (nx := 0) 9 ?_
                      rw [show (nI (i) + Int32.ofInt 1) = nI (i + 1) from (show nI (i) + Int32.ofInt 1 = nI (i + 1) from nI_add (i) 1)]
                      rw [show (nI (d) + Int32.ofInt (-1)) = nI ((d - 1)) from (nIdc (by omega) : nI (d) + Int32.ofInt (-1) = nI (d - 1))]
                      first
                      | exact bk1 p8 _ (by rw [if_neg p9]; rfl)
                      | exact bk1 p8 _ (by rw [if_pos (qe 8 (by decide) c_69)]; exact w1.symm)
                      | exact bkN p8 p12
                      | exact absurd c_264 (by decide)
                      | exact bkJ p8 p12 _ (by
                          unfold jnI jnB
                          repeat (first | rw [if_neg (show ¬ ¬ nI p.1 = 9 from fun z => z c_251)] | rw [if_pos c_251] | rw [if_pos c_161] | rw [if_neg (show ¬ ¬ nI p.1 = 10 from fun z => z c_161)] | rw [if_pos c_183] | rw [if_neg (show ¬ ¬ nI p.1 = 11 from fun z => z c_183)] | rw [if_pos c_205] | rw [if_neg (show ¬ ¬ nI p.1 = 13 from fun z => z c_205)] | rw [if_pos c_168] | rw [if_neg c_168] | rw [if_pos c_190] | rw [if_neg c_190] | rw [if_pos c_214] | rw [if_neg (show ¬ ¬ gA (sA g 71 V) 71 (d - 1 - 1) + gA (sA g 71 V) 71 (d - 1) = 2 from fun z => z c_214)] | rw [if_pos c_230] | rw [if_neg c_230])
                          try rfl)
                    · refine J_iconst (nx := 268) (i := 1) (v := 1) (by decide) dX12_holdsLine_267 rfl ?_
                      refine J_goto (nx := 272) dX12_holdsLine_268 (by decide) ?_
                      refine Jt_71 (nx := 273) dX12_holdsLine_272 rfl (vpE (n := ((d - 1) - 1)) (nIs (by omega) (nIdc (by omega) : nI (d) + Int32.ofInt (-1) = nI (d - 1)) (nIc 1)) (by omega) (by decide)) ?_
                      rw [clE (n := ((d - 1) - 1)) (nIs (by omega) (nIdc (by omega) : nI (d) + Int32.ofInt (-1) = nI (d - 1)) (nIc 1)) (by omega)]
                      refine J_iinc (nx := 276) dX12_holdsLine_273 rfl rfl rfl (Nat.le_of_ble_eq_true rfl) ?_
                      refine J_goto (nx := 20) dX12_holdsLine_276 (by decide) ?_
                      rw [sA_sA]
                      refine J_kill (nx := 0) 6 ?_
                      refine J_kill (nx := 0) 7 ?_
                      refine J_kill (nx := 0) 8 ?_
                      refine J_kill (nx := 0) 9 ?_
                      rw [show (nI (i) + Int32.ofInt 1) = nI (i + 1) from (show nI (i) + Int32.ofInt 1 = nI (i + 1) from nI_add (i) 1)]
                      rw [show (nI (d) + Int32.ofInt (-1)) = nI ((d - 1)) from (nIdc (by omega) : nI (d) + Int32.ofInt (-1) = nI (d - 1))]
                      first
                      | exact bk1 p8 _ (by rw [if_neg p9]; rfl)
                      | exact bk1 p8 _ (by rw [if_pos (qe 8 (by decide) c_69)]; exact w1.symm)
                      | exact bkN p8 p12
                      | exact absurd c_264 (by decide)
                      | exact bkJ p8 p12 _ (by
                          unfold jnI jnB
                          repeat (first | rw [if_neg (show ¬ ¬ nI p.1 = 9 from fun z => z c_251)] | rw [if_pos c_251] | rw [if_pos c_161] | rw [if_neg (show ¬ ¬ nI p.1 = 10 from fun z => z c_161)] | rw [if_pos c_183] | rw [if_neg (show ¬ ¬ nI p.1 = 11 from fun z => z c_183)] | rw [if_pos c_205] | rw [if_neg (show ¬ ¬ nI p.1 = 13 from fun z => z c_205)] | rw [if_pos c_168] | rw [if_neg c_168] | rw [if_pos c_190] | rw [if_neg c_190] | rw [if_pos c_214] | rw [if_neg (show ¬ ¬ gA (sA g 71 V) 71 (d - 1 - 1) + gA (sA g 71 V) 71 (d - 1) = 2 from fun z => z c_214)] | rw [if_pos c_230] | rw [if_neg c_230])
                          try rfl)
                  · refine J_iload (nx := 256) dX12_holdsLine_254 rfl rfl ?_
                    refine J_iload (nx := 258) dX12_holdsLine_256 rfl rfl ?_
                    refine J_iadd (nx := 259) dX12_holdsLine_258 rfl ?_
                    refine J_goto (nx := 272) dX12_holdsLine_259 (by decide) ?_
                    refine Jt_71 (nx := 273) dX12_holdsLine_272 rfl (vpE (n := ((d - 1) - 1)) (nIs (by omega) (nIdc (by omega) : nI (d) + Int32.ofInt (-1) = nI (d - 1)) (nIc 1)) (by omega) (by decide)) ?_
                    rw [clE (n := ((d - 1) - 1)) (nIs (by omega) (nIdc (by omega) : nI (d) + Int32.ofInt (-1) = nI (d - 1)) (nIc 1)) (by omega)]
                    refine J_iinc (nx := 276) dX12_holdsLine_273 rfl rfl rfl (Nat.le_of_ble_eq_true rfl) ?_
                    refine J_goto (nx := 20) dX12_holdsLine_276 (by decide) ?_
                    rw [sA_sA]
                    refine J_kill (nx := 0) 6 ?_
                    refine J_kill (nx := 0) 7 ?_
                    refine J_kill (nx := 0) 8 ?_
                    refine J_kill (nx := 0) 9 ?_
                    rw [show (nI (i) + Int32.ofInt 1) = nI (i + 1) from (show nI (i) + Int32.ofInt 1 = nI (i + 1) from nI_add (i) 1)]
                    rw [show (nI (d) + Int32.ofInt (-1)) = nI ((d - 1)) from (nIdc (by omega) : nI (d) + Int32.ofInt (-1) = nI (d - 1))]
                    first
                    | exact bk1 p8 _ (by rw [if_neg p9]; rfl)
                    | exact bk1 p8 _ (by rw [if_pos (qe 8 (by decide) c_69)]; exact w1.symm)
                    | exact bkN p8 p12
                    | exact absurd c_264 (by decide)
                    | exact bkJ p8 p12 _ (by
                        unfold jnI jnB
                        repeat (first | rw [if_neg (show ¬ ¬ nI p.1 = 9 from fun z => z c_251)] | rw [if_pos c_251] | rw [if_pos c_161] | rw [if_neg (show ¬ ¬ nI p.1 = 10 from fun z => z c_161)] | rw [if_pos c_183] | rw [if_neg (show ¬ ¬ nI p.1 = 11 from fun z => z c_183)] | rw [if_pos c_205] | rw [if_neg (show ¬ ¬ nI p.1 = 13 from fun z => z c_205)] | rw [if_pos c_168] | rw [if_neg c_168] | rw [if_pos c_190] | rw [if_neg c_190] | rw [if_pos c_214] | rw [if_neg (show ¬ ¬ gA (sA g 71 V) 71 (d - 1 - 1) + gA (sA g 71 V) 71 (d - 1) = 2 from fun z => z c_214)] | rw [if_pos c_230] | rw [if_neg c_230])
                        try rfl)
              · refine J_iload (nx := 210) dX12_holdsLine_208 rfl rfl ?_
                refine J_iload (nx := 212) dX12_holdsLine_210 rfl rfl ?_
                refine J_iadd (nx := 213) dX12_holdsLine_212 rfl ?_
                refine J_iconst (nx := 214) (i := 2) (v := 2) (by decide) dX12_holdsLine_213 rfl ?_
                refine J_icmp_ne (nx := 217) (tgt := 221) dX12_holdsLine_214 rfl (by decide) (fun c_214 => ?_) (fun c_214 => ?_)
                · refine J_iconst (nx := 222) (i := 0) (v := 0) (by decide) dX12_holdsLine_221 rfl ?_
                  refine J_goto (nx := 238) dX12_holdsLine_222 (by decide) ?_
                  refine J_istore (nx := 240) dX12_holdsLine_238 rfl rfl (Nat.le_of_ble_eq_true rfl) ?_
                  refine J_aload_n (nx := 241) dX12_holdsLine_240 rfl rfl ?_
                  refine Jg_63_18 (nx := 244) dX12_holdsLine_241 rfl fl_X12_39 ?_
                  refine J_iload_n (nx := 245) dX12_holdsLine_244 rfl rfl ?_
                  refine J_iconst (nx := 246) (i := 1) (v := 1) (by decide) dX12_holdsLine_245 rfl ?_
                  refine J_isub (nx := 247) dX12_holdsLine_246 rfl ?_
                  refine J_iload (nx := 249) dX12_holdsLine_247 rfl rfl ?_
                  refine J_bipush (nx := 251) (i := 9) (v := 9) (by decide) dX12_holdsLine_249 rfl ?_
                  refine J_icmp_ne (nx := 254) (tgt := 262) dX12_holdsLine_251 rfl (by decide) (fun c_251 => ?_) (fun c_251 => ?_)
                  · refine J_iload (nx := 264) dX12_holdsLine_262 rfl rfl ?_
                    refine J_if_eq (nx := 267) (tgt := 271) dX12_holdsLine_264 rfl (by decide) (fun c_264 => ?_) (fun c_264 => ?_)
                    · refine J_iconst (nx := 272) (i := 0) (v := 0) (by decide) dX12_holdsLine_271 rfl ?_
                      refine Jt_71 (nx := 273) dX12_holdsLine_272 rfl (vpE (n := ((d - 1) - 1)) (nIs (by omega) (nIdc (by omega) : nI (d) + Int32.ofInt (-1) = nI (d - 1)) (nIc 1)) (by omega) (by decide)) ?_
                      rw [clE (n := ((d - 1) - 1)) (nIs (by omega) (nIdc (by omega) : nI (d) + Int32.ofInt (-1) = nI (d - 1)) (nIc 1)) (by omega)]
                      refine J_iinc (nx := 276) dX12_holdsLine_273 rfl rfl rfl (Nat.le_of_ble_eq_true rfl) ?_
                      refine J_goto (nx := 20) dX12_holdsLine_276 (by decide) ?_
                      rw [sA_sA]
                      refine J_kill (nx := 0) 6 ?_
                      refine J_kill (nx := 0) 7 ?_
                      refine J_kill (nx := 0) 8 ?_
                      refine J_kill (nx := 0) 9 ?_
                      rw [show (nI (i) + Int32.ofInt 1) = nI (i + 1) from (show nI (i) + Int32.ofInt 1 = nI (i + 1) from nI_add (i) 1)]
                      rw [show (nI (d) + Int32.ofInt (-1)) = nI ((d - 1)) from (nIdc (by omega) : nI (d) + Int32.ofInt (-1) = nI (d - 1))]
                      first
                      | exact bk1 p8 _ (by rw [if_neg p9]; rfl)
                      | exact bk1 p8 _ (by rw [if_pos (qe 8 (by decide) c_69)]; exact w1.symm)
                      | exact bkN p8 p12
                      | exact absurd c_264 (by decide)
                      | exact bkJ p8 p12 _ (by
                          unfold jnI jnB
                          repeat (first | rw [if_neg (show ¬ ¬ nI p.1 = 9 from fun z => z c_251)] | rw [if_pos c_251] | rw [if_pos c_161] | rw [if_neg (show ¬ ¬ nI p.1 = 10 from fun z => z c_161)] | rw [if_pos c_183] | rw [if_neg (show ¬ ¬ nI p.1 = 11 from fun z => z c_183)] | rw [if_pos c_205] | rw [if_neg (show ¬ ¬ nI p.1 = 13 from fun z => z c_205)] | rw [if_pos c_168] | rw [if_neg c_168] | rw [if_pos c_190] | rw [if_neg c_190] | rw [if_pos c_214] | rw [if_neg (show ¬ ¬ gA (sA g 71 V) 71 (d - 1 - 1) + gA (sA g 71 V) 71 (d - 1) = 2 from fun z => z c_214)] | rw [if_pos c_230] | rw [if_neg c_230])
                          try rfl)
                    · refine J_iconst (nx := 268) (i := 1) (v := 1) (by decide) dX12_holdsLine_267 rfl ?_
                      refine J_goto (nx := 272) dX12_holdsLine_268 (by decide) ?_
                      refine Jt_71 (nx := 273) dX12_holdsLine_272 rfl (vpE (n := ((d - 1) - 1)) (nIs (by omega) (nIdc (by omega) : nI (d) + Int32.ofInt (-1) = nI (d - 1)) (nIc 1)) (by omega) (by decide)) ?_
                      rw [clE (n := ((d - 1) - 1)) (nIs (by omega) (nIdc (by omega) : nI (d) + Int32.ofInt (-1) = nI (d - 1)) (nIc 1)) (by omega)]
                      refine J_iinc (nx := 276) dX12_holdsLine_273 rfl rfl rfl (Nat.le_of_ble_eq_true rfl) ?_
                      refine J_goto (nx := 20) dX12_holdsLine_276 (by decide) ?_
                      rw [sA_sA]
                      refine J_kill (nx := 0) 6 ?_
                      refine J_kill (nx := 0) 7 ?_
                      refine J_kill (nx := 0) 8 ?_
                      refine J_kill (nx := 0) 9 ?_
                      rw [show (nI (i) + Int32.ofInt 1) = nI (i + 1) from (show nI (i) + Int32.ofInt 1 = nI (i + 1) from nI_add (i) 1)]
                      rw [show (nI (d) + Int32.ofInt (-1)) = nI ((d - 1)) from (nIdc (by omega) : nI (d) + Int32.ofInt (-1) = nI (d - 1))]
                      first
                      | exact bk1 p8 _ (by rw [if_neg p9]; rfl)
                      | exact bk1 p8 _ (by rw [if_pos (qe 8 (by decide) c_69)]; exact w1.symm)
                      | exact bkN p8 p12
                      | exact absurd c_264 (by decide)
                      | exact bkJ p8 p12 _ (by
                          unfold jnI jnB
                          repeat (first | rw [if_neg (show ¬ ¬ nI p.1 = 9 from fun z => z c_251)] | rw [if_pos c_251] | rw [if_pos c_161] | rw [if_neg (show ¬ ¬ nI p.1 = 10 from fun z => z c_161)] | rw [if_pos c_183] | rw [if_neg (show ¬ ¬ nI p.1 = 11 from fun z => z c_183)] | rw [if_pos c_205] | rw [if_neg (show ¬ ¬ nI p.1 = 13 from fun z => z c_205)] | rw [if_pos c_168] | rw [if_neg c_168] | rw [if_pos c_190] | rw [if_neg c_190] | rw [if_pos c_214] | rw [if_neg (show ¬ ¬ gA (sA g 71 V) 71 (d - 1 - 1) + gA (sA g 71 V) 71 (d - 1) = 2 from fun z => z c_214)] | rw [if_pos c_230] | rw [if_neg c_230])
                          try rfl)
                  · refine J_iload (nx := 256) dX12_holdsLine_254 rfl rfl ?_
                    refine J_iload (nx := 258) dX12_holdsLine_256 rfl rfl ?_
                    refine J_iadd (nx := 259) dX12_holdsLine_258 rfl ?_
                    refine J_goto (nx := 272) dX12_holdsLine_259 (by decide) ?_
                    refine Jt_71 (nx := 273) dX12_holdsLine_272 rfl (vpE (n := ((d - 1) - 1)) (nIs (by omega) (nIdc (by omega) : nI (d) + Int32.ofInt (-1) = nI (d - 1)) (nIc 1)) (by omega) (by decide)) ?_
                    rw [clE (n := ((d - 1) - 1)) (nIs (by omega) (nIdc (by omega) : nI (d) + Int32.ofInt (-1) = nI (d - 1)) (nIc 1)) (by omega)]
                    refine J_iinc (nx := 276) dX12_holdsLine_273 rfl rfl rfl (Nat.le_of_ble_eq_true rfl) ?_
                    refine J_goto (nx := 20) dX12_holdsLine_276 (by decide) ?_
                    rw [sA_sA]
                    refine J_kill (nx := 0) 6 ?_
                    refine J_kill (nx := 0) 7 ?_
                    refine J_kill (nx := 0) 8 ?_
                    refine J_kill (nx := 0) 9 ?_
                    rw [show (nI (i) + Int32.ofInt 1) = nI (i + 1) from (show nI (i) + Int32.ofInt 1 = nI (i + 1) from nI_add (i) 1)]
                    rw [show (nI (d) + Int32.ofInt (-1)) = nI ((d - 1)) from (nIdc (by omega) : nI (d) + Int32.ofInt (-1) = nI (d - 1))]
                    first
                    | exact bk1 p8 _ (by rw [if_neg p9]; rfl)
                    | exact bk1 p8 _ (by rw [if_pos (qe 8 (by decide) c_69)]; exact w1.symm)
                    | exact bkN p8 p12
                    | exact absurd c_264 (by decide)
                    | exact bkJ p8 p12 _ (by
                        unfold jnI jnB
                        repeat (first | rw [if_neg (show ¬ ¬ nI p.1 = 9 from fun z => z c_251)] | rw [if_pos c_251] | rw [if_pos c_161] | rw [if_neg (show ¬ ¬ nI p.1 = 10 from fun z => z c_161)] | rw [if_pos c_183] | rw [if_neg (show ¬ ¬ nI p.1 = 11 from fun z => z c_183)] | rw [if_pos c_205] | rw [if_neg (show ¬ ¬ nI p.1 = 13 from fun z => z c_205)] | rw [if_pos c_168] | rw [if_neg c_168] | rw [if_pos c_190] | rw [if_neg c_190] | rw [if_pos c_214] | rw [if_neg (show ¬ ¬ gA (sA g 71 V) 71 (d - 1 - 1) + gA (sA g 71 V) 71 (d - 1) = 2 from fun z => z c_214)] | rw [if_pos c_230] | rw [if_neg c_230])
                        try rfl)
                · refine J_iconst (nx := 218) (i := 1) (v := 1) (by decide) dX12_holdsLine_217 rfl ?_
                  refine J_goto (nx := 238) dX12_holdsLine_218 (by decide) ?_
                  refine J_istore (nx := 240) dX12_holdsLine_238 rfl rfl (Nat.le_of_ble_eq_true rfl) ?_
                  refine J_aload_n (nx := 241) dX12_holdsLine_240 rfl rfl ?_
                  refine Jg_63_18 (nx := 244) dX12_holdsLine_241 rfl fl_X12_39 ?_
                  refine J_iload_n (nx := 245) dX12_holdsLine_244 rfl rfl ?_
                  refine J_iconst (nx := 246) (i := 1) (v := 1) (by decide) dX12_holdsLine_245 rfl ?_
                  refine J_isub (nx := 247) dX12_holdsLine_246 rfl ?_
                  refine J_iload (nx := 249) dX12_holdsLine_247 rfl rfl ?_
                  refine J_bipush (nx := 251) (i := 9) (v := 9) (by decide) dX12_holdsLine_249 rfl ?_
                  refine J_icmp_ne (nx := 254) (tgt := 262) dX12_holdsLine_251 rfl (by decide) (fun c_251 => ?_) (fun c_251 => ?_)
                  · refine J_iload (nx := 264) dX12_holdsLine_262 rfl rfl ?_
                    refine J_if_eq (nx := 267) (tgt := 271) dX12_holdsLine_264 rfl (by decide) (fun c_264 => ?_) (fun c_264 => ?_)
                    · refine J_iconst (nx := 272) (i := 0) (v := 0) (by decide) dX12_holdsLine_271 rfl ?_
                      refine Jt_71 (nx := 273) dX12_holdsLine_272 rfl (vpE (n := ((d - 1) - 1)) (nIs (by omega) (nIdc (by omega) : nI (d) + Int32.ofInt (-1) = nI (d - 1)) (nIc 1)) (by omega) (by decide)) ?_
                      rw [clE (n := ((d - 1) - 1)) (nIs (by omega) (nIdc (by omega) : nI (d) + Int32.ofInt (-1) = nI (d - 1)) (nIc 1)) (by omega)]
                      refine J_iinc (nx := 276) dX12_holdsLine_273 rfl rfl rfl (Nat.le_of_ble_eq_true rfl) ?_
                      refine J_goto (nx := 20) dX12_holdsLine_276 (by decide) ?_
                      rw [sA_sA]
                      refine J_kill (nx := 0) 6 ?_
                      refine J_kill (nx := 0) 7 ?_
                      refine J_kill (nx := 0) 8 ?_
                      refine J_kill (nx := 0) 9 ?_
                      rw [show (nI (i) + Int32.ofInt 1) = nI (i + 1) from (show nI (i) + Int32.ofInt 1 = nI (i + 1) from nI_add (i) 1)]
                      rw [show (nI (d) + Int32.ofInt (-1)) = nI ((d - 1)) from (nIdc (by omega) : nI (d) + Int32.ofInt (-1) = nI (d - 1))]
                      first
                      | exact bk1 p8 _ (by rw [if_neg p9]; rfl)
                      | exact bk1 p8 _ (by rw [if_pos (qe 8 (by decide) c_69)]; exact w1.symm)
                      | exact bkN p8 p12
                      | exact absurd c_264 (by decide)
                      | exact bkJ p8 p12 _ (by
                          unfold jnI jnB
                          repeat (first | rw [if_neg (show ¬ ¬ nI p.1 = 9 from fun z => z c_251)] | rw [if_pos c_251] | rw [if_pos c_161] | rw [if_neg (show ¬ ¬ nI p.1 = 10 from fun z => z c_161)] | rw [if_pos c_183] | rw [if_neg (show ¬ ¬ nI p.1 = 11 from fun z => z c_183)] | rw [if_pos c_205] | rw [if_neg (show ¬ ¬ nI p.1 = 13 from fun z => z c_205)] | rw [if_pos c_168] | rw [if_neg c_168] | rw [if_pos c_190] | rw [if_neg c_190] | rw [if_pos c_214] | rw [if_neg (show ¬ ¬ gA (sA g 71 V) 71 (d - 1 - 1) + gA (sA g 71 V) 71 (d - 1) = 2 from fun z => z c_214)] | rw [if_pos c_230] | rw [if_neg c_230])
                          try rfl)
                    · refine J_iconst (nx := 268) (i := 1) (v := 1) (by decide) dX12_holdsLine_267 rfl ?_
                      refine J_goto (nx := 272) dX12_holdsLine_268 (by decide) ?_
                      refine Jt_71 (nx := 273) dX12_holdsLine_272 rfl (vpE (n := ((d - 1) - 1)) (nIs (by omega) (nIdc (by omega) : nI (d) + Int32.ofInt (-1) = nI (d - 1)) (nIc 1)) (by omega) (by decide)) ?_
                      rw [clE (n := ((d - 1) - 1)) (nIs (by omega) (nIdc (by omega) : nI (d) + Int32.ofInt (-1) = nI (d - 1)) (nIc 1)) (by omega)]
                      refine J_iinc (nx := 276) dX12_holdsLine_273 rfl rfl rfl (Nat.le_of_ble_eq_true rfl) ?_
                      refine J_goto (nx := 20) dX12_holdsLine_276 (by decide) ?_
                      rw [sA_sA]
                      refine J_kill (nx := 0) 6 ?_
                      refine J_kill (nx := 0) 7 ?_
                      refine J_kill (nx := 0) 8 ?_
                      refine J_kill (nx := 0) 9 ?_
                      rw [show (nI (i) + Int32.ofInt 1) = nI (i + 1) from (show nI (i) + Int32.ofInt 1 = nI (i + 1) from nI_add (i) 1)]
                      rw [show (nI (d) + Int32.ofInt (-1)) = nI ((d - 1)) from (nIdc (by omega) : nI (d) + Int32.ofInt (-1) = nI (d - 1))]
                      first
                      | exact bk1 p8 _ (by rw [if_neg p9]; rfl)
                      | exact bk1 p8 _ (by rw [if_pos (qe 8 (by decide) c_69)]; exact w1.symm)
                      | exact bkN p8 p12
                      | exact absurd c_264 (by decide)
                      | exact bkJ p8 p12 _ (by
                          unfold jnI jnB
                          repeat (first | rw [if_neg (show ¬ ¬ nI p.1 = 9 from fun z => z c_251)] | rw [if_pos c_251] | rw [if_pos c_161] | rw [if_neg (show ¬ ¬ nI p.1 = 10 from fun z => z c_161)] | rw [if_pos c_183] | rw [if_neg (show ¬ ¬ nI p.1 = 11 from fun z => z c_183)] | rw [if_pos c_205] | rw [if_neg (show ¬ ¬ nI p.1 = 13 from fun z => z c_205)] | rw [if_pos c_168] | rw [if_neg c_168] | rw [if_pos c_190] | rw [if_neg c_190] | rw [if_pos c_214] | rw [if_neg (show ¬ ¬ gA (sA g 71 V) 71 (d - 1 - 1) + gA (sA g 71 V) 71 (d - 1) = 2 from fun z => z c_214)] | rw [if_pos c_230] | rw [if_neg c_230])
                          try rfl)
                  · refine J_iload (nx := 256) dX12_holdsLine_254 rfl rfl ?_
                    refine J_iload (nx := 258) dX12_holdsLine_256 rfl rfl ?_
                    refine J_iadd (nx := 259) dX12_holdsLine_258 rfl ?_
                    refine J_goto (nx := 272) dX12_holdsLine_259 (by decide) ?_
                    refine Jt_71 (nx := 273) dX12_holdsLine_272 rfl (vpE (n := ((d - 1) - 1)) (nIs (by omega) (nIdc (by omega) : nI (d) + Int32.ofInt (-1) = nI (d - 1)) (nIc 1)) (by omega) (by decide)) ?_
                    rw [clE (n := ((d - 1) - 1)) (nIs (by omega) (nIdc (by omega) : nI (d) + Int32.ofInt (-1) = nI (d - 1)) (nIc 1)) (by omega)]
                    refine J_iinc (nx := 276) dX12_holdsLine_273 rfl rfl rfl (Nat.le_of_ble_eq_true rfl) ?_
                    refine J_goto (nx := 20) dX12_holdsLine_276 (by decide) ?_
                    rw [sA_sA]
                    refine J_kill (nx := 0) 6 ?_
                    refine J_kill (nx := 0) 7 ?_
                    refine J_kill (nx := 0) 8 ?_
                    refine J_kill (nx := 0) 9 ?_
                    rw [show (nI (i) + Int32.ofInt 1) = nI (i + 1) from (show nI (i) + Int32.ofInt 1 = nI (i + 1) from nI_add (i) 1)]
                    rw [show (nI (d) + Int32.ofInt (-1)) = nI ((d - 1)) from (nIdc (by omega) : nI (d) + Int32.ofInt (-1) = nI (d - 1))]
                    first
                    | exact bk1 p8 _ (by rw [if_neg p9]; rfl)
                    | exact bk1 p8 _ (by rw [if_pos (qe 8 (by decide) c_69)]; exact w1.symm)
                    | exact bkN p8 p12
                    | exact absurd c_264 (by decide)
                    | exact bkJ p8 p12 _ (by
                        unfold jnI jnB
                        repeat (first | rw [if_neg (show ¬ ¬ nI p.1 = 9 from fun z => z c_251)] | rw [if_pos c_251] | rw [if_pos c_161] | rw [if_neg (show ¬ ¬ nI p.1 = 10 from fun z => z c_161)] | rw [if_pos c_183] | rw [if_neg (show ¬ ¬ nI p.1 = 11 from fun z => z c_183)] | rw [if_pos c_205] | rw [if_neg (show ¬ ¬ nI p.1 = 13 from fun z => z c_205)] | rw [if_pos c_168] | rw [if_neg c_168] | rw [if_pos c_190] | rw [if_neg c_190] | rw [if_pos c_214] | rw [if_neg (show ¬ ¬ gA (sA g 71 V) 71 (d - 1 - 1) + gA (sA g 71 V) 71 (d - 1) = 2 from fun z => z c_214)] | rw [if_pos c_230] | rw [if_neg c_230])
                        try rfl)
            · refine J_iload (nx := 188) dX12_holdsLine_186 rfl rfl ?_
              refine J_iload (nx := 190) dX12_holdsLine_188 rfl rfl ?_
              refine J_icmp_le (nx := 193) (tgt := 197) dX12_holdsLine_190 rfl (by decide) (fun c_190 => ?_) (fun c_190 => ?_)
              · refine J_iconst (nx := 198) (i := 0) (v := 0) (by decide) dX12_holdsLine_197 rfl ?_
                refine J_goto (nx := 238) dX12_holdsLine_198 (by decide) ?_
                refine J_istore (nx := 240) dX12_holdsLine_238 rfl rfl (Nat.le_of_ble_eq_true rfl) ?_
                refine J_aload_n (nx := 241) dX12_holdsLine_240 rfl rfl ?_
                refine Jg_63_18 (nx := 244) dX12_holdsLine_241 rfl fl_X12_39 ?_
                refine J_iload_n (nx := 245) dX12_holdsLine_244 rfl rfl ?_
                refine J_iconst (nx := 246) (i := 1) (v := 1) (by decide) dX12_holdsLine_245 rfl ?_
                refine J_isub (nx := 247) dX12_holdsLine_246 rfl ?_
                refine J_iload (nx := 249) dX12_holdsLine_247 rfl rfl ?_
                refine J_bipush (nx := 251) (i := 9) (v := 9) (by decide) dX12_holdsLine_249 rfl ?_
                refine J_icmp_ne (nx := 254) (tgt := 262) dX12_holdsLine_251 rfl (by decide) (fun c_251 => ?_) (fun c_251 => ?_)
                · refine J_iload (nx := 264) dX12_holdsLine_262 rfl rfl ?_
                  refine J_if_eq (nx := 267) (tgt := 271) dX12_holdsLine_264 rfl (by decide) (fun c_264 => ?_) (fun c_264 => ?_)
                  · refine J_iconst (nx := 272) (i := 0) (v := 0) (by decide) dX12_holdsLine_271 rfl ?_
                    refine Jt_71 (nx := 273) dX12_holdsLine_272 rfl (vpE (n := ((d - 1) - 1)) (nIs (by omega) (nIdc (by omega) : nI (d) + Int32.ofInt (-1) = nI (d - 1)) (nIc 1)) (by omega) (by decide)) ?_
                    rw [clE (n := ((d - 1) - 1)) (nIs (by omega) (nIdc (by omega) : nI (d) + Int32.ofInt (-1) = nI (d - 1)) (nIc 1)) (by omega)]
                    refine J_iinc (nx := 276) dX12_holdsLine_273 rfl rfl rfl (Nat.le_of_ble_eq_true rfl) ?_
                    refine J_goto (nx := 20) dX12_holdsLine_276 (by decide) ?_
                    rw [sA_sA]
                    refine J_kill (nx := 0) 6 ?_
                    refine J_kill (nx := 0) 7 ?_
                    refine J_kill (nx := 0) 8 ?_
                    refine J_kill (nx := 0) 9 ?_
                    rw [show (nI (i) + Int32.ofInt 1) = nI (i + 1) from (show nI (i) + Int32.ofInt 1 = nI (i + 1) from nI_add (i) 1)]
                    rw [show (nI (d) + Int32.ofInt (-1)) = nI ((d - 1)) from (nIdc (by omega) : nI (d) + Int32.ofInt (-1) = nI (d - 1))]
                    first
                    | exact bk1 p8 _ (by rw [if_neg p9]; rfl)
                    | exact bk1 p8 _ (by rw [if_pos (qe 8 (by decide) c_69)]; exact w1.symm)
                    | exact bkN p8 p12
                    | exact absurd c_264 (by decide)
                    | exact bkJ p8 p12 _ (by
                        unfold jnI jnB
                        repeat (first | rw [if_neg (show ¬ ¬ nI p.1 = 9 from fun z => z c_251)] | rw [if_pos c_251] | rw [if_pos c_161] | rw [if_neg (show ¬ ¬ nI p.1 = 10 from fun z => z c_161)] | rw [if_pos c_183] | rw [if_neg (show ¬ ¬ nI p.1 = 11 from fun z => z c_183)] | rw [if_pos c_205] | rw [if_neg (show ¬ ¬ nI p.1 = 13 from fun z => z c_205)] | rw [if_pos c_168] | rw [if_neg c_168] | rw [if_pos c_190] | rw [if_neg c_190] | rw [if_pos c_214] | rw [if_neg (show ¬ ¬ gA (sA g 71 V) 71 (d - 1 - 1) + gA (sA g 71 V) 71 (d - 1) = 2 from fun z => z c_214)] | rw [if_pos c_230] | rw [if_neg c_230])
                        try rfl)
                  · refine J_iconst (nx := 268) (i := 1) (v := 1) (by decide) dX12_holdsLine_267 rfl ?_
                    refine J_goto (nx := 272) dX12_holdsLine_268 (by decide) ?_
                    refine Jt_71 (nx := 273) dX12_holdsLine_272 rfl (vpE (n := ((d - 1) - 1)) (nIs (by omega) (nIdc (by omega) : nI (d) + Int32.ofInt (-1) = nI (d - 1)) (nIc 1)) (by omega) (by decide)) ?_
                    rw [clE (n := ((d - 1) - 1)) (nIs (by omega) (nIdc (by omega) : nI (d) + Int32.ofInt (-1) = nI (d - 1)) (nIc 1)) (by omega)]
                    refine J_iinc (nx := 276) dX12_holdsLine_273 rfl rfl rfl (Nat.le_of_ble_eq_true rfl) ?_
                    refine J_goto (nx := 20) dX12_holdsLine_276 (by decide) ?_
                    rw [sA_sA]
                    refine J_kill (nx := 0) 6 ?_
                    refine J_kill (nx := 0) 7 ?_
                    refine J_kill (nx := 0) 8 ?_
                    refine J_kill (nx := 0) 9 ?_
                    rw [show (nI (i) + Int32.ofInt 1) = nI (i + 1) from (show nI (i) + Int32.ofInt 1 = nI (i + 1) from nI_add (i) 1)]
                    rw [show (nI (d) + Int32.ofInt (-1)) = nI ((d - 1)) from (nIdc (by omega) : nI (d) + Int32.ofInt (-1) = nI (d - 1))]
                    first
                    | exact bk1 p8 _ (by rw [if_neg p9]; rfl)
                    | exact bk1 p8 _ (by rw [if_pos (qe 8 (by decide) c_69)]; exact w1.symm)
                    | exact bkN p8 p12
                    | exact absurd c_264 (by decide)
                    | exact bkJ p8 p12 _ (by
                        unfold jnI jnB
                        repeat (first | rw [if_neg (show ¬ ¬ nI p.1 = 9 from fun z => z c_251)] | rw [if_pos c_251] | rw [if_pos c_161] | rw [if_neg (show ¬ ¬ nI p.1 = 10 from fun z => z c_161)] | rw [if_pos c_183] | rw [if_neg (show ¬ ¬ nI p.1 = 11 from fun z => z c_183)] | rw [if_pos c_205] | rw [if_neg (show ¬ ¬ nI p.1 = 13 from fun z => z c_205)] | rw [if_pos c_168] | rw [if_neg c_168] | rw [if_pos c_190] | rw [if_neg c_190] | rw [if_pos c_214] | rw [if_neg (show ¬ ¬ gA (sA g 71 V) 71 (d - 1 - 1) + gA (sA g 71 V) 71 (d - 1) = 2 from fun z => z c_214)] | rw [if_pos c_230] | rw [if_neg c_230])
                        try rfl)
                · refine J_iload (nx := 256) dX12_holdsLine_254 rfl rfl ?_
                  refine J_iload (nx := 258) dX12_holdsLine_256 rfl rfl ?_
                  refine J_iadd (nx := 259) dX12_holdsLine_258 rfl ?_
                  refine J_goto (nx := 272) dX12_holdsLine_259 (by decide) ?_
                  refine Jt_71 (nx := 273) dX12_holdsLine_272 rfl (vpE (n := ((d - 1) - 1)) (nIs (by omega) (nIdc (by omega) : nI (d) + Int32.ofInt (-1) = nI (d - 1)) (nIc 1)) (by omega) (by decide)) ?_
                  rw [clE (n := ((d - 1) - 1)) (nIs (by omega) (nIdc (by omega) : nI (d) + Int32.ofInt (-1) = nI (d - 1)) (nIc 1)) (by omega)]
                  refine J_iinc (nx := 276) dX12_holdsLine_273 rfl rfl rfl (Nat.le_of_ble_eq_true rfl) ?_
                  refine J_goto (nx := 20) dX12_holdsLine_276 (by decide) ?_
                  rw [sA_sA]
                  refine J_kill (nx := 0) 6 ?_
                  refine J_kill (nx := 0) 7 ?_
                  refine J_kill (nx := 0) 8 ?_
                  refine J_kill (nx := 0) 9 ?_
                  rw [show (nI (i) + Int32.ofInt 1) = nI (i + 1) from (show nI (i) + Int32.ofInt 1 = nI (i + 1) from nI_add (i) 1)]
                  rw [show (nI (d) + Int32.ofInt (-1)) = nI ((d - 1)) from (nIdc (by omega) : nI (d) + Int32.ofInt (-1) = nI (d - 1))]
                  first
                  | exact bk1 p8 _ (by rw [if_neg p9]; rfl)
                  | exact bk1 p8 _ (by rw [if_pos (qe 8 (by decide) c_69)]; exact w1.symm)
                  | exact bkN p8 p12
                  | exact absurd c_264 (by decide)
                  | exact bkJ p8 p12 _ (by
                      unfold jnI jnB
                      repeat (first | rw [if_neg (show ¬ ¬ nI p.1 = 9 from fun z => z c_251)] | rw [if_pos c_251] | rw [if_pos c_161] | rw [if_neg (show ¬ ¬ nI p.1 = 10 from fun z => z c_161)] | rw [if_pos c_183] | rw [if_neg (show ¬ ¬ nI p.1 = 11 from fun z => z c_183)] | rw [if_pos c_205] | rw [if_neg (show ¬ ¬ nI p.1 = 13 from fun z => z c_205)] | rw [if_pos c_168] | rw [if_neg c_168] | rw [if_pos c_190] | rw [if_neg c_190] | rw [if_pos c_214] | rw [if_neg (show ¬ ¬ gA (sA g 71 V) 71 (d - 1 - 1) + gA (sA g 71 V) 71 (d - 1) = 2 from fun z => z c_214)] | rw [if_pos c_230] | rw [if_neg c_230])
                      try rfl)
              · refine J_iconst (nx := 194) (i := 1) (v := 1) (by decide) dX12_holdsLine_193 rfl ?_
                refine J_goto (nx := 238) dX12_holdsLine_194 (by decide) ?_
                refine J_istore (nx := 240) dX12_holdsLine_238 rfl rfl (Nat.le_of_ble_eq_true rfl) ?_
                refine J_aload_n (nx := 241) dX12_holdsLine_240 rfl rfl ?_
                refine Jg_63_18 (nx := 244) dX12_holdsLine_241 rfl fl_X12_39 ?_
                refine J_iload_n (nx := 245) dX12_holdsLine_244 rfl rfl ?_
                refine J_iconst (nx := 246) (i := 1) (v := 1) (by decide) dX12_holdsLine_245 rfl ?_
                refine J_isub (nx := 247) dX12_holdsLine_246 rfl ?_
                refine J_iload (nx := 249) dX12_holdsLine_247 rfl rfl ?_
                refine J_bipush (nx := 251) (i := 9) (v := 9) (by decide) dX12_holdsLine_249 rfl ?_
                refine J_icmp_ne (nx := 254) (tgt := 262) dX12_holdsLine_251 rfl (by decide) (fun c_251 => ?_) (fun c_251 => ?_)
                · refine J_iload (nx := 264) dX12_holdsLine_262 rfl rfl ?_
                  refine J_if_eq (nx := 267) (tgt := 271) dX12_holdsLine_264 rfl (by decide) (fun c_264 => ?_) (fun c_264 => ?_)
                  · refine J_iconst (nx := 272) (i := 0) (v := 0) (by decide) dX12_holdsLine_271 rfl ?_
                    refine Jt_71 (nx := 273) dX12_holdsLine_272 rfl (vpE (n := ((d - 1) - 1)) (nIs (by omega) (nIdc (by omega) : nI (d) + Int32.ofInt (-1) = nI (d - 1)) (nIc 1)) (by omega) (by decide)) ?_
                    rw [clE (n := ((d - 1) - 1)) (nIs (by omega) (nIdc (by omega) : nI (d) + Int32.ofInt (-1) = nI (d - 1)) (nIc 1)) (by omega)]
                    refine J_iinc (nx := 276) dX12_holdsLine_273 rfl rfl rfl (Nat.le_of_ble_eq_true rfl) ?_
                    refine J_goto (nx := 20) dX12_holdsLine_276 (by decide) ?_
                    rw [sA_sA]
                    refine J_kill (nx := 0) 6 ?_
                    refine J_kill (nx := 0) 7 ?_
                    refine J_kill (nx := 0) 8 ?_
                    refine J_kill (nx := 0) 9 ?_
                    rw [show (nI (i) + Int32.ofInt 1) = nI (i + 1) from (show nI (i) + Int32.ofInt 1 = nI (i + 1) from nI_add (i) 1)]
                    rw [show (nI (d) + Int32.ofInt (-1)) = nI ((d - 1)) from (nIdc (by omega) : nI (d) + Int32.ofInt (-1) = nI (d - 1))]
                    first
                    | exact bk1 p8 _ (by rw [if_neg p9]; rfl)
                    | exact bk1 p8 _ (by rw [if_pos (qe 8 (by decide) c_69)]; exact w1.symm)
                    | exact bkN p8 p12
                    | exact absurd c_264 (by decide)
                    | exact bkJ p8 p12 _ (by
                        unfold jnI jnB
                        repeat (first | rw [if_neg (show ¬ ¬ nI p.1 = 9 from fun z => z c_251)] | rw [if_pos c_251] | rw [if_pos c_161] | rw [if_neg (show ¬ ¬ nI p.1 = 10 from fun z => z c_161)] | rw [if_pos c_183] | rw [if_neg (show ¬ ¬ nI p.1 = 11 from fun z => z c_183)] | rw [if_pos c_205] | rw [if_neg (show ¬ ¬ nI p.1 = 13 from fun z => z c_205)] | rw [if_pos c_168] | rw [if_neg c_168] | rw [if_pos c_190] | rw [if_neg c_190] | rw [if_pos c_214] | rw [if_neg (show ¬ ¬ gA (sA g 71 V) 71 (d - 1 - 1) + gA (sA g 71 V) 71 (d - 1) = 2 from fun z => z c_214)] | rw [if_pos c_230] | rw [if_neg c_230])
                        try rfl)
                  · refine J_iconst (nx := 268) (i := 1) (v := 1) (by decide) dX12_holdsLine_267 rfl ?_
                    refine J_goto (nx := 272) dX12_holdsLine_268 (by decide) ?_
                    refine Jt_71 (nx := 273) dX12_holdsLine_272 rfl (vpE (n := ((d - 1) - 1)) (nIs (by omega) (nIdc (by omega) : nI (d) + Int32.ofInt (-1) = nI (d - 1)) (nIc 1)) (by omega) (by decide)) ?_
                    rw [clE (n := ((d - 1) - 1)) (nIs (by omega) (nIdc (by omega) : nI (d) + Int32.ofInt (-1) = nI (d - 1)) (nIc 1)) (by omega)]
                    refine J_iinc (nx := 276) dX12_holdsLine_273 rfl rfl rfl (Nat.le_of_ble_eq_true rfl) ?_
                    refine J_goto (nx := 20) dX12_holdsLine_276 (by decide) ?_
                    rw [sA_sA]
                    refine J_kill (nx := 0) 6 ?_
                    refine J_kill (nx := 0) 7 ?_
                    refine J_kill (nx := 0) 8 ?_
                    refine J_kill (nx := 0) 9 ?_
                    rw [show (nI (i) + Int32.ofInt 1) = nI (i + 1) from (show nI (i) + Int32.ofInt 1 = nI (i + 1) from nI_add (i) 1)]
                    rw [show (nI (d) + Int32.ofInt (-1)) = nI ((d - 1)) from (nIdc (by omega) : nI (d) + Int32.ofInt (-1) = nI (d - 1))]
                    first
                    | exact bk1 p8 _ (by rw [if_neg p9]; rfl)
                    | exact bk1 p8 _ (by rw [if_pos (qe 8 (by decide) c_69)]; exact w1.symm)
                    | exact bkN p8 p12
                    | exact absurd c_264 (by decide)
                    | exact bkJ p8 p12 _ (by
                        unfold jnI jnB
                        repeat (first | rw [if_neg (show ¬ ¬ nI p.1 = 9 from fun z => z c_251)] | rw [if_pos c_251] | rw [if_pos c_161] | rw [if_neg (show ¬ ¬ nI p.1 = 10 from fun z => z c_161)] | rw [if_pos c_183] | rw [if_neg (show ¬ ¬ nI p.1 = 11 from fun z => z c_183)] | rw [if_pos c_205] | rw [if_neg (show ¬ ¬ nI p.1 = 13 from fun z => z c_205)] | rw [if_pos c_168] | rw [if_neg c_168] | rw [if_pos c_190] | rw [if_neg c_190] | rw [if_pos c_214] | rw [if_neg (show ¬ ¬ gA (sA g 71 V) 71 (d - 1 - 1) + gA (sA g 71 V) 71 (d - 1) = 2 from fun z => z c_214)] | rw [if_pos c_230] | rw [if_neg c_230])
                        try rfl)
                · refine J_iload (nx := 256) dX12_holdsLine_254 rfl rfl ?_
                  refine J_iload (nx := 258) dX12_holdsLine_256 rfl rfl ?_
                  refine J_iadd (nx := 259) dX12_holdsLine_258 rfl ?_
                  refine J_goto (nx := 272) dX12_holdsLine_259 (by decide) ?_
                  refine Jt_71 (nx := 273) dX12_holdsLine_272 rfl (vpE (n := ((d - 1) - 1)) (nIs (by omega) (nIdc (by omega) : nI (d) + Int32.ofInt (-1) = nI (d - 1)) (nIc 1)) (by omega) (by decide)) ?_
                  rw [clE (n := ((d - 1) - 1)) (nIs (by omega) (nIdc (by omega) : nI (d) + Int32.ofInt (-1) = nI (d - 1)) (nIc 1)) (by omega)]
                  refine J_iinc (nx := 276) dX12_holdsLine_273 rfl rfl rfl (Nat.le_of_ble_eq_true rfl) ?_
                  refine J_goto (nx := 20) dX12_holdsLine_276 (by decide) ?_
                  rw [sA_sA]
                  refine J_kill (nx := 0) 6 ?_
                  refine J_kill (nx := 0) 7 ?_
                  refine J_kill (nx := 0) 8 ?_
                  refine J_kill (nx := 0) 9 ?_
                  rw [show (nI (i) + Int32.ofInt 1) = nI (i + 1) from (show nI (i) + Int32.ofInt 1 = nI (i + 1) from nI_add (i) 1)]
                  rw [show (nI (d) + Int32.ofInt (-1)) = nI ((d - 1)) from (nIdc (by omega) : nI (d) + Int32.ofInt (-1) = nI (d - 1))]
                  first
                  | exact bk1 p8 _ (by rw [if_neg p9]; rfl)
                  | exact bk1 p8 _ (by rw [if_pos (qe 8 (by decide) c_69)]; exact w1.symm)
                  | exact bkN p8 p12
                  | exact absurd c_264 (by decide)
                  | exact bkJ p8 p12 _ (by
                      unfold jnI jnB
                      repeat (first | rw [if_neg (show ¬ ¬ nI p.1 = 9 from fun z => z c_251)] | rw [if_pos c_251] | rw [if_pos c_161] | rw [if_neg (show ¬ ¬ nI p.1 = 10 from fun z => z c_161)] | rw [if_pos c_183] | rw [if_neg (show ¬ ¬ nI p.1 = 11 from fun z => z c_183)] | rw [if_pos c_205] | rw [if_neg (show ¬ ¬ nI p.1 = 13 from fun z => z c_205)] | rw [if_pos c_168] | rw [if_neg c_168] | rw [if_pos c_190] | rw [if_neg c_190] | rw [if_pos c_214] | rw [if_neg (show ¬ ¬ gA (sA g 71 V) 71 (d - 1 - 1) + gA (sA g 71 V) 71 (d - 1) = 2 from fun z => z c_214)] | rw [if_pos c_230] | rw [if_neg c_230])
                      try rfl)
          · refine J_iload (nx := 166) dX12_holdsLine_164 rfl rfl ?_
            refine J_iload (nx := 168) dX12_holdsLine_166 rfl rfl ?_
            refine J_icmp_ge (nx := 171) (tgt := 175) dX12_holdsLine_168 rfl (by decide) (fun c_168 => ?_) (fun c_168 => ?_)
            · refine J_iconst (nx := 176) (i := 0) (v := 0) (by decide) dX12_holdsLine_175 rfl ?_
              refine J_goto (nx := 238) dX12_holdsLine_176 (by decide) ?_
              refine J_istore (nx := 240) dX12_holdsLine_238 rfl rfl (Nat.le_of_ble_eq_true rfl) ?_
              refine J_aload_n (nx := 241) dX12_holdsLine_240 rfl rfl ?_
              refine Jg_63_18 (nx := 244) dX12_holdsLine_241 rfl fl_X12_39 ?_
              refine J_iload_n (nx := 245) dX12_holdsLine_244 rfl rfl ?_
              refine J_iconst (nx := 246) (i := 1) (v := 1) (by decide) dX12_holdsLine_245 rfl ?_
              refine J_isub (nx := 247) dX12_holdsLine_246 rfl ?_
              refine J_iload (nx := 249) dX12_holdsLine_247 rfl rfl ?_
              refine J_bipush (nx := 251) (i := 9) (v := 9) (by decide) dX12_holdsLine_249 rfl ?_
              refine J_icmp_ne (nx := 254) (tgt := 262) dX12_holdsLine_251 rfl (by decide) (fun c_251 => ?_) (fun c_251 => ?_)
              · refine J_iload (nx := 264) dX12_holdsLine_262 rfl rfl ?_
                refine J_if_eq (nx := 267) (tgt := 271) dX12_holdsLine_264 rfl (by decide) (fun c_264 => ?_) (fun c_264 => ?_)
                · refine J_iconst (nx := 272) (i := 0) (v := 0) (by decide) dX12_holdsLine_271 rfl ?_
                  refine Jt_71 (nx := 273) dX12_holdsLine_272 rfl (vpE (n := ((d - 1) - 1)) (nIs (by omega) (nIdc (by omega) : nI (d) + Int32.ofInt (-1) = nI (d - 1)) (nIc 1)) (by omega) (by decide)) ?_
                  rw [clE (n := ((d - 1) - 1)) (nIs (by omega) (nIdc (by omega) : nI (d) + Int32.ofInt (-1) = nI (d - 1)) (nIc 1)) (by omega)]
                  refine J_iinc (nx := 276) dX12_holdsLine_273 rfl rfl rfl (Nat.le_of_ble_eq_true rfl) ?_
                  refine J_goto (nx := 20) dX12_holdsLine_276 (by decide) ?_
                  rw [sA_sA]
                  refine J_kill (nx := 0) 6 ?_
                  refine J_kill (nx := 0) 7 ?_
                  refine J_kill (nx := 0) 8 ?_
                  refine J_kill (nx := 0) 9 ?_
                  rw [show (nI (i) + Int32.ofInt 1) = nI (i + 1) from (show nI (i) + Int32.ofInt 1 = nI (i + 1) from nI_add (i) 1)]
                  rw [show (nI (d) + Int32.ofInt (-1)) = nI ((d - 1)) from (nIdc (by omega) : nI (d) + Int32.ofInt (-1) = nI (d - 1))]
                  first
                  | exact bk1 p8 _ (by rw [if_neg p9]; rfl)
                  | exact bk1 p8 _ (by rw [if_pos (qe 8 (by decide) c_69)]; exact w1.symm)
                  | exact bkN p8 p12
                  | exact absurd c_264 (by decide)
                  | exact bkJ p8 p12 _ (by
                      unfold jnI jnB
                      repeat (first | rw [if_neg (show ¬ ¬ nI p.1 = 9 from fun z => z c_251)] | rw [if_pos c_251] | rw [if_pos c_161] | rw [if_neg (show ¬ ¬ nI p.1 = 10 from fun z => z c_161)] | rw [if_pos c_183] | rw [if_neg (show ¬ ¬ nI p.1 = 11 from fun z => z c_183)] | rw [if_pos c_205] | rw [if_neg (show ¬ ¬ nI p.1 = 13 from fun z => z c_205)] | rw [if_pos c_168] | rw [if_neg c_168] | rw [if_pos c_190] | rw [if_neg c_190] | rw [if_pos c_214] | rw [if_neg (show ¬ ¬ gA (sA g 71 V) 71 (d - 1 - 1) + gA (sA g 71 V) 71 (d - 1) = 2 from fun z => z c_214)] | rw [if_pos c_230] | rw [if_neg c_230])
                      try rfl)
                · refine J_iconst (nx := 268) (i := 1) (v := 1) (by decide) dX12_holdsLine_267 rfl ?_
                  refine J_goto (nx := 272) dX12_holdsLine_268 (by decide) ?_
                  refine Jt_71 (nx := 273) dX12_holdsLine_272 rfl (vpE (n := ((d - 1) - 1)) (nIs (by omega) (nIdc (by omega) : nI (d) + Int32.ofInt (-1) = nI (d - 1)) (nIc 1)) (by omega) (by decide)) ?_
                  rw [clE (n := ((d - 1) - 1)) (nIs (by omega) (nIdc (by omega) : nI (d) + Int32.ofInt (-1) = nI (d - 1)) (nIc 1)) (by omega)]
                  refine J_iinc (nx := 276) dX12_holdsLine_273 rfl rfl rfl (Nat.le_of_ble_eq_true rfl) ?_
                  refine J_goto (nx := 20) dX12_holdsLine_276 (by decide) ?_
                  rw [sA_sA]
                  refine J_kill (nx := 0) 6 ?_
                  refine J_kill (nx := 0) 7 ?_
                  refine J_kill (nx := 0) 8 ?_
                  refine J_kill (nx := 0) 9 ?_
                  rw [show (nI (i) + Int32.ofInt 1) = nI (i + 1) from (show nI (i) + Int32.ofInt 1 = nI (i + 1) from nI_add (i) 1)]
                  rw [show (nI (d) + Int32.ofInt (-1)) = nI ((d - 1)) from (nIdc (by omega) : nI (d) + Int32.ofInt (-1) = nI (d - 1))]
                  first
                  | exact bk1 p8 _ (by rw [if_neg p9]; rfl)
                  | exact bk1 p8 _ (by rw [if_pos (qe 8 (by decide) c_69)]; exact w1.symm)
                  | exact bkN p8 p12
                  | exact absurd c_264 (by decide)
                  | exact bkJ p8 p12 _ (by
                      unfold jnI jnB
                      repeat (first | rw [if_neg (show ¬ ¬ nI p.1 = 9 from fun z => z c_251)] | rw [if_pos c_251] | rw [if_pos c_161] | rw [if_neg (show ¬ ¬ nI p.1 = 10 from fun z => z c_161)] | rw [if_pos c_183] | rw [if_neg (show ¬ ¬ nI p.1 = 11 from fun z => z c_183)] | rw [if_pos c_205] | rw [if_neg (show ¬ ¬ nI p.1 = 13 from fun z => z c_205)] | rw [if_pos c_168] | rw [if_neg c_168] | rw [if_pos c_190] | rw [if_neg c_190] | rw [if_pos c_214] | rw [if_neg (show ¬ ¬ gA (sA g 71 V) 71 (d - 1 - 1) + gA (sA g 71 V) 71 (d - 1) = 2 from fun z => z c_214)] | rw [if_pos c_230] | rw [if_neg c_230])
                      try rfl)
              · refine J_iload (nx := 256) dX12_holdsLine_254 rfl rfl ?_
                refine J_iload (nx := 258) dX12_holdsLine_256 rfl rfl ?_
                refine J_iadd (nx := 259) dX12_holdsLine_258 rfl ?_
                refine J_goto (nx := 272) dX12_holdsLine_259 (by decide) ?_
                refine Jt_71 (nx := 273) dX12_holdsLine_272 rfl (vpE (n := ((d - 1) - 1)) (nIs (by omega) (nIdc (by omega) : nI (d) + Int32.ofInt (-1) = nI (d - 1)) (nIc 1)) (by omega) (by decide)) ?_
                rw [clE (n := ((d - 1) - 1)) (nIs (by omega) (nIdc (by omega) : nI (d) + Int32.ofInt (-1) = nI (d - 1)) (nIc 1)) (by omega)]
                refine J_iinc (nx := 276) dX12_holdsLine_273 rfl rfl rfl (Nat.le_of_ble_eq_true rfl) ?_
                refine J_goto (nx := 20) dX12_holdsLine_276 (by decide) ?_
                rw [sA_sA]
                refine J_kill (nx := 0) 6 ?_
                refine J_kill (nx := 0) 7 ?_
                refine J_kill (nx := 0) 8 ?_
                refine J_kill (nx := 0) 9 ?_
                rw [show (nI (i) + Int32.ofInt 1) = nI (i + 1) from (show nI (i) + Int32.ofInt 1 = nI (i + 1) from nI_add (i) 1)]
                rw [show (nI (d) + Int32.ofInt (-1)) = nI ((d - 1)) from (nIdc (by omega) : nI (d) + Int32.ofInt (-1) = nI (d - 1))]
                first
                | exact bk1 p8 _ (by rw [if_neg p9]; rfl)
                | exact bk1 p8 _ (by rw [if_pos (qe 8 (by decide) c_69)]; exact w1.symm)
                | exact bkN p8 p12
                | exact absurd c_264 (by decide)
                | exact bkJ p8 p12 _ (by
                    unfold jnI jnB
                    repeat (first | rw [if_neg (show ¬ ¬ nI p.1 = 9 from fun z => z c_251)] | rw [if_pos c_251] | rw [if_pos c_161] | rw [if_neg (show ¬ ¬ nI p.1 = 10 from fun z => z c_161)] | rw [if_pos c_183] | rw [if_neg (show ¬ ¬ nI p.1 = 11 from fun z => z c_183)] | rw [if_pos c_205] | rw [if_neg (show ¬ ¬ nI p.1 = 13 from fun z => z c_205)] | rw [if_pos c_168] | rw [if_neg c_168] | rw [if_pos c_190] | rw [if_neg c_190] | rw [if_pos c_214] | rw [if_neg (show ¬ ¬ gA (sA g 71 V) 71 (d - 1 - 1) + gA (sA g 71 V) 71 (d - 1) = 2 from fun z => z c_214)] | rw [if_pos c_230] | rw [if_neg c_230])
                    try rfl)
            · refine J_iconst (nx := 172) (i := 1) (v := 1) (by decide) dX12_holdsLine_171 rfl ?_
              refine J_goto (nx := 238) dX12_holdsLine_172 (by decide) ?_
              refine J_istore (nx := 240) dX12_holdsLine_238 rfl rfl (Nat.le_of_ble_eq_true rfl) ?_
              refine J_aload_n (nx := 241) dX12_holdsLine_240 rfl rfl ?_
              refine Jg_63_18 (nx := 244) dX12_holdsLine_241 rfl fl_X12_39 ?_
              refine J_iload_n (nx := 245) dX12_holdsLine_244 rfl rfl ?_
              refine J_iconst (nx := 246) (i := 1) (v := 1) (by decide) dX12_holdsLine_245 rfl ?_
              refine J_isub (nx := 247) dX12_holdsLine_246 rfl ?_
              refine J_iload (nx := 249) dX12_holdsLine_247 rfl rfl ?_
              refine J_bipush (nx := 251) (i := 9) (v := 9) (by decide) dX12_holdsLine_249 rfl ?_
              refine J_icmp_ne (nx := 254) (tgt := 262) dX12_holdsLine_251 rfl (by decide) (fun c_251 => ?_) (fun c_251 => ?_)
              · refine J_iload (nx := 264) dX12_holdsLine_262 rfl rfl ?_
                refine J_if_eq (nx := 267) (tgt := 271) dX12_holdsLine_264 rfl (by decide) (fun c_264 => ?_) (fun c_264 => ?_)
                · refine J_iconst (nx := 272) (i := 0) (v := 0) (by decide) dX12_holdsLine_271 rfl ?_
                  refine Jt_71 (nx := 273) dX12_holdsLine_272 rfl (vpE (n := ((d - 1) - 1)) (nIs (by omega) (nIdc (by omega) : nI (d) + Int32.ofInt (-1) = nI (d - 1)) (nIc 1)) (by omega) (by decide)) ?_
                  rw [clE (n := ((d - 1) - 1)) (nIs (by omega) (nIdc (by omega) : nI (d) + Int32.ofInt (-1) = nI (d - 1)) (nIc 1)) (by omega)]
                  refine J_iinc (nx := 276) dX12_holdsLine_273 rfl rfl rfl (Nat.le_of_ble_eq_true rfl) ?_
                  refine J_goto (nx := 20) dX12_holdsLine_276 (by decide) ?_
                  rw [sA_sA]
                  refine J_kill (nx := 0) 6 ?_
                  refine J_kill (nx := 0) 7 ?_
                  refine J_kill (nx := 0) 8 ?_
                  refine J_kill (nx := 0) 9 ?_
                  rw [show (nI (i) + Int32.ofInt 1) = nI (i + 1) from (show nI (i) + Int32.ofInt 1 = nI (i + 1) from nI_add (i) 1)]
                  rw [show (nI (d) + Int32.ofInt (-1)) = nI ((d - 1)) from (nIdc (by omega) : nI (d) + Int32.ofInt (-1) = nI (d - 1))]
                  first
                  | exact bk1 p8 _ (by rw [if_neg p9]; rfl)
                  | exact bk1 p8 _ (by rw [if_pos (qe 8 (by decide) c_69)]; exact w1.symm)
                  | exact bkN p8 p12
                  | exact absurd c_264 (by decide)
                  | exact bkJ p8 p12 _ (by
                      unfold jnI jnB
                      repeat (first | rw [if_neg (show ¬ ¬ nI p.1 = 9 from fun z => z c_251)] | rw [if_pos c_251] | rw [if_pos c_161] | rw [if_neg (show ¬ ¬ nI p.1 = 10 from fun z => z c_161)] | rw [if_pos c_183] | rw [if_neg (show ¬ ¬ nI p.1 = 11 from fun z => z c_183)] | rw [if_pos c_205] | rw [if_neg (show ¬ ¬ nI p.1 = 13 from fun z => z c_205)] | rw [if_pos c_168] | rw [if_neg c_168] | rw [if_pos c_190] | rw [if_neg c_190] | rw [if_pos c_214] | rw [if_neg (show ¬ ¬ gA (sA g 71 V) 71 (d - 1 - 1) + gA (sA g 71 V) 71 (d - 1) = 2 from fun z => z c_214)] | rw [if_pos c_230] | rw [if_neg c_230])
                      try rfl)
                · refine J_iconst (nx := 268) (i := 1) (v := 1) (by decide) dX12_holdsLine_267 rfl ?_
                  refine J_goto (nx := 272) dX12_holdsLine_268 (by decide) ?_
                  refine Jt_71 (nx := 273) dX12_holdsLine_272 rfl (vpE (n := ((d - 1) - 1)) (nIs (by omega) (nIdc (by omega) : nI (d) + Int32.ofInt (-1) = nI (d - 1)) (nIc 1)) (by omega) (by decide)) ?_
                  rw [clE (n := ((d - 1) - 1)) (nIs (by omega) (nIdc (by omega) : nI (d) + Int32.ofInt (-1) = nI (d - 1)) (nIc 1)) (by omega)]
                  refine J_iinc (nx := 276) dX12_holdsLine_273 rfl rfl rfl (Nat.le_of_ble_eq_true rfl) ?_
                  refine J_goto (nx := 20) dX12_holdsLine_276 (by decide) ?_
                  rw [sA_sA]
                  refine J_kill (nx := 0) 6 ?_
                  refine J_kill (nx := 0) 7 ?_
                  refine J_kill (nx := 0) 8 ?_
                  refine J_kill (nx := 0) 9 ?_
                  rw [show (nI (i) + Int32.ofInt 1) = nI (i + 1) from (show nI (i) + Int32.ofInt 1 = nI (i + 1) from nI_add (i) 1)]
                  rw [show (nI (d) + Int32.ofInt (-1)) = nI ((d - 1)) from (nIdc (by omega) : nI (d) + Int32.ofInt (-1) = nI (d - 1))]
                  first
                  | exact bk1 p8 _ (by rw [if_neg p9]; rfl)
                  | exact bk1 p8 _ (by rw [if_pos (qe 8 (by decide) c_69)]; exact w1.symm)
                  | exact bkN p8 p12
                  | exact absurd c_264 (by decide)
                  | exact bkJ p8 p12 _ (by
                      unfold jnI jnB
                      repeat (first | rw [if_neg (show ¬ ¬ nI p.1 = 9 from fun z => z c_251)] | rw [if_pos c_251] | rw [if_pos c_161] | rw [if_neg (show ¬ ¬ nI p.1 = 10 from fun z => z c_161)] | rw [if_pos c_183] | rw [if_neg (show ¬ ¬ nI p.1 = 11 from fun z => z c_183)] | rw [if_pos c_205] | rw [if_neg (show ¬ ¬ nI p.1 = 13 from fun z => z c_205)] | rw [if_pos c_168] | rw [if_neg c_168] | rw [if_pos c_190] | rw [if_neg c_190] | rw [if_pos c_214] | rw [if_neg (show ¬ ¬ gA (sA g 71 V) 71 (d - 1 - 1) + gA (sA g 71 V) 71 (d - 1) = 2 from fun z => z c_214)] | rw [if_pos c_230] | rw [if_neg c_230])
                      try rfl)
              · refine J_iload (nx := 256) dX12_holdsLine_254 rfl rfl ?_
                refine J_iload (nx := 258) dX12_holdsLine_256 rfl rfl ?_
                refine J_iadd (nx := 259) dX12_holdsLine_258 rfl ?_
                refine J_goto (nx := 272) dX12_holdsLine_259 (by decide) ?_
                refine Jt_71 (nx := 273) dX12_holdsLine_272 rfl (vpE (n := ((d - 1) - 1)) (nIs (by omega) (nIdc (by omega) : nI (d) + Int32.ofInt (-1) = nI (d - 1)) (nIc 1)) (by omega) (by decide)) ?_
                rw [clE (n := ((d - 1) - 1)) (nIs (by omega) (nIdc (by omega) : nI (d) + Int32.ofInt (-1) = nI (d - 1)) (nIc 1)) (by omega)]
                refine J_iinc (nx := 276) dX12_holdsLine_273 rfl rfl rfl (Nat.le_of_ble_eq_true rfl) ?_
                refine J_goto (nx := 20) dX12_holdsLine_276 (by decide) ?_
                rw [sA_sA]
                refine J_kill (nx := 0) 6 ?_
                refine J_kill (nx := 0) 7 ?_
                refine J_kill (nx := 0) 8 ?_
                refine J_kill (nx := 0) 9 ?_
                rw [show (nI (i) + Int32.ofInt 1) = nI (i + 1) from (show nI (i) + Int32.ofInt 1 = nI (i + 1) from nI_add (i) 1)]
                rw [show (nI (d) + Int32.ofInt (-1)) = nI ((d - 1)) from (nIdc (by omega) : nI (d) + Int32.ofInt (-1) = nI (d - 1))]
                first
                | exact bk1 p8 _ (by rw [if_neg p9]; rfl)
                | exact bk1 p8 _ (by rw [if_pos (qe 8 (by decide) c_69)]; exact w1.symm)
                | exact bkN p8 p12
                | exact absurd c_264 (by decide)
                | exact bkJ p8 p12 _ (by
                    unfold jnI jnB
                    repeat (first | rw [if_neg (show ¬ ¬ nI p.1 = 9 from fun z => z c_251)] | rw [if_pos c_251] | rw [if_pos c_161] | rw [if_neg (show ¬ ¬ nI p.1 = 10 from fun z => z c_161)] | rw [if_pos c_183] | rw [if_neg (show ¬ ¬ nI p.1 = 11 from fun z => z c_183)] | rw [if_pos c_205] | rw [if_neg (show ¬ ¬ nI p.1 = 13 from fun z => z c_205)] | rw [if_pos c_168] | rw [if_neg c_168] | rw [if_pos c_190] | rw [if_neg c_190] | rw [if_pos c_214] | rw [if_neg (show ¬ ¬ gA (sA g 71 V) 71 (d - 1 - 1) + gA (sA g 71 V) 71 (d - 1) = 2 from fun z => z c_214)] | rw [if_pos c_230] | rw [if_neg c_230])
                    try rfl)
        · have p12 := qe 12 (by decide) c_112
          have hdq := hdp
          rw [if_neg p8, if_pos p12] at hdq
          refine J_aload_n (nx := 116) dX12_holdsLine_115 rfl rfl ?_
          refine Jg_63_18 (nx := 119) dX12_holdsLine_116 rfl fl_X12_39 ?_
          refine J_iload_n (nx := 120) dX12_holdsLine_119 rfl rfl ?_
          refine J_iconst (nx := 121) (i := 1) (v := 1) (by decide) dX12_holdsLine_120 rfl ?_
          refine J_isub (nx := 122) dX12_holdsLine_121 rfl ?_
          refine J_iconst (nx := 123) (i := 1) (v := 1) (by decide) dX12_holdsLine_122 rfl ?_
          refine J_aload_n (nx := 124) dX12_holdsLine_123 rfl rfl ?_
          refine Jg_63_18 (nx := 127) dX12_holdsLine_124 rfl fl_X12_39 ?_
          refine J_iload_n (nx := 128) dX12_holdsLine_127 rfl rfl ?_
          refine J_iconst (nx := 129) (i := 1) (v := 1) (by decide) dX12_holdsLine_128 rfl ?_
          refine J_isub (nx := 130) dX12_holdsLine_129 rfl ?_
          refine Ja_71 (nx := 131) dX12_holdsLine_130 rfl (vpE (n := (d - 1)) (nIs (by omega) (Eq.refl (nI (d))) (nIc 1)) (by omega) (by decide)) ?_
          rw [clE (n := (d - 1)) (nIs (by omega) (Eq.refl (nI (d))) (nIc 1)) (by omega)]
          refine J_isub (nx := 132) dX12_holdsLine_131 rfl ?_
          refine Jt_71 (nx := 133) dX12_holdsLine_132 rfl (vpE (n := (d - 1)) (nIs (by omega) (Eq.refl (nI (d))) (nIc 1)) (by omega) (by decide)) ?_
          rw [clE (n := (d - 1)) (nIs (by omega) (Eq.refl (nI (d))) (nIc 1)) (by omega)]
          refine J_goto (nx := 273) dX12_holdsLine_133 (by decide) ?_
          refine J_iinc (nx := 276) dX12_holdsLine_273 rfl rfl rfl (Nat.le_of_ble_eq_true rfl) ?_
          refine J_goto (nx := 20) dX12_holdsLine_276 (by decide) ?_
          rw [sA_sA]
          refine J_kill (nx := 0) 6 ?_
          refine J_kill (nx := 0) 7 ?_
          refine J_kill (nx := 0) 8 ?_
          refine J_kill (nx := 0) 9 ?_
          rw [show (nI (i) + Int32.ofInt 1) = nI (i + 1) from (show nI (i) + Int32.ofInt 1 = nI (i + 1) from nI_add (i) 1)]
          first
          | exact bk1 p8 _ (by rw [if_neg p9]; rfl)
          | exact bk1 p8 _ (by rw [if_pos (qe 8 (by decide) c_69)]; exact w1.symm)
          | exact bkN p8 p12
          | exact absurd c_264 (by decide)
          | exact bkJ p8 p12 _ (by
              unfold jnI jnB
              repeat (first | rw [if_neg (show ¬ ¬ nI p.1 = 9 from fun z => z c_251)] | rw [if_pos c_251] | rw [if_pos c_161] | rw [if_neg (show ¬ ¬ nI p.1 = 10 from fun z => z c_161)] | rw [if_pos c_183] | rw [if_neg (show ¬ ¬ nI p.1 = 11 from fun z => z c_183)] | rw [if_pos c_205] | rw [if_neg (show ¬ ¬ nI p.1 = 13 from fun z => z c_205)] | rw [if_pos c_168] | rw [if_neg c_168] | rw [if_pos c_190] | rw [if_neg c_190] | rw [if_pos c_214] | rw [if_neg (show ¬ ¬ gA (sA g 71 V) 71 (d - 1 - 1) + gA (sA g 71 V) 71 (d - 1) = 2 from fun z => z c_214)] | rw [if_pos c_230] | rw [if_neg c_230])
              try rfl)
      · have p8 := q57n c_57
        have hdq := hdp
        rw [if_pos p8] at hdq
        refine J_aload_n (nx := 61) dX12_holdsLine_60 rfl rfl ?_
        refine Jg_63_18 (nx := 64) dX12_holdsLine_61 rfl fl_X12_39 ?_
        refine J_iload_n (nx := 65) dX12_holdsLine_64 rfl rfl ?_
        refine J_iload (nx := 67) dX12_holdsLine_65 rfl rfl ?_
        refine J_bipush (nx := 69) (i := 8) (v := 8) (by decide) dX12_holdsLine_67 rfl ?_
        refine J_icmp_ne (nx := 72) (tgt := 94) dX12_holdsLine_69 rfl (by decide) (fun c_69 => ?_) (fun c_69 => ?_)
        · have p9 : ¬ p.1 = 8 := fun z => c_69 (by rw [z]; rfl)
          refine J_aload_n (nx := 95) dX12_holdsLine_94 rfl rfl ?_
          refine Jg_63_17 (nx := 98) dX12_holdsLine_95 rfl fl_X12_36 ?_
          refine J_iload (nx := 100) dX12_holdsLine_98 rfl rfl ?_
          refine Ja_70 (nx := 101) dX12_holdsLine_100 rfl (vpE (n := p.1) (Eq.refl (nI (p.1))) (by omega) (by decide)) ?_
          rw [clE (n := p.1) (Eq.refl (nI (p.1))) (by omega)]
          refine Jt_71 (nx := 102) dX12_holdsLine_101 rfl (vpE (n := d) (Eq.refl (nI (d))) (by omega) (by decide)) ?_
          rw [clE (n := d) (Eq.refl (nI (d))) (by omega)]
          refine J_iinc (nx := 105) dX12_holdsLine_102 rfl rfl rfl (Nat.le_of_ble_eq_true rfl) ?_
          refine J_goto (nx := 273) dX12_holdsLine_105 (by decide) ?_
          refine J_iinc (nx := 276) dX12_holdsLine_273 rfl rfl rfl (Nat.le_of_ble_eq_true rfl) ?_
          refine J_goto (nx := 20) dX12_holdsLine_276 (by decide) ?_
          rw [sA_sA]
          refine J_kill (nx := 0) 6 ?_
          refine J_kill (nx := 0) 7 ?_
          refine J_kill (nx := 0) 8 ?_
          refine J_kill (nx := 0) 9 ?_
          rw [show (nI (i) + Int32.ofInt 1) = nI (i + 1) from (show nI (i) + Int32.ofInt 1 = nI (i + 1) from nI_add (i) 1)]
          rw [show (nI (d) + Int32.ofInt 1) = nI ((d + 1)) from (show nI (d) + Int32.ofInt 1 = nI (d + 1) from nI_add (d) 1)]
          first
          | exact bk1 p8 _ (by rw [if_neg p9]; rfl)
          | exact bk1 p8 _ (by rw [if_pos (qe 8 (by decide) c_69)]; exact w1.symm)
          | exact bkN p8 p12
          | exact absurd c_264 (by decide)
          | exact bkJ p8 p12 _ (by
              unfold jnI jnB
              repeat (first | rw [if_neg (show ¬ ¬ nI p.1 = 9 from fun z => z c_251)] | rw [if_pos c_251] | rw [if_pos c_161] | rw [if_neg (show ¬ ¬ nI p.1 = 10 from fun z => z c_161)] | rw [if_pos c_183] | rw [if_neg (show ¬ ¬ nI p.1 = 11 from fun z => z c_183)] | rw [if_pos c_205] | rw [if_neg (show ¬ ¬ nI p.1 = 13 from fun z => z c_205)] | rw [if_pos c_168] | rw [if_neg c_168] | rw [if_pos c_190] | rw [if_neg c_190] | rw [if_pos c_214] | rw [if_neg (show ¬ ¬ gA (sA g 71 V) 71 (d - 1 - 1) + gA (sA g 71 V) 71 (d - 1) = 2 from fun z => z c_214)] | rw [if_pos c_230] | rw [if_neg c_230])
              try rfl)
        · refine J_aload_n (nx := 73) dX12_holdsLine_72 rfl rfl ?_
          refine Jg_63_1 (nx := 76) dX12_holdsLine_73 rfl fl_X12_13 ?_
          refine J_iload_n (nx := 77) dX12_holdsLine_76 rfl rfl ?_
          refine JcS1 (R' := rm (0) 0 0) (nx := 80) dX12_holdsLine_77 rfl ml_X12_textAt lk_X12_117 st_X12_textAt ⟨(Nat.le_of_ble_eq_true rfl), (Nat.le_of_ble_eq_true rfl)⟩ (Nat.le_of_ble_eq_true rfl) ⟨rfl, rfl⟩ (ct_m_textAt _ (t)) ?_
          refine J_bipush (nx := 82) (i := 61) (v := 61) (by decide) dX12_holdsLine_80 rfl ?_
          refine J_iadd (nx := 83) dX12_holdsLine_82 rfl ?_
          refine J_iconst (nx := 84) (i := 2) (v := 2) (by decide) dX12_holdsLine_83 rfl ?_
          refine J_iload (nx := 86) dX12_holdsLine_84 rfl rfl ?_
          refine J_imul (nx := 87) dX12_holdsLine_86 rfl ?_
          refine J_iadd (nx := 88) dX12_holdsLine_87 rfl ?_
          refine J_iconst (nx := 89) (i := 1) (v := 1) (by decide) dX12_holdsLine_88 rfl ?_
          refine J_iadd (nx := 90) dX12_holdsLine_89 rfl ?_
          refine Ja_64 (nx := 91) dX12_holdsLine_90 rfl (vpE (n := (((1310 + 861 * t + 61) + (2 * i)) + 1)) (nIa (nIa (nIa (Eq.refl (nI (1310 + 861 * t))) (nIc 61)) (nIm (nIc 2) (Eq.refl (nI (i))))) (nIc 1)) (by omega) (by decide)) ?_
          rw [clE (n := (((1310 + 861 * t + 61) + (2 * i)) + 1)) (nIa (nIa (nIa (Eq.refl (nI (1310 + 861 * t))) (nIc 61)) (nIm (nIc 2) (Eq.refl (nI (i))))) (nIc 1)) (by omega)]
          refine J_goto (nx := 101) dX12_holdsLine_91 (by decide) ?_
          refine Jt_71 (nx := 102) dX12_holdsLine_101 rfl (vpE (n := d) (Eq.refl (nI (d))) (by omega) (by decide)) ?_
          rw [clE (n := d) (Eq.refl (nI (d))) (by omega)]
          refine J_iinc (nx := 105) dX12_holdsLine_102 rfl rfl rfl (Nat.le_of_ble_eq_true rfl) ?_
          refine J_goto (nx := 273) dX12_holdsLine_105 (by decide) ?_
          refine J_iinc (nx := 276) dX12_holdsLine_273 rfl rfl rfl (Nat.le_of_ble_eq_true rfl) ?_
          refine J_goto (nx := 20) dX12_holdsLine_276 (by decide) ?_
          rw [sA_sA]
          refine J_kill (nx := 0) 6 ?_
          refine J_kill (nx := 0) 7 ?_
          refine J_kill (nx := 0) 8 ?_
          refine J_kill (nx := 0) 9 ?_
          rw [show (nI (i) + Int32.ofInt 1) = nI (i + 1) from (show nI (i) + Int32.ofInt 1 = nI (i + 1) from nI_add (i) 1)]
          rw [show (nI (d) + Int32.ofInt 1) = nI ((d + 1)) from (show nI (d) + Int32.ofInt 1 = nI (d + 1) from nI_add (d) 1)]
          first
          | exact bk1 p8 _ (by rw [if_neg p9]; rfl)
          | exact bk1 p8 _ (by rw [if_pos (qe 8 (by decide) c_69)]; exact w1.symm)
          | exact bkN p8 p12
          | exact absurd c_264 (by decide)
          | exact bkJ p8 p12 _ (by
              unfold jnI jnB
              repeat (first | rw [if_neg (show ¬ ¬ nI p.1 = 9 from fun z => z c_251)] | rw [if_pos c_251] | rw [if_pos c_161] | rw [if_neg (show ¬ ¬ nI p.1 = 10 from fun z => z c_161)] | rw [if_pos c_183] | rw [if_neg (show ¬ ¬ nI p.1 = 11 from fun z => z c_183)] | rw [if_pos c_205] | rw [if_neg (show ¬ ¬ nI p.1 = 13 from fun z => z c_205)] | rw [if_pos c_168] | rw [if_neg c_168] | rw [if_pos c_190] | rw [if_neg c_190] | rw [if_pos c_214] | rw [if_neg (show ¬ ¬ gA (sA g 71 V) 71 (d - 1 - 1) + gA (sA g 71 V) 71 (d - 1) = 2 from fun z => z c_214)] | rw [if_pos c_230] | rw [if_neg c_230])
              try rfl)

set_option maxRecDepth 100000 in
set_option maxHeartbeats 4000000 in
theorem ct_m_holdsLine (g : GS) (t n b : Nat) (ps : List SP) (ht : t ≤ 5) (hn : n < 12) (h : MLine (gA g 64) t n b ps) : Ct mX12_holdsLine (rm 2 0 0) [.ref 63, .int (nI (t)), .int (nI (n))] (Wd g) (RXi (fun x g1 => x = bI (txH (gA g 70) ps) ∧ ∃ V1, g1 = sA g 71 V1)) := by
  refine Ct.of (by decide +kernel) (Nat.le_of_ble_eq_true rfl) ?_
  show J _ _ _ _ 0 [some (.ref 63), some (.int (nI (t))), some (.int (nI (n))), none, none, none, none, none, none, none] [] _ 0 0
  refine J_iconst (nx := 1) (i := 0) (v := 0) (by decide) dX12_holdsLine_0 rfl ?_
  refine J_istore_n (nx := 2) dX12_holdsLine_1 rfl rfl (Nat.le_of_ble_eq_true rfl) ?_
  refine J_iload_n (nx := 3) dX12_holdsLine_2 rfl rfl ?_
  refine J_iload_n (nx := 4) dX12_holdsLine_3 rfl rfl ?_
  refine JcS2 (R' := rm (1) 0 0) (nx := 7) dX12_holdsLine_4 rfl ml_X12_lineAt lk_X12_218 st_X12_lineAt ⟨(Nat.le_of_ble_eq_true rfl), (Nat.le_of_ble_eq_true rfl)⟩ (Nat.le_of_ble_eq_true rfl) ⟨rfl, rfl⟩ (ct_m_lineAt _ (t) (n)) ?_
  refine J_istore (nx := 9) dX12_holdsLine_7 rfl rfl (Nat.le_of_ble_eq_true rfl) ?_
  refine J_aload_n (nx := 10) dX12_holdsLine_9 rfl rfl ?_
  refine Jg_63_1 (nx := 13) dX12_holdsLine_10 rfl fl_X12_13 ?_
  refine J_iload (nx := 15) dX12_holdsLine_13 rfl rfl ?_
  refine J_iconst (nx := 16) (i := 3) (v := 3) (by decide) dX12_holdsLine_15 rfl ?_
  refine J_iadd (nx := 17) dX12_holdsLine_16 rfl ?_
  refine Ja_64 (nx := 18) dX12_holdsLine_17 rfl (vpE (n := (1310 + 861 * t + 1 + 5 * n + 3)) (nIa (Eq.refl (nI (1310 + 861 * t + 1 + 5 * n))) (nIc 3)) (by omega) (by decide)) ?_
  rw [clE (n := (1310 + 861 * t + 1 + 5 * n + 3)) (nIa (Eq.refl (nI (1310 + 861 * t + 1 + 5 * n))) (nIc 3)) (by omega)]
  refine J_istore (nx := 20) dX12_holdsLine_18 rfl rfl (Nat.le_of_ble_eq_true rfl) ?_
  refine J_kill (nx := 0) 6 ?_
  rw [show gA g 64 (1310 + 861 * t + 1 + 5 * n + 3) = nI b from h.1]
  rw [show Wd g = Wd (sA g 71 (gA g 71)) from congrArg Wd (sA_self g 71).symm]
  exact lp_m_holds g t n (b + ps.length) ht hn h.2.1 h.2.2.1 _ _ ps.length b 0 [] (gA g 71) ps rfl rfl rfl (by decide) h.2.2.2.1 h.2.2.2.2 (fun q hq => absurd hq (by simp)) rfl

