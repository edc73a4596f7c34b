
/-! throwing -/
def xGood (w : Cond) : Bool := match w with
  | .declares _ => true
  | .castable _ _ => true
  | w => goodWord w
theorem xW_all {ws : List Cond} (ps : List Nat) (hp : ws = ps.filterMap (fun i => lw_tbl[i]?)) (h : ws.all xGood = true) : ∀ w ∈ ws, w ∈ lw_tbl ∧ xGood w = true := fun w hw => by
  have h1 := List.all_eq_true.mp h w hw
  rw [hp] at hw
  obtain ⟨i, -, hi⟩ := List.mem_filterMap.mp hw
  exact ⟨List.mem_of_getElem? hi, h1⟩
theorem J_throw0 {M : MI} {R : Room} {Q : Res → List ME → Prop} {n0 pc : Nat} {L : List (Option Value)} {rest : List Value} {es : List ME} {k ks : Nat} {cls : String} {names : List String} {ik ic : Nat} (hcls : Bundle.fit cls = true) (hnames : ∀ n ∈ names, Bundle.fit n = true)
    (hW : ∀ w ∈ Cond.classLink M.1.cls ik cls :: Cond.initialized cls :: vx_at0 M.1.cls ic cls names, w ∈ lw_tbl ∧ xGood w = true)
    (d0 : decode M.2.1 pc = .ok (.new ik, 3)) (d3 : decode M.2.1 (pc + 3) = .ok (.dup, 1)) (d4 : decode M.2.1 (pc + 4) = .ok (.invokespecial ic, 3)) (d7 : decode M.2.1 (pc + 7) = .ok (.athrow, 1))
    (hr : names.length + 3 < R.frames ∧ (rest.map fun v => v.category).sum + (13 * (names.length + 1) + 42) ≤ R.locals) (hk : k + 1 ≤ R.cells ∧ ks + 6 ≤ R.slots) (hq : Q (.inr cls) es) : J M R Q n0 pc L rest es k ks := by
  intro p l e s m args below meth c D cA ad0 A B0 H locs ls ad hC hR
  have hts : ∀ w ∈ Cond.classLink M.1.cls ik cls :: Cond.initialized cls :: vx_at0 M.1.cls ic cls names, w.before args s = true := fun w hw => by
    obtain ⟨h1, h2⟩ := hW w hw
    by_cases hg : goodWord w = true
    · exact hC.1.2.2.2.2.2 w (List.mem_filter.mpr ⟨h1, by simpa using hg⟩)
    · cases w with
      | declares x => exact va_Nw.use rfl (hC.2.2.2.2.1.2.2.2.1.2.1 x h1)
      | castable C T => exact va_Nw.use rfl (hC.2.2.2.2.1.2.2.2.1.2.2.1 C T h1)
      | _ => exact absurd h2 hg
  have hvo : ∀ w ∈ Cond.classLink M.1.cls ik cls :: Cond.initialized cls :: vx_at0 M.1.cls ic cls names, vx_ot w = true := fun w hw => by
    obtain ⟨h1, h2⟩ := hW w hw
    unfold vx_ot
    by_cases hg : goodWord w = true
    · rw [hg]; exact Bool.or_true _
    · cases w with
      | declares x => rfl
      | castable C T => rfl
      | _ => exact absurd h2 hg
  refine vx_throw0 (cc := M.2.1) (own := M.1.cls) (cls := cls) (names := names) (ik := ik) (ic := ic) (A := A) hC.1.1 hC.1.2.1 hC.2.2.2.2.2 hC.1.2.2.2.2.1 hcls hnames (hts _ List.mem_cons_self) (hts _ (List.mem_cons_of_mem _ List.mem_cons_self)) (fun w hw => hts _ (List.mem_cons_of_mem _ (List.mem_cons_of_mem _ hw))) hvo
    (hC.2.2.2.2.1.1.narrow hC.2.2.1.2.1) (hC.2.2.2.2.1.2.1.narrow hC.2.2.1.2.1) hR.2.1 (hR.2.2.1.1.trans hC.1.2.2.1.symm) d0 d3 d4 d7 (fun x hx => (hC.2.1.2.2 x hx).elim) hr.1 ?_ hk.1 hk.2 hC.2.1.1 ?_ hR.2.1.2.2 hk.1 hk.2
  · rw [List.map_map]
    have : ((fun v => v.category) ∘ rv ad) = fun v => v.category := by funext v; exact rv_cat ad v
    rw [this]; exact hr.2
  · intro t hvm hsz hq2
    refine ⟨⟨es, ad, hq, ⟨hR.1.1, hR.1.2.1, hR.1.2.2.1, hR.1.2.2.2.1, hR.1.2.2.2.2.1.kept (fun k q hk => hq2 _ (vx_lt hR.1.2.2.2.2.1 hk)), hR.1.2.2.2.2.2⟩, va_K.moved hvm hC.2.2.2.1⟩, Nat.le_trans hR.2.1.1 hsz, fun q h1 h2 => (hq2 q (Nat.lt_of_lt_of_le h1 hR.2.1.1)).trans (hR.2.1.2.1 q h1 h2)⟩
def xNm : List String := ["java/lang/RuntimeException", "java/lang/Exception"]

def x_iob : String := "java/lang/IndexOutOfBoundsException"
theorem xw_iob : ∀ w ∈ Cond.classLink RX11 352 x_iob :: Cond.initialized x_iob :: vx_at0 RX11 354 x_iob xNm, w ∈ lw_tbl ∧ xGood w = true := xW_all [975, 116, 110, 871, 880, 885, 888, 890, 872, 873, 124, 125, 874, 879, 886, 902, 861, 903, 863, 904, 865, 875, 877, 867, 985, 986, 987, 895, 852, 895, 896, 897, 898, 854, 898, 899, 900, 872, 856, 984, 976, 977, 978, 882, 979, 980, 981, 982, 870, 869, 983] (by decide +kernel) (by decide +kernel)
theorem xf_iob : Bundle.fit x_iob = true ∧ ∀ n ∈ xNm, Bundle.fit n = true := ⟨by decide +kernel, by decide +kernel⟩
def x_iae : String := "java/lang/IllegalArgumentException"
theorem xw_iae : ∀ w ∈ Cond.classLink RX11 355 x_iae :: Cond.initialized x_iae :: vx_at0 RX11 357 x_iae xNm, w ∈ lw_tbl ∧ xGood w = true := xW_all [849, 113, 110, 871, 880, 885, 888, 890, 872, 873, 124, 125, 874, 879, 886, 902, 861, 903, 863, 904, 865, 875, 877, 867, 892, 893, 894, 895, 852, 895, 896, 897, 898, 854, 898, 899, 900, 872, 856, 891, 850, 851, 858, 859, 860, 862, 864, 866, 870, 869, 868] (by decide +kernel) (by decide +kernel)
theorem xf_iae : Bundle.fit x_iae = true ∧ ∀ n ∈ xNm, Bundle.fit n = true := ⟨by decide +kernel, by decide +kernel⟩
def x_uoe : String := "java/lang/UnsupportedOperationException"
theorem xw_uoe : ∀ w ∈ Cond.classLink RX11 358 x_uoe :: Cond.initialized x_uoe :: vx_at0 RX11 360 x_uoe xNm, w ∈ lw_tbl ∧ xGood w = true := xW_all [916, 114, 110, 871, 880, 885, 888, 890, 872, 873, 124, 125, 874, 879, 886, 902, 861, 903, 863, 904, 865, 875, 877, 867, 926, 927, 928, 895, 852, 895, 896, 897, 898, 854, 898, 899, 900, 872, 856, 925, 917, 918, 919, 883, 920, 921, 922, 923, 870, 869, 924] (by decide +kernel) (by decide +kernel)
theorem xf_uoe : Bundle.fit x_uoe = true ∧ ∀ n ∈ xNm, Bundle.fit n = true := ⟨by decide +kernel, by decide +kernel⟩
def x_nse : String := "java/util/NoSuchElementException"
theorem xw_nse : ∀ w ∈ Cond.classLink RX11 361 x_nse :: Cond.initialized x_nse :: vx_at0 RX11 363 x_nse xNm, w ∈ lw_tbl ∧ xGood w = true := xW_all [993, 117, 110, 871, 880, 885, 888, 890, 872, 873, 124, 125, 874, 879, 886, 902, 861, 903, 863, 904, 865, 875, 877, 867, 1003, 1004, 1005, 895, 852, 895, 896, 897, 898, 854, 898, 899, 900, 872, 856, 1002, 994, 995, 996, 884, 997, 998, 999, 1000, 870, 869, 1001] (by decide +kernel) (by decide +kernel)
theorem xf_nse : Bundle.fit x_nse = true ∧ ∀ n ∈ xNm, Bundle.fit n = true := ⟨by decide +kernel, by decide +kernel⟩

/-- it returns where b holds, else throws E; the world is as it was -/
def RQ (b : Bool) (E : String) (g : GS) : Res → List ME → Prop := fun r es => (b = true ∧ r = .inl none ∧ es = Wd g) ∨ (b = false ∧ r = .inr E ∧ es = Wd g)
/-- what must hold, one behind the other, or E is thrown -/
def FX : List (Bool × String) → (Res → List ME → Prop) → GS → Res → List ME → Prop
  | [], Q, _ => Q
  | (b, E) :: t, Q, g => fun r es => (b = false ∧ r = .inr E ∧ es = Wd g) ∨ (b = true ∧ FX t Q g r es)

theorem JcKS0 {M : MI} {R : Room} {Q : Res → List ME → Prop} {n0 pc nx : Nat} {L : List (Option Value)} {rest : List Value} {g : GS} {k ks : Nat} {M' : MI} {R' : Room} {idx : Nat} {g1 : GS} {v : Option Value} (d : decode M.2.1 pc = .ok (.invokestatic idx, 3)) (hn : pc + 3 = nx) (hml : ML M' 0) (hlk : Cond.methodLink M.1.cls idx M'.1 ∈ TT) (hst : Cond.static M'.1 ∈ TT) (hroom : R'.frames + 1 ≤ R.frames ∧ 8 + (M'.2.2.1 + 11) + R'.locals ≤ R.locals) (hcat : (rest.map fun v => v.category).sum ≤ 8) (hz : R'.cells = 0 ∧ R'.slots = 0) (hk : k ≤ R.cells ∧ ks ≤ R.slots) (hct : Ct M' R' [] (Wd g) (RR (.inl v) g1)) (h : J M R (Q) n0 nx L (v.toList ++ rest) (Wd g1) k ks) : J M R (Q) n0 pc L (rest) (Wd g) k ks :=
  J_callS (As := []) d hn hml hlk hst rfl hroom hcat ⟨by rw [hz.1]; exact hk.1, by rw [hz.2]; exact hk.2⟩ hct (fun E es' hq => by cases hq.1) (fun v' es' hq => by
    obtain ⟨h1, rfl⟩ := hq
    cases h1
    rw [hz.1, hz.2]
    exact h)
theorem JiKS0 {M : MI} {R : Room} {Q : Res → List ME → Prop} {n0 pc nx : Nat} {L : List (Option Value)} {rest : List Value} {g : GS} {k ks : Nat} {M' : MI} {R' : Room} {idx : Nat} {P : Int32 → GS → Prop} (d : decode M.2.1 pc = .ok (.invokestatic idx, 3)) (hn : pc + 3 = nx) (hml : ML M' 0) (hlk : Cond.methodLink M.1.cls idx M'.1 ∈ TT) (hst : Cond.static M'.1 ∈ TT) (hroom : R'.frames + 1 ≤ R.frames ∧ 8 + (M'.2.2.1 + 11) + R'.locals ≤ R.locals) (hcat : (rest.map fun v => v.category).sum ≤ 8) (hz : R'.cells = 0 ∧ R'.slots = 0) (hk : k ≤ R.cells ∧ ks ≤ R.slots) (hct : Ct M' R' [] (Wd g) (RXi P)) (h : ∀ (x : Int32) (g1 : GS), P x g1 → J M R (Q) n0 nx L (.int x :: rest) (Wd g1) k ks) : J M R (Q) n0 pc L (rest) (Wd g) k ks :=
  J_callS (As := []) d hn hml hlk hst rfl hroom hcat ⟨by rw [hz.1]; exact hk.1, by rw [hz.2]; exact hk.2⟩ hct (fun E es' hq => by obtain ⟨v, g1, h1, -⟩ := hq; cases h1) (fun v' es' hq => by
    obtain ⟨v, g1, h1, rfl, hp⟩ := hq
    cases h1
    rw [hz.1, hz.2]
    exact h _ _ hp)
theorem JlKS0 {M : MI} {R : Room} {Q : Res → List ME → Prop} {n0 pc nx : Nat} {L : List (Option Value)} {rest : List Value} {g : GS} {k ks : Nat} {M' : MI} {R' : Room} {idx : Nat} {P : Int64 → GS → Prop} (d : decode M.2.1 pc = .ok (.invokestatic idx, 3)) (hn : pc + 3 = nx) (hml : ML M' 0) (hlk : Cond.methodLink M.1.cls idx M'.1 ∈ TT) (hst : Cond.static M'.1 ∈ TT) (hroom : R'.frames + 1 ≤ R.frames ∧ 8 + (M'.2.2.1 + 11) + R'.locals ≤ R.locals) (hcat : (rest.map fun v => v.category).sum ≤ 8) (hz : R'.cells = 0 ∧ R'.slots = 0) (hk : k ≤ R.cells ∧ ks ≤ R.slots) (hct : Ct M' R' [] (Wd g) (RXl P)) (h : ∀ (x : Int64) (g1 : GS), P x g1 → J M R (Q) n0 nx L (.long x :: rest) (Wd g1) k ks) : J M R (Q) n0 pc L (rest) (Wd g) k ks :=
  J_callS (As := []) d hn hml hlk hst rfl hroom hcat ⟨by rw [hz.1]; exact hk.1, by rw [hz.2]; exact hk.2⟩ hct (fun E es' hq => by obtain ⟨v, g1, h1, -⟩ := hq; cases h1) (fun v' es' hq => by
    obtain ⟨v, g1, h1, rfl, hp⟩ := hq
    cases h1
    rw [hz.1, hz.2]
    exact h _ _ hp)
theorem JvKS0 {M : MI} {R : Room} {Q : Res → List ME → Prop} {n0 pc nx : Nat} {L : List (Option Value)} {rest : List Value} {g : GS} {k ks : Nat} {M' : MI} {R' : Room} {idx : Nat} {P : GS → Prop} (d : decode M.2.1 pc = .ok (.invokestatic idx, 3)) (hn : pc + 3 = nx) (hml : ML M' 0) (hlk : Cond.methodLink M.1.cls idx M'.1 ∈ TT) (hst : Cond.static M'.1 ∈ TT) (hroom : R'.frames + 1 ≤ R.frames ∧ 8 + (M'.2.2.1 + 11) + R'.locals ≤ R.locals) (hcat : (rest.map fun v => v.category).sum ≤ 8) (hz : R'.cells = 0 ∧ R'.slots = 0) (hk : k ≤ R.cells ∧ ks ≤ R.slots) (hct : Ct M' R' [] (Wd g) (RXv P)) (h : ∀ (g1 : GS), P g1 → J M R (Q) n0 nx L (rest) (Wd g1) k ks) : J M R (Q) n0 pc L (rest) (Wd g) k ks :=
  J_callS (As := []) d hn hml hlk hst rfl hroom hcat ⟨by rw [hz.1]; exact hk.1, by rw [hz.2]; exact hk.2⟩ hct (fun E es' hq => by obtain ⟨g1, h1, -⟩ := hq; cases h1) (fun v' es' hq => by
    obtain ⟨g1, h1, rfl, hp⟩ := hq
    cases h1
    rw [hz.1, hz.2]
    exact h _ hp)
theorem JcKV0 {M : MI} {R : Room} {Q : Res → List ME → Prop} {n0 pc nx : Nat} {L : List (Option Value)} {rest : List Value} {g : GS} {k ks : Nat} {M' : MI} {R' : Room} {b : Nat} {idx : Nat} {g1 : GS} {v : Option Value} (d : decode M.2.1 pc = .ok (.invokevirtual idx, 3)) (hn : pc + 3 = nx) (hml : ML M' 0) (hlk : Cond.methodLink M.1.cls idx M'.1 ∈ TT) (hins : Cond.instanceMethod M'.1 ∈ TT ∧ Cond.selects M'.1.cls M'.1 M'.1 ∈ TT) {T : u_T} {N ci : Nat} (hcl : vwCl[ci]? = some (M'.1.cls, T, N)) {fs : List Value} (he : (Wd g)[b]? = some (.inr (ci, fs))) (hroom : R'.frames + 1 ≤ R.frames ∧ 8 + (M'.2.2.1 + 11) + R'.locals ≤ R.locals) (hcat : (rest.map fun v => v.category).sum ≤ 8) (hz : R'.cells = 0 ∧ R'.slots = 0) (hk : k ≤ R.cells ∧ ks ≤ R.slots) (hct : Ct M' R' (.ref b :: []) (Wd g) (RR (.inl v) g1)) (h : J M R (Q) n0 nx L (v.toList ++ rest) (Wd g1) k ks) : J M R (Q) n0 pc L (.ref b :: rest) (Wd g) k ks :=
  J_callV (b := b) (As := []) d hn hml hlk hins hcl he rfl hroom hcat ⟨by rw [hz.1]; exact hk.1, by rw [hz.2]; exact hk.2⟩ hct (fun E es' hq => by cases hq.1) (fun v' es' hq => by
    obtain ⟨h1, rfl⟩ := hq
    cases h1
    rw [hz.1, hz.2]
    exact h)
theorem JiKV0 {M : MI} {R : Room} {Q : Res → List ME → Prop} {n0 pc nx : Nat} {L : List (Option Value)} {rest : List Value} {g : GS} {k ks : Nat} {M' : MI} {R' : Room} {b : Nat} {idx : Nat} {P : Int32 → GS → Prop} (d : decode M.2.1 pc = .ok (.invokevirtual idx, 3)) (hn : pc + 3 = nx) (hml : ML M' 0) (hlk : Cond.methodLink M.1.cls idx M'.1 ∈ TT) (hins : Cond.instanceMethod M'.1 ∈ TT ∧ Cond.selects M'.1.cls M'.1 M'.1 ∈ TT) {T : u_T} {N ci : Nat} (hcl : vwCl[ci]? = some (M'.1.cls, T, N)) {fs : List Value} (he : (Wd g)[b]? = some (.inr (ci, fs))) (hroom : R'.frames + 1 ≤ R.frames ∧ 8 + (M'.2.2.1 + 11) + R'.locals ≤ R.locals) (hcat : (rest.map fun v => v.category).sum ≤ 8) (hz : R'.cells = 0 ∧ R'.slots = 0) (hk : k ≤ R.cells ∧ ks ≤ R.slots) (hct : Ct M' R' (.ref b :: []) (Wd g) (RXi P)) (h : ∀ (x : Int32) (g1 : GS), P x g1 → J M R (Q) n0 nx L (.int x :: rest) (Wd g1) k ks) : J M R (Q) n0 pc L (.ref b :: rest) (Wd g) k ks :=
  J_callV (b := b) (As := []) d hn hml hlk hins hcl he rfl hroom hcat ⟨by rw [hz.1]; exact hk.1, by rw [hz.2]; exact hk.2⟩ hct (fun E es' hq => by obtain ⟨v, g1, h1, -⟩ := hq; cases h1) (fun v' es' hq => by
    obtain ⟨v, g1, h1, rfl, hp⟩ := hq
    cases h1
    rw [hz.1, hz.2]
    exact h _ _ hp)
theorem JlKV0 {M : MI} {R : Room} {Q : Res → List ME → Prop} {n0 pc nx : Nat} {L : List (Option Value)} {rest : List Value} {g : GS} {k ks : Nat} {M' : MI} {R' : Room} {b : Nat} {idx : Nat} {P : Int64 → GS → Prop} (d : decode M.2.1 pc = .ok (.invokevirtual idx, 3)) (hn : pc + 3 = nx) (hml : ML M' 0) (hlk : Cond.methodLink M.1.cls idx M'.1 ∈ TT) (hins : Cond.instanceMethod M'.1 ∈ TT ∧ Cond.selects M'.1.cls M'.1 M'.1 ∈ TT) {T : u_T} {N ci : Nat} (hcl : vwCl[ci]? = some (M'.1.cls, T, N)) {fs : List Value} (he : (Wd g)[b]? = some (.inr (ci, fs))) (hroom : R'.frames + 1 ≤ R.frames ∧ 8 + (M'.2.2.1 + 11) + R'.locals ≤ R.locals) (hcat : (rest.map fun v => v.category).sum ≤ 8) (hz : R'.cells = 0 ∧ R'.slots = 0) (hk : k ≤ R.cells ∧ ks ≤ R.slots) (hct : Ct M' R' (.ref b :: []) (Wd g) (RXl P)) (h : ∀ (x : Int64) (g1 : GS), P x g1 → J M R (Q) n0 nx L (.long x :: rest) (Wd g1) k ks) : J M R (Q) n0 pc L (.ref b :: rest) (Wd g) k ks :=
  J_callV (b := b) (As := []) d hn hml hlk hins hcl he rfl hroom hcat ⟨by rw [hz.1]; exact hk.1, by rw [hz.2]; exact hk.2⟩ hct (fun E es' hq => by obtain ⟨v, g1, h1, -⟩ := hq; cases h1) (fun v' es' hq => by
    obtain ⟨v, g1, h1, rfl, hp⟩ := hq
    cases h1
    rw [hz.1, hz.2]
    exact h _ _ hp)
theorem JvKV0 {M : MI} {R : Room} {Q : Res → List ME → Prop} {n0 pc nx : Nat} {L : List (Option Value)} {rest : List Value} {g : GS} {k ks : Nat} {M' : MI} {R' : Room} {b : Nat} {idx : Nat} {P : GS → Prop} (d : decode M.2.1 pc = .ok (.invokevirtual idx, 3)) (hn : pc + 3 = nx) (hml : ML M' 0) (hlk : Cond.methodLink M.1.cls idx M'.1 ∈ TT) (hins : Cond.instanceMethod M'.1 ∈ TT ∧ Cond.selects M'.1.cls M'.1 M'.1 ∈ TT) {T : u_T} {N ci : Nat} (hcl : vwCl[ci]? = some (M'.1.cls, T, N)) {fs : List Value} (he : (Wd g)[b]? = some (.inr (ci, fs))) (hroom : R'.frames + 1 ≤ R.frames ∧ 8 + (M'.2.2.1 + 11) + R'.locals ≤ R.locals) (hcat : (rest.map fun v => v.category).sum ≤ 8) (hz : R'.cells = 0 ∧ R'.slots = 0) (hk : k ≤ R.cells ∧ ks ≤ R.slots) (hct : Ct M' R' (.ref b :: []) (Wd g) (RXv P)) (h : ∀ (g1 : GS), P g1 → J M R (Q) n0 nx L (rest) (Wd g1) k ks) : J M R (Q) n0 pc L (.ref b :: rest) (Wd g) k ks :=
  J_callV (b := b) (As := []) d hn hml hlk hins hcl he rfl hroom hcat ⟨by rw [hz.1]; exact hk.1, by rw [hz.2]; exact hk.2⟩ hct (fun E es' hq => by obtain ⟨g1, h1, -⟩ := hq; cases h1) (fun v' es' hq => by
    obtain ⟨g1, h1, rfl, hp⟩ := hq
    cases h1
    rw [hz.1, hz.2]
    exact h _ hp)
theorem JcKS1 {M : MI} {R : Room} {Q : Res → List ME → Prop} {n0 pc nx : Nat} {L : List (Option Value)} {rest : List Value} {g : GS} {k ks : Nat} {M' : MI} {R' : Room} {v1 : Value} {idx : Nat} {g1 : GS} {v : Option Value} (d : decode M.2.1 pc = .ok (.invokestatic idx, 3)) (hn : pc + 3 = nx) (hml : ML M' 1) (hlk : Cond.methodLink M.1.cls idx M'.1 ∈ TT) (hst : Cond.static M'.1 ∈ TT) (hroom : R'.frames + 1 ≤ R.frames ∧ 8 + (M'.2.2.1 + 11) + R'.locals ≤ R.locals) (hcat : (rest.map fun v => v.category).sum ≤ 8) (hz : R'.cells = 0 ∧ R'.slots = 0) (hk : k ≤ R.cells ∧ ks ≤ R.slots) (hct : Ct M' R' [v1] (Wd g) (RR (.inl v) g1)) (h : J M R (Q) n0 nx L (v.toList ++ rest) (Wd g1) k ks) : J M R (Q) n0 pc L (v1 :: rest) (Wd g) k ks :=
  J_callS (As := [v1]) d hn hml hlk hst rfl hroom hcat ⟨by rw [hz.1]; exact hk.1, by rw [hz.2]; exact hk.2⟩ hct (fun E es' hq => by cases hq.1) (fun v' es' hq => by
    obtain ⟨h1, rfl⟩ := hq
    cases h1
    rw [hz.1, hz.2]
    exact h)
theorem JiKS1 {M : MI} {R : Room} {Q : Res → List ME → Prop} {n0 pc nx : Nat} {L : List (Option Value)} {rest : List Value} {g : GS} {k ks : Nat} {M' : MI} {R' : Room} {v1 : Value} {idx : Nat} {P : Int32 → GS → Prop} (d : decode M.2.1 pc = .ok (.invokestatic idx, 3)) (hn : pc + 3 = nx) (hml : ML M' 1) (hlk : Cond.methodLink M.1.cls idx M'.1 ∈ TT) (hst : Cond.static M'.1 ∈ TT) (hroom : R'.frames + 1 ≤ R.frames ∧ 8 + (M'.2.2.1 + 11) + R'.locals ≤ R.locals) (hcat : (rest.map fun v => v.category).sum ≤ 8) (hz : R'.cells = 0 ∧ R'.slots = 0) (hk : k ≤ R.cells ∧ ks ≤ R.slots) (hct : Ct M' R' [v1] (Wd g) (RXi P)) (h : ∀ (x : Int32) (g1 : GS), P x g1 → J M R (Q) n0 nx L (.int x :: rest) (Wd g1) k ks) : J M R (Q) n0 pc L (v1 :: rest) (Wd g) k ks :=
  J_callS (As := [v1]) d hn hml hlk hst rfl hroom hcat ⟨by rw [hz.1]; exact hk.1, by rw [hz.2]; exact hk.2⟩ hct (fun E es' hq => by obtain ⟨v, g1, h1, -⟩ := hq; cases h1) (fun v' es' hq => by
    obtain ⟨v, g1, h1, rfl, hp⟩ := hq
    cases h1
    rw [hz.1, hz.2]
    exact h _ _ hp)
theorem JlKS1 {M : MI} {R : Room} {Q : Res → List ME → Prop} {n0 pc nx : Nat} {L : List (Option Value)} {rest : List Value} {g : GS} {k ks : Nat} {M' : MI} {R' : Room} {v1 : Value} {idx : Nat} {P : Int64 → GS → Prop} (d : decode M.2.1 pc = .ok (.invokestatic idx, 3)) (hn : pc + 3 = nx) (hml : ML M' 1) (hlk : Cond.methodLink M.1.cls idx M'.1 ∈ TT) (hst : Cond.static M'.1 ∈ TT) (hroom : R'.frames + 1 ≤ R.frames ∧ 8 + (M'.2.2.1 + 11) + R'.locals ≤ R.locals) (hcat : (rest.map fun v => v.category).sum ≤ 8) (hz : R'.cells = 0 ∧ R'.slots = 0) (hk : k ≤ R.cells ∧ ks ≤ R.slots) (hct : Ct M' R' [v1] (Wd g) (RXl P)) (h : ∀ (x : Int64) (g1 : GS), P x g1 → J M R (Q) n0 nx L (.long x :: rest) (Wd g1) k ks) : J M R (Q) n0 pc L (v1 :: rest) (Wd g) k ks :=
  J_callS (As := [v1]) d hn hml hlk hst rfl hroom hcat ⟨by rw [hz.1]; exact hk.1, by rw [hz.2]; exact hk.2⟩ hct (fun E es' hq => by obtain ⟨v, g1, h1, -⟩ := hq; cases h1) (fun v' es' hq => by
    obtain ⟨v, g1, h1, rfl, hp⟩ := hq
    cases h1
    rw [hz.1, hz.2]
    exact h _ _ hp)
theorem JvKS1 {M : MI} {R : Room} {Q : Res → List ME → Prop} {n0 pc nx : Nat} {L : List (Option Value)} {rest : List Value} {g : GS} {k ks : Nat} {M' : MI} {R' : Room} {v1 : Value} {idx : Nat} {P : GS → Prop} (d : decode M.2.1 pc = .ok (.invokestatic idx, 3)) (hn : pc + 3 = nx) (hml : ML M' 1) (hlk : Cond.methodLink M.1.cls idx M'.1 ∈ TT) (hst : Cond.static M'.1 ∈ TT) (hroom : R'.frames + 1 ≤ R.frames ∧ 8 + (M'.2.2.1 + 11) + R'.locals ≤ R.locals) (hcat : (rest.map fun v => v.category).sum ≤ 8) (hz : R'.cells = 0 ∧ R'.slots = 0) (hk : k ≤ R.cells ∧ ks ≤ R.slots) (hct : Ct M' R' [v1] (Wd g) (RXv P)) (h : ∀ (g1 : GS), P g1 → J M R (Q) n0 nx L (rest) (Wd g1) k ks) : J M R (Q) n0 pc L (v1 :: rest) (Wd g) k ks :=
  J_callS (As := [v1]) d hn hml hlk hst rfl hroom hcat ⟨by rw [hz.1]; exact hk.1, by rw [hz.2]; exact hk.2⟩ hct (fun E es' hq => by obtain ⟨g1, h1, -⟩ := hq; cases h1) (fun v' es' hq => by
    obtain ⟨g1, h1, rfl, hp⟩ := hq
    cases h1
    rw [hz.1, hz.2]
    exact h _ hp)
theorem JtKS1 {M : MI} {R : Room} {Q : Res → List ME → Prop} {n0 pc nx : Nat} {L : List (Option Value)} {rest : List Value} {g : GS} {k ks : Nat} {M' : MI} {R' : Room} {v1 : Value} {idx : Nat} {b0 : Bool} {E0 : String} {t : List (Bool × String)} (d : decode M.2.1 pc = .ok (.invokestatic idx, 3)) (hn : pc + 3 = nx) (hml : ML M' 1) (hlk : Cond.methodLink M.1.cls idx M'.1 ∈ TT) (hst : Cond.static M'.1 ∈ TT) (hroom : R'.frames + 1 ≤ R.frames ∧ 8 + (M'.2.2.1 + 11) + R'.locals ≤ R.locals) (hcat : (rest.map fun v => v.category).sum ≤ 8) (hz : R'.cells = 1 ∧ R'.slots = 6) (hk : k + 1 ≤ R.cells ∧ ks + 6 ≤ R.slots) (hct : Ct M' R' [v1] (Wd g) (RQ b0 E0 g)) (h : b0 = true → J M R (FX t Q g) n0 nx L (rest) (Wd g) (k + 1) (ks + 6)) : J M R (FX ((b0, E0) :: t) Q g) n0 pc L (v1 :: rest) (Wd g) k ks :=
  J_callS (As := [v1]) d hn hml hlk hst rfl hroom hcat ⟨by rw [hz.1]; exact hk.1, by rw [hz.2]; exact hk.2⟩ hct (fun E es' hq => by
    rcases hq with ⟨-, h1, -⟩ | ⟨h0, h1, h2⟩
    · cases h1
    · cases h1; exact Or.inl ⟨h0, rfl, h2⟩) (fun v' es' hq => by
    rcases hq with ⟨h0, h1, rfl⟩ | ⟨-, h1, -⟩
    · cases h1
      rw [hz.1, hz.2]
      exact J.post (h h0) (fun r es q => Or.inr ⟨h0, q⟩)
    · cases h1)
theorem JcKV1 {M : MI} {R : Room} {Q : Res → List ME → Prop} {n0 pc nx : Nat} {L : List (Option Value)} {rest : List Value} {g : GS} {k ks : Nat} {M' : MI} {R' : Room} {v1 : Value} {b : Nat} {idx : Nat} {g1 : GS} {v : Option Value} (d : decode M.2.1 pc = .ok (.invokevirtual idx, 3)) (hn : pc + 3 = nx) (hml : ML M' 1) (hlk : Cond.methodLink M.1.cls idx M'.1 ∈ TT) (hins : Cond.instanceMethod M'.1 ∈ TT ∧ Cond.selects M'.1.cls M'.1 M'.1 ∈ TT) {T : u_T} {N ci : Nat} (hcl : vwCl[ci]? = some (M'.1.cls, T, N)) {fs : List Value} (he : (Wd g)[b]? = some (.inr (ci, fs))) (hroom : R'.frames + 1 ≤ R.frames ∧ 8 + (M'.2.2.1 + 11) + R'.locals ≤ R.locals) (hcat : (rest.map fun v => v.category).sum ≤ 8) (hz : R'.cells = 0 ∧ R'.slots = 0) (hk : k ≤ R.cells ∧ ks ≤ R.slots) (hct : Ct M' R' (.ref b :: [v1]) (Wd g) (RR (.inl v) g1)) (h : J M R (Q) n0 nx L (v.toList ++ rest) (Wd g1) k ks) : J M R (Q) n0 pc L (v1 :: .ref b :: rest) (Wd g) k ks :=
  J_callV (b := b) (As := [v1]) d hn hml hlk hins hcl he rfl hroom hcat ⟨by rw [hz.1]; exact hk.1, by rw [hz.2]; exact hk.2⟩ hct (fun E es' hq => by cases hq.1) (fun v' es' hq => by
    obtain ⟨h1, rfl⟩ := hq
    cases h1
    rw [hz.1, hz.2]
    exact h)
theorem JiKV1 {M : MI} {R : Room} {Q : Res → List ME → Prop} {n0 pc nx : Nat} {L : List (Option Value)} {rest : List Value} {g : GS} {k ks : Nat} {M' : MI} {R' : Room} {v1 : Value} {b : Nat} {idx : Nat} {P : Int32 → GS → Prop} (d : decode M.2.1 pc = .ok (.invokevirtual idx, 3)) (hn : pc + 3 = nx) (hml : ML M' 1) (hlk : Cond.methodLink M.1.cls idx M'.1 ∈ TT) (hins : Cond.instanceMethod M'.1 ∈ TT ∧ Cond.selects M'.1.cls M'.1 M'.1 ∈ TT) {T : u_T} {N ci : Nat} (hcl : vwCl[ci]? = some (M'.1.cls, T, N)) {fs : List Value} (he : (Wd g)[b]? = some (.inr (ci, fs))) (hroom : R'.frames + 1 ≤ R.frames ∧ 8 + (M'.2.2.1 + 11) + R'.locals ≤ R.locals) (hcat : (rest.map fun v => v.category).sum ≤ 8) (hz : R'.cells = 0 ∧ R'.slots = 0) (hk : k ≤ R.cells ∧ ks ≤ R.slots) (hct : Ct M' R' (.ref b :: [v1]) (Wd g) (RXi P)) (h : ∀ (x : Int32) (g1 : GS), P x g1 → J M R (Q) n0 nx L (.int x :: rest) (Wd g1) k ks) : J M R (Q) n0 pc L (v1 :: .ref b :: rest) (Wd g) k ks :=
  J_callV (b := b) (As := [v1]) d hn hml hlk hins hcl he rfl hroom hcat ⟨by rw [hz.1]; exact hk.1, by rw [hz.2]; exact hk.2⟩ hct (fun E es' hq => by obtain ⟨v, g1, h1, -⟩ := hq; cases h1) (fun v' es' hq => by
    obtain ⟨v, g1, h1, rfl, hp⟩ := hq
    cases h1
    rw [hz.1, hz.2]
    exact h _ _ hp)
theorem JlKV1 {M : MI} {R : Room} {Q : Res → List ME → Prop} {n0 pc nx : Nat} {L : List (Option Value)} {rest : List Value} {g : GS} {k ks : Nat} {M' : MI} {R' : Room} {v1 : Value} {b : Nat} {idx : Nat} {P : Int64 → GS → Prop} (d : decode M.2.1 pc = .ok (.invokevirtual idx, 3)) (hn : pc + 3 = nx) (hml : ML M' 1) (hlk : Cond.methodLink M.1.cls idx M'.1 ∈ TT) (hins : Cond.instanceMethod M'.1 ∈ TT ∧ Cond.selects M'.1.cls M'.1 M'.1 ∈ TT) {T : u_T} {N ci : Nat} (hcl : vwCl[ci]? = some (M'.1.cls, T, N)) {fs : List Value} (he : (Wd g)[b]? = some (.inr (ci, fs))) (hroom : R'.frames + 1 ≤ R.frames ∧ 8 + (M'.2.2.1 + 11) + R'.locals ≤ R.locals) (hcat : (rest.map fun v => v.category).sum ≤ 8) (hz : R'.cells = 0 ∧ R'.slots = 0) (hk : k ≤ R.cells ∧ ks ≤ R.slots) (hct : Ct M' R' (.ref b :: [v1]) (Wd g) (RXl P)) (h : ∀ (x : Int64) (g1 : GS), P x g1 → J M R (Q) n0 nx L (.long x :: rest) (Wd g1) k ks) : J M R (Q) n0 pc L (v1 :: .ref b :: rest) (Wd g) k ks :=
  J_callV (b := b) (As := [v1]) d hn hml hlk hins hcl he rfl hroom hcat ⟨by rw [hz.1]; exact hk.1, by rw [hz.2]; exact hk.2⟩ hct (fun E es' hq => by obtain ⟨v, g1, h1, -⟩ := hq; cases h1) (fun v' es' hq => by
    obtain ⟨v, g1, h1, rfl, hp⟩ := hq
    cases h1
    rw [hz.1, hz.2]
    exact h _ _ hp)
theorem JvKV1 {M : MI} {R : Room} {Q : Res → List ME → Prop} {n0 pc nx : Nat} {L : List (Option Value)} {rest : List Value} {g : GS} {k ks : Nat} {M' : MI} {R' : Room} {v1 : Value} {b : Nat} {idx : Nat} {P : GS → Prop} (d : decode M.2.1 pc = .ok (.invokevirtual idx, 3)) (hn : pc + 3 = nx) (hml : ML M' 1) (hlk : Cond.methodLink M.1.cls idx M'.1 ∈ TT) (hins : Cond.instanceMethod M'.1 ∈ TT ∧ Cond.selects M'.1.cls M'.1 M'.1 ∈ TT) {T : u_T} {N ci : Nat} (hcl : vwCl[ci]? = some (M'.1.cls, T, N)) {fs : List Value} (he : (Wd g)[b]? = some (.inr (ci, fs))) (hroom : R'.frames + 1 ≤ R.frames ∧ 8 + (M'.2.2.1 + 11) + R'.locals ≤ R.locals) (hcat : (rest.map fun v => v.category).sum ≤ 8) (hz : R'.cells = 0 ∧ R'.slots = 0) (hk : k ≤ R.cells ∧ ks ≤ R.slots) (hct : Ct M' R' (.ref b :: [v1]) (Wd g) (RXv P)) (h : ∀ (g1 : GS), P g1 → J M R (Q) n0 nx L (rest) (Wd g1) k ks) : J M R (Q) n0 pc L (v1 :: .ref b :: rest) (Wd g) k ks :=
  J_callV (b := b) (As := [v1]) d hn hml hlk hins hcl he rfl hroom hcat ⟨by rw [hz.1]; exact hk.1, by rw [hz.2]; exact hk.2⟩ hct (fun E es' hq => by obtain ⟨g1, h1, -⟩ := hq; cases h1) (fun v' es' hq => by
    obtain ⟨g1, h1, rfl, hp⟩ := hq
    cases h1
    rw [hz.1, hz.2]
    exact h _ hp)
theorem JtKV1 {M : MI} {R : Room} {Q : Res → List ME → Prop} {n0 pc nx : Nat} {L : List (Option Value)} {rest : List Value} {g : GS} {k ks : Nat} {M' : MI} {R' : Room} {v1 : Value} {b : Nat} {idx : Nat} {b0 : Bool} {E0 : String} {t : List (Bool × String)} (d : decode M.2.1 pc = .ok (.invokevirtual idx, 3)) (hn : pc + 3 = nx) (hml : ML M' 1) (hlk : Cond.methodLink M.1.cls idx M'.1 ∈ TT) (hins : Cond.instanceMethod M'.1 ∈ TT ∧ Cond.selects M'.1.cls M'.1 M'.1 ∈ TT) {T : u_T} {N ci : Nat} (hcl : vwCl[ci]? = some (M'.1.cls, T, N)) {fs : List Value} (he : (Wd g)[b]? = some (.inr (ci, fs))) (hroom : R'.frames + 1 ≤ R.frames ∧ 8 + (M'.2.2.1 + 11) + R'.locals ≤ R.locals) (hcat : (rest.map fun v => v.category).sum ≤ 8) (hz : R'.cells = 1 ∧ R'.slots = 6) (hk : k + 1 ≤ R.cells ∧ ks + 6 ≤ R.slots) (hct : Ct M' R' (.ref b :: [v1]) (Wd g) (RQ b0 E0 g)) (h : b0 = true → J M R (FX t Q g) n0 nx L (rest) (Wd g) (k + 1) (ks + 6)) : J M R (FX ((b0, E0) :: t) Q g) n0 pc L (v1 :: .ref b :: rest) (Wd g) k ks :=
  J_callV (b := b) (As := [v1]) d hn hml hlk hins hcl he rfl hroom hcat ⟨by rw [hz.1]; exact hk.1, by rw [hz.2]; exact hk.2⟩ hct (fun E es' hq => by
    rcases hq with ⟨-, h1, -⟩ | ⟨h0, h1, h2⟩
    · cases h1
    · cases h1; exact Or.inl ⟨h0, rfl, h2⟩) (fun v' es' hq => by
    rcases hq with ⟨h0, h1, rfl⟩ | ⟨-, h1, -⟩
    · cases h1
      rw [hz.1, hz.2]
      exact J.post (h h0) (fun r es q => Or.inr ⟨h0, q⟩)
    · cases h1)
theorem JcKS2 {M : MI} {R : Room} {Q : Res → List ME → Prop} {n0 pc nx : Nat} {L : List (Option Value)} {rest : List Value} {g : GS} {k ks : Nat} {M' : MI} {R' : Room} {v1 v2 : Value} {idx : Nat} {g1 : GS} {v : Option Value} (d : decode M.2.1 pc = .ok (.invokestatic idx, 3)) (hn : pc + 3 = nx) (hml : ML M' 2) (hlk : Cond.methodLink M.1.cls idx M'.1 ∈ TT) (hst : Cond.static M'.1 ∈ TT) (hroom : R'.frames + 1 ≤ R.frames ∧ 8 + (M'.2.2.1 + 11) + R'.locals ≤ R.locals) (hcat : (rest.map fun v => v.category).sum ≤ 8) (hz : R'.cells = 0 ∧ R'.slots = 0) (hk : k ≤ R.cells ∧ ks ≤ R.slots) (hct : Ct M' R' [v1, v2] (Wd g) (RR (.inl v) g1)) (h : J M R (Q) n0 nx L (v.toList ++ rest) (Wd g1) k ks) : J M R (Q) n0 pc L (v2 :: v1 :: rest) (Wd g) k ks :=
  J_callS (As := [v1, v2]) d hn hml hlk hst rfl hroom hcat ⟨by rw [hz.1]; exact hk.1, by rw [hz.2]; exact hk.2⟩ hct (fun E es' hq => by cases hq.1) (fun v' es' hq => by
    obtain ⟨h1, rfl⟩ := hq
    cases h1
    rw [hz.1, hz.2]
    exact h)
theorem JiKS2 {M : MI} {R : Room} {Q : Res → List ME → Prop} {n0 pc nx : Nat} {L : List (Option Value)} {rest : List Value} {g : GS} {k ks : Nat} {M' : MI} {R' : Room} {v1 v2 : Value} {idx : Nat} {P : Int32 → GS → Prop} (d : decode M.2.1 pc = .ok (.invokestatic idx, 3)) (hn : pc + 3 = nx) (hml : ML M' 2) (hlk : Cond.methodLink M.1.cls idx M'.1 ∈ TT) (hst : Cond.static M'.1 ∈ TT) (hroom : R'.frames + 1 ≤ R.frames ∧ 8 + (M'.2.2.1 + 11) + R'.locals ≤ R.locals) (hcat : (rest.map fun v => v.category).sum ≤ 8) (hz : R'.cells = 0 ∧ R'.slots = 0) (hk : k ≤ R.cells ∧ ks ≤ R.slots) (hct : Ct M' R' [v1, v2] (Wd g) (RXi P)) (h : ∀ (x : Int32) (g1 : GS), P x g1 → J M R (Q) n0 nx L (.int x :: rest) (Wd g1) k ks) : J M R (Q) n0 pc L (v2 :: v1 :: rest) (Wd g) k ks :=
  J_callS (As := [v1, v2]) d hn hml hlk hst rfl hroom hcat ⟨by rw [hz.1]; exact hk.1, by rw [hz.2]; exact hk.2⟩ hct (fun E es' hq => by obtain ⟨v, g1, h1, -⟩ := hq; cases h1) (fun v' es' hq => by
    obtain ⟨v, g1, h1, rfl, hp⟩ := hq
    cases h1
    rw [hz.1, hz.2]
    exact h _ _ hp)
theorem JlKS2 {M : MI} {R : Room} {Q : Res → List ME → Prop} {n0 pc nx : Nat} {L : List (Option Value)} {rest : List Value} {g : GS} {k ks : Nat} {M' : MI} {R' : Room} {v1 v2 : Value} {idx : Nat} {P : Int64 → GS → Prop} (d : decode M.2.1 pc = .ok (.invokestatic idx, 3)) (hn : pc + 3 = nx) (hml : ML M' 2) (hlk : Cond.methodLink M.1.cls idx M'.1 ∈ TT) (hst : Cond.static M'.1 ∈ TT) (hroom : R'.frames + 1 ≤ R.frames ∧ 8 + (M'.2.2.1 + 11) + R'.locals ≤ R.locals) (hcat : (rest.map fun v => v.category).sum ≤ 8) (hz : R'.cells = 0 ∧ R'.slots = 0) (hk : k ≤ R.cells ∧ ks ≤ R.slots) (hct : Ct M' R' [v1, v2] (Wd g) (RXl P)) (h : ∀ (x : Int64) (g1 : GS), P x g1 → J M R (Q) n0 nx L (.long x :: rest) (Wd g1) k ks) : J M R (Q) n0 pc L (v2 :: v1 :: rest) (Wd g) k ks :=
  J_callS (As := [v1, v2]) d hn hml hlk hst rfl hroom hcat ⟨by rw [hz.1]; exact hk.1, by rw [hz.2]; exact hk.2⟩ hct (fun E es' hq => by obtain ⟨v, g1, h1, -⟩ := hq; cases h1) (fun v' es' hq => by
    obtain ⟨v, g1, h1, rfl, hp⟩ := hq
    cases h1
    rw [hz.1, hz.2]
    exact h _ _ hp)
theorem JvKS2 {M : MI} {R : Room} {Q : Res → List ME → Prop} {n0 pc nx : Nat} {L : List (Option Value)} {rest : List Value} {g : GS} {k ks : Nat} {M' : MI} {R' : Room} {v1 v2 : Value} {idx : Nat} {P : GS → Prop} (d : decode M.2.1 pc = .ok (.invokestatic idx, 3)) (hn : pc + 3 = nx) (hml : ML M' 2) (hlk : Cond.methodLink M.1.cls idx M'.1 ∈ TT) (hst : Cond.static M'.1 ∈ TT) (hroom : R'.frames + 1 ≤ R.frames ∧ 8 + (M'.2.2.1 + 11) + R'.locals ≤ R.locals) (hcat : (rest.map fun v => v.category).sum ≤ 8) (hz : R'.cells = 0 ∧ R'.slots = 0) (hk : k ≤ R.cells ∧ ks ≤ R.slots) (hct : Ct M' R' [v1, v2] (Wd g) (RXv P)) (h : ∀ (g1 : GS), P g1 → J M R (Q) n0 nx L (rest) (Wd g1) k ks) : J M R (Q) n0 pc L (v2 :: v1 :: rest) (Wd g) k ks :=
  J_callS (As := [v1, v2]) d hn hml hlk hst rfl hroom hcat ⟨by rw [hz.1]; exact hk.1, by rw [hz.2]; exact hk.2⟩ hct (fun E es' hq => by obtain ⟨g1, h1, -⟩ := hq; cases h1) (fun v' es' hq => by
    obtain ⟨g1, h1, rfl, hp⟩ := hq
    cases h1
    rw [hz.1, hz.2]
    exact h _ hp)
theorem JtKS2 {M : MI} {R : Room} {Q : Res → List ME → Prop} {n0 pc nx : Nat} {L : List (Option Value)} {rest : List Value} {g : GS} {k ks : Nat} {M' : MI} {R' : Room} {v1 v2 : Value} {idx : Nat} {b0 : Bool} {E0 : String} {t : List (Bool × String)} (d : decode M.2.1 pc = .ok (.invokestatic idx, 3)) (hn : pc + 3 = nx) (hml : ML M' 2) (hlk : Cond.methodLink M.1.cls idx M'.1 ∈ TT) (hst : Cond.static M'.1 ∈ TT) (hroom : R'.frames + 1 ≤ R.frames ∧ 8 + (M'.2.2.1 + 11) + R'.locals ≤ R.locals) (hcat : (rest.map fun v => v.category).sum ≤ 8) (hz : R'.cells = 1 ∧ R'.slots = 6) (hk : k + 1 ≤ R.cells ∧ ks + 6 ≤ R.slots) (hct : Ct M' R' [v1, v2] (Wd g) (RQ b0 E0 g)) (h : b0 = true → J M R (FX t Q g) n0 nx L (rest) (Wd g) (k + 1) (ks + 6)) : J M R (FX ((b0, E0) :: t) Q g) n0 pc L (v2 :: v1 :: rest) (Wd g) k ks :=
  J_callS (As := [v1, v2]) d hn hml hlk hst rfl hroom hcat ⟨by rw [hz.1]; exact hk.1, by rw [hz.2]; exact hk.2⟩ hct (fun E es' hq => by
    rcases hq with ⟨-, h1, -⟩ | ⟨h0, h1, h2⟩
    · cases h1
    · cases h1; exact Or.inl ⟨h0, rfl, h2⟩) (fun v' es' hq => by
    rcases hq with ⟨h0, h1, rfl⟩ | ⟨-, h1, -⟩
    · cases h1
      rw [hz.1, hz.2]
      exact J.post (h h0) (fun r es q => Or.inr ⟨h0, q⟩)
    · cases h1)
theorem JcKV2 {M : MI} {R : Room} {Q : Res → List ME → Prop} {n0 pc nx : Nat} {L : List (Option Value)} {rest : List Value} {g : GS} {k ks : Nat} {M' : MI} {R' : Room} {v1 v2 : Value} {b : Nat} {idx : Nat} {g1 : GS} {v : Option Value} (d : decode M.2.1 pc = .ok (.invokevirtual idx, 3)) (hn : pc + 3 = nx) (hml : ML M' 2) (hlk : Cond.methodLink M.1.cls idx M'.1 ∈ TT) (hins : Cond.instanceMethod M'.1 ∈ TT ∧ Cond.selects M'.1.cls M'.1 M'.1 ∈ TT) {T : u_T} {N ci : Nat} (hcl : vwCl[ci]? = some (M'.1.cls, T, N)) {fs : List Value} (he : (Wd g)[b]? = some (.inr (ci, fs))) (hroom : R'.frames + 1 ≤ R.frames ∧ 8 + (M'.2.2.1 + 11) + R'.locals ≤ R.locals) (hcat : (rest.map fun v => v.category).sum ≤ 8) (hz : R'.cells = 0 ∧ R'.slots = 0) (hk : k ≤ R.cells ∧ ks ≤ R.slots) (hct : Ct M' R' (.ref b :: [v1, v2]) (Wd g) (RR (.inl v) g1)) (h : J M R (Q) n0 nx L (v.toList ++ rest) (Wd g1) k ks) : J M R (Q) n0 pc L (v2 :: v1 :: .ref b :: rest) (Wd g) k ks :=
  J_callV (b := b) (As := [v1, v2]) d hn hml hlk hins hcl he rfl hroom hcat ⟨by rw [hz.1]; exact hk.1, by rw [hz.2]; exact hk.2⟩ hct (fun E es' hq => by cases hq.1) (fun v' es' hq => by
    obtain ⟨h1, rfl⟩ := hq
    cases h1
    rw [hz.1, hz.2]
    exact h)
theorem JiKV2 {M : MI} {R : Room} {Q : Res → List ME → Prop} {n0 pc nx : Nat} {L : List (Option Value)} {rest : List Value} {g : GS} {k ks : Nat} {M' : MI} {R' : Room} {v1 v2 : Value} {b : Nat} {idx : Nat} {P : Int32 → GS → Prop} (d : decode M.2.1 pc = .ok (.invokevirtual idx, 3)) (hn : pc + 3 = nx) (hml : ML M' 2) (hlk : Cond.methodLink M.1.cls idx M'.1 ∈ TT) (hins : Cond.instanceMethod M'.1 ∈ TT ∧ Cond.selects M'.1.cls M'.1 M'.1 ∈ TT) {T : u_T} {N ci : Nat} (hcl : vwCl[ci]? = some (M'.1.cls, T, N)) {fs : List Value} (he : (Wd g)[b]? = some (.inr (ci, fs))) (hroom : R'.frames + 1 ≤ R.frames ∧ 8 + (M'.2.2.1 + 11) + R'.locals ≤ R.locals) (hcat : (rest.map fun v => v.category).sum ≤ 8) (hz : R'.cells = 0 ∧ R'.slots = 0) (hk : k ≤ R.cells ∧ ks ≤ R.slots) (hct : Ct M' R' (.ref b :: [v1, v2]) (Wd g) (RXi P)) (h : ∀ (x : Int32) (g1 : GS), P x g1 → J M R (Q) n0 nx L (.int x :: rest) (Wd g1) k ks) : J M R (Q) n0 pc L (v2 :: v1 :: .ref b :: rest) (Wd g) k ks :=
  J_callV (b := b) (As := [v1, v2]) d hn hml hlk hins hcl he rfl hroom hcat ⟨by rw [hz.1]; exact hk.1, by rw [hz.2]; exact hk.2⟩ hct (fun E es' hq => by obtain ⟨v, g1, h1, -⟩ := hq; cases h1) (fun v' es' hq => by
    obtain ⟨v, g1, h1, rfl, hp⟩ := hq
    cases h1
    rw [hz.1, hz.2]
    exact h _ _ hp)
theorem JlKV2 {M : MI} {R : Room} {Q : Res → List ME → Prop} {n0 pc nx : Nat} {L : List (Option Value)} {rest : List Value} {g : GS} {k ks : Nat} {M' : MI} {R' : Room} {v1 v2 : Value} {b : Nat} {idx : Nat} {P : Int64 → GS → Prop} (d : decode M.2.1 pc = .ok (.invokevirtual idx, 3)) (hn : pc + 3 = nx) (hml : ML M' 2) (hlk : Cond.methodLink M.1.cls idx M'.1 ∈ TT) (hins : Cond.instanceMethod M'.1 ∈ TT ∧ Cond.selects M'.1.cls M'.1 M'.1 ∈ TT) {T : u_T} {N ci : Nat} (hcl : vwCl[ci]? = some (M'.1.cls, T, N)) {fs : List Value} (he : (Wd g)[b]? = some (.inr (ci, fs))) (hroom : R'.frames + 1 ≤ R.frames ∧ 8 + (M'.2.2.1 + 11) + R'.locals ≤ R.locals) (hcat : (rest.map fun v => v.category).sum ≤ 8) (hz : R'.cells = 0 ∧ R'.slots = 0) (hk : k ≤ R.cells ∧ ks ≤ R.slots) (hct : Ct M' R' (.ref b :: [v1, v2]) (Wd g) (RXl P)) (h : ∀ (x : Int64) (g1 : GS), P x g1 → J M R (Q) n0 nx L (.long x :: rest) (Wd g1) k ks) : J M R (Q) n0 pc L (v2 :: v1 :: .ref b :: rest) (Wd g) k ks :=
  J_callV (b := b) (As := [v1, v2]) d hn hml hlk hins hcl he rfl hroom hcat ⟨by rw [hz.1]; exact hk.1, by rw [hz.2]; exact hk.2⟩ hct (fun E es' hq => by obtain ⟨v, g1, h1, -⟩ := hq; cases h1) (fun v' es' hq => by
    obtain ⟨v, g1, h1, rfl, hp⟩ := hq
    cases h1
    rw [hz.1, hz.2]
    exact h _ _ hp)
theorem JvKV2 {M : MI} {R : Room} {Q : Res → List ME → Prop} {n0 pc nx : Nat} {L : List (Option Value)} {rest : List Value} {g : GS} {k ks : Nat} {M' : MI} {R' : Room} {v1 v2 : Value} {b : Nat} {idx : Nat} {P : GS → Prop} (d : decode M.2.1 pc = .ok (.invokevirtual idx, 3)) (hn : pc + 3 = nx) (hml : ML M' 2) (hlk : Cond.methodLink M.1.cls idx M'.1 ∈ TT) (hins : Cond.instanceMethod M'.1 ∈ TT ∧ Cond.selects M'.1.cls M'.1 M'.1 ∈ TT) {T : u_T} {N ci : Nat} (hcl : vwCl[ci]? = some (M'.1.cls, T, N)) {fs : List Value} (he : (Wd g)[b]? = some (.inr (ci, fs))) (hroom : R'.frames + 1 ≤ R.frames ∧ 8 + (M'.2.2.1 + 11) + R'.locals ≤ R.locals) (hcat : (rest.map fun v => v.category).sum ≤ 8) (hz : R'.cells = 0 ∧ R'.slots = 0) (hk : k ≤ R.cells ∧ ks ≤ R.slots) (hct : Ct M' R' (.ref b :: [v1, v2]) (Wd g) (RXv P)) (h : ∀ (g1 : GS), P g1 → J M R (Q) n0 nx L (rest) (Wd g1) k ks) : J M R (Q) n0 pc L (v2 :: v1 :: .ref b :: rest) (Wd g) k ks :=
  J_callV (b := b) (As := [v1, v2]) d hn hml hlk hins hcl he rfl hroom hcat ⟨by rw [hz.1]; exact hk.1, by rw [hz.2]; exact hk.2⟩ hct (fun E es' hq => by obtain ⟨g1, h1, -⟩ := hq; cases h1) (fun v' es' hq => by
    obtain ⟨g1, h1, rfl, hp⟩ := hq
    cases h1
    rw [hz.1, hz.2]
    exact h _ hp)
theorem JtKV2 {M : MI} {R : Room} {Q : Res → List ME → Prop} {n0 pc nx : Nat} {L : List (Option Value)} {rest : List Value} {g : GS} {k ks : Nat} {M' : MI} {R' : Room} {v1 v2 : Value} {b : Nat} {idx : Nat} {b0 : Bool} {E0 : String} {t : List (Bool × String)} (d : decode M.2.1 pc = .ok (.invokevirtual idx, 3)) (hn : pc + 3 = nx) (hml : ML M' 2) (hlk : Cond.methodLink M.1.cls idx M'.1 ∈ TT) (hins : Cond.instanceMethod M'.1 ∈ TT ∧ Cond.selects M'.1.cls M'.1 M'.1 ∈ TT) {T : u_T} {N ci : Nat} (hcl : vwCl[ci]? = some (M'.1.cls, T, N)) {fs : List Value} (he : (Wd g)[b]? = some (.inr (ci, fs))) (hroom : R'.frames + 1 ≤ R.frames ∧ 8 + (M'.2.2.1 + 11) + R'.locals ≤ R.locals) (hcat : (rest.map fun v => v.category).sum ≤ 8) (hz : R'.cells = 1 ∧ R'.slots = 6) (hk : k + 1 ≤ R.cells ∧ ks + 6 ≤ R.slots) (hct : Ct M' R' (.ref b :: [v1, v2]) (Wd g) (RQ b0 E0 g)) (h : b0 = true → J M R (FX t Q g) n0 nx L (rest) (Wd g) (k + 1) (ks + 6)) : J M R (FX ((b0, E0) :: t) Q g) n0 pc L (v2 :: v1 :: .ref b :: rest) (Wd g) k ks :=
  J_callV (b := b) (As := [v1, v2]) d hn hml hlk hins hcl he rfl hroom hcat ⟨by rw [hz.1]; exact hk.1, by rw [hz.2]; exact hk.2⟩ hct (fun E es' hq => by
    rcases hq with ⟨-, h1, -⟩ | ⟨h0, h1, h2⟩
    · cases h1
    · cases h1; exact Or.inl ⟨h0, rfl, h2⟩) (fun v' es' hq => by
    rcases hq with ⟨h0, h1, rfl⟩ | ⟨-, h1, -⟩
    · cases h1
      rw [hz.1, hz.2]
      exact J.post (h h0) (fun r es q => Or.inr ⟨h0, q⟩)
    · cases h1)
theorem JcKS3 {M : MI} {R : Room} {Q : Res → List ME → Prop} {n0 pc nx : Nat} {L : List (Option Value)} {rest : List Value} {g : GS} {k ks : Nat} {M' : MI} {R' : Room} {v1 v2 v3 : Value} {idx : Nat} {g1 : GS} {v : Option Value} (d : decode M.2.1 pc = .ok (.invokestatic idx, 3)) (hn : pc + 3 = nx) (hml : ML M' 3) (hlk : Cond.methodLink M.1.cls idx M'.1 ∈ TT) (hst : Cond.static M'.1 ∈ TT) (hroom : R'.frames + 1 ≤ R.frames ∧ 8 + (M'.2.2.1 + 11) + R'.locals ≤ R.locals) (hcat : (rest.map fun v => v.category).sum ≤ 8) (hz : R'.cells = 0 ∧ R'.slots = 0) (hk : k ≤ R.cells ∧ ks ≤ R.slots) (hct : Ct M' R' [v1, v2, v3] (Wd g) (RR (.inl v) g1)) (h : J M R (Q) n0 nx L (v.toList ++ rest) (Wd g1) k ks) : J M R (Q) n0 pc L (v3 :: v2 :: v1 :: rest) (Wd g) k ks :=
  J_callS (As := [v1, v2, v3]) d hn hml hlk hst rfl hroom hcat ⟨by rw [hz.1]; exact hk.1, by rw [hz.2]; exact hk.2⟩ hct (fun E es' hq => by cases hq.1) (fun v' es' hq => by
    obtain ⟨h1, rfl⟩ := hq
    cases h1
    rw [hz.1, hz.2]
    exact h)
theorem JiKS3 {M : MI} {R : Room} {Q : Res → List ME → Prop} {n0 pc nx : Nat} {L : List (Option Value)} {rest : List Value} {g : GS} {k ks : Nat} {M' : MI} {R' : Room} {v1 v2 v3 : Value} {idx : Nat} {P : Int32 → GS → Prop} (d : decode M.2.1 pc = .ok (.invokestatic idx, 3)) (hn : pc + 3 = nx) (hml : ML M' 3) (hlk : Cond.methodLink M.1.cls idx M'.1 ∈ TT) (hst : Cond.static M'.1 ∈ TT) (hroom : R'.frames + 1 ≤ R.frames ∧ 8 + (M'.2.2.1 + 11) + R'.locals ≤ R.locals) (hcat : (rest.map fun v => v.category).sum ≤ 8) (hz : R'.cells = 0 ∧ R'.slots = 0) (hk : k ≤ R.cells ∧ ks ≤ R.slots) (hct : Ct M' R' [v1, v2, v3] (Wd g) (RXi P)) (h : ∀ (x : Int32) (g1 : GS), P x g1 → J M R (Q) n0 nx L (.int x :: rest) (Wd g1) k ks) : J M R (Q) n0 pc L (v3 :: v2 :: v1 :: rest) (Wd g) k ks :=
  J_callS (As := [v1, v2, v3]) d hn hml hlk hst rfl hroom hcat ⟨by rw [hz.1]; exact hk.1, by rw [hz.2]; exact hk.2⟩ hct (fun E es' hq => by obtain ⟨v, g1, h1, -⟩ := hq; cases h1) (fun v' es' hq => by
    obtain ⟨v, g1, h1, rfl, hp⟩ := hq
    cases h1
    rw [hz.1, hz.2]
    exact h _ _ hp)
theorem JlKS3 {M : MI} {R : Room} {Q : Res → List ME → Prop} {n0 pc nx : Nat} {L : List (Option Value)} {rest : List Value} {g : GS} {k ks : Nat} {M' : MI} {R' : Room} {v1 v2 v3 : Value} {idx : Nat} {P : Int64 → GS → Prop} (d : decode M.2.1 pc = .ok (.invokestatic idx, 3)) (hn : pc + 3 = nx) (hml : ML M' 3) (hlk : Cond.methodLink M.1.cls idx M'.1 ∈ TT) (hst : Cond.static M'.1 ∈ TT) (hroom : R'.frames + 1 ≤ R.frames ∧ 8 + (M'.2.2.1 + 11) + R'.locals ≤ R.locals) (hcat : (rest.map fun v => v.category).sum ≤ 8) (hz : R'.cells = 0 ∧ R'.slots = 0) (hk : k ≤ R.cells ∧ ks ≤ R.slots) (hct : Ct M' R' [v1, v2, v3] (Wd g) (RXl P)) (h : ∀ (x : Int64) (g1 : GS), P x g1 → J M R (Q) n0 nx L (.long x :: rest) (Wd g1) k ks) : J M R (Q) n0 pc L (v3 :: v2 :: v1 :: rest) (Wd g) k ks :=
  J_callS (As := [v1, v2, v3]) d hn hml hlk hst rfl hroom hcat ⟨by rw [hz.1]; exact hk.1, by rw [hz.2]; exact hk.2⟩ hct (fun E es' hq => by obtain ⟨v, g1, h1, -⟩ := hq; cases h1) (fun v' es' hq => by
    obtain ⟨v, g1, h1, rfl, hp⟩ := hq
    cases h1
    rw [hz.1, hz.2]
    exact h _ _ hp)
theorem JvKS3 {M : MI} {R : Room} {Q : Res → List ME → Prop} {n0 pc nx : Nat} {L : List (Option Value)} {rest : List Value} {g : GS} {k ks : Nat} {M' : MI} {R' : Room} {v1 v2 v3 : Value} {idx : Nat} {P : GS → Prop} (d : decode M.2.1 pc = .ok (.invokestatic idx, 3)) (hn : pc + 3 = nx) (hml : ML M' 3) (hlk : Cond.methodLink M.1.cls idx M'.1 ∈ TT) (hst : Cond.static M'.1 ∈ TT) (hroom : R'.frames + 1 ≤ R.frames ∧ 8 + (M'.2.2.1 + 11) + R'.locals ≤ R.locals) (hcat : (rest.map fun v => v.category).sum ≤ 8) (hz : R'.cells = 0 ∧ R'.slots = 0) (hk : k ≤ R.cells ∧ ks ≤ R.slots) (hct : Ct M' R' [v1, v2, v3] (Wd g) (RXv P)) (h : ∀ (g1 : GS), P g1 → J M R (Q) n0 nx L (rest) (Wd g1) k ks) : J M R (Q) n0 pc L (v3 :: v2 :: v1 :: rest) (Wd g) k ks :=
  J_callS (As := [v1, v2, v3]) d hn hml hlk hst rfl hroom hcat ⟨by rw [hz.1]; exact hk.1, by rw [hz.2]; exact hk.2⟩ hct (fun E es' hq => by obtain ⟨g1, h1, -⟩ := hq; cases h1) (fun v' es' hq => by
    obtain ⟨g1, h1, rfl, hp⟩ := hq
    cases h1
    rw [hz.1, hz.2]
    exact h _ hp)
theorem JcKV3 {M : MI} {R : Room} {Q : Res → List ME → Prop} {n0 pc nx : Nat} {L : List (Option Value)} {rest : List Value} {g : GS} {k ks : Nat} {M' : MI} {R' : Room} {v1 v2 v3 : Value} {b : Nat} {idx : Nat} {g1 : GS} {v : Option Value} (d : decode M.2.1 pc = .ok (.invokevirtual idx, 3)) (hn : pc + 3 = nx) (hml : ML M' 3) (hlk : Cond.methodLink M.1.cls idx M'.1 ∈ TT) (hins : Cond.instanceMethod M'.1 ∈ TT ∧ Cond.selects M'.1.cls M'.1 M'.1 ∈ TT) {T : u_T} {N ci : Nat} (hcl : vwCl[ci]? = some (M'.1.cls, T, N)) {fs : List Value} (he : (Wd g)[b]? = some (.inr (ci, fs))) (hroom : R'.frames + 1 ≤ R.frames ∧ 8 + (M'.2.2.1 + 11) + R'.locals ≤ R.locals) (hcat : (rest.map fun v => v.category).sum ≤ 8) (hz : R'.cells = 0 ∧ R'.slots = 0) (hk : k ≤ R.cells ∧ ks ≤ R.slots) (hct : Ct M' R' (.ref b :: [v1, v2, v3]) (Wd g) (RR (.inl v) g1)) (h : J M R (Q) n0 nx L (v.toList ++ rest) (Wd g1) k ks) : J M R (Q) n0 pc L (v3 :: v2 :: v1 :: .ref b :: rest) (Wd g) k ks :=
  J_callV (b := b) (As := [v1, v2, v3]) d hn hml hlk hins hcl he rfl hroom hcat ⟨by rw [hz.1]; exact hk.1, by rw [hz.2]; exact hk.2⟩ hct (fun E es' hq => by cases hq.1) (fun v' es' hq => by
    obtain ⟨h1, rfl⟩ := hq
    cases h1
    rw [hz.1, hz.2]
    exact h)
theorem JiKV3 {M : MI} {R : Room} {Q : Res → List ME → Prop} {n0 pc nx : Nat} {L : List (Option Value)} {rest : List Value} {g : GS} {k ks : Nat} {M' : MI} {R' : Room} {v1 v2 v3 : Value} {b : Nat} {idx : Nat} {P : Int32 → GS → Prop} (d : decode M.2.1 pc = .ok (.invokevirtual idx, 3)) (hn : pc + 3 = nx) (hml : ML M' 3) (hlk : Cond.methodLink M.1.cls idx M'.1 ∈ TT) (hins : Cond.instanceMethod M'.1 ∈ TT ∧ Cond.selects M'.1.cls M'.1 M'.1 ∈ TT) {T : u_T} {N ci : Nat} (hcl : vwCl[ci]? = some (M'.1.cls, T, N)) {fs : List Value} (he : (Wd g)[b]? = some (.inr (ci, fs))) (hroom : R'.frames + 1 ≤ R.frames ∧ 8 + (M'.2.2.1 + 11) + R'.locals ≤ R.locals) (hcat : (rest.map fun v => v.category).sum ≤ 8) (hz : R'.cells = 0 ∧ R'.slots = 0) (hk : k ≤ R.cells ∧ ks ≤ R.slots) (hct : Ct M' R' (.ref b :: [v1, v2, v3]) (Wd g) (RXi P)) (h : ∀ (x : Int32) (g1 : GS), P x g1 → J M R (Q) n0 nx L (.int x :: rest) (Wd g1) k ks) : J M R (Q) n0 pc L (v3 :: v2 :: v1 :: .ref b :: rest) (Wd g) k ks :=
  J_callV (b := b) (As := [v1, v2, v3]) d hn hml hlk hins hcl he rfl hroom hcat ⟨by rw [hz.1]; exact hk.1, by rw [hz.2]; exact hk.2⟩ hct (fun E es' hq => by obtain ⟨v, g1, h1, -⟩ := hq; cases h1) (fun v' es' hq => by
    obtain ⟨v, g1, h1, rfl, hp⟩ := hq
    cases h1
    rw [hz.1, hz.2]
    exact h _ _ hp)
theorem JlKV3 {M : MI} {R : Room} {Q : Res → List ME → Prop} {n0 pc nx : Nat} {L : List (Option Value)} {rest : List Value} {g : GS} {k ks : Nat} {M' : MI} {R' : Room} {v1 v2 v3 : Value} {b : Nat} {idx : Nat} {P : Int64 → GS → Prop} (d : decode M.2.1 pc = .ok (.invokevirtual idx, 3)) (hn : pc + 3 = nx) (hml : ML M' 3) (hlk : Cond.methodLink M.1.cls idx M'.1 ∈ TT) (hins : Cond.instanceMethod M'.1 ∈ TT ∧ Cond.selects M'.1.cls M'.1 M'.1 ∈ TT) {T : u_T} {N ci : Nat} (hcl : vwCl[ci]? = some (M'.1.cls, T, N)) {fs : List Value} (he : (Wd g)[b]? = some (.inr (ci, fs))) (hroom : R'.frames + 1 ≤ R.frames ∧ 8 + (M'.2.2.1 + 11) + R'.locals ≤ R.locals) (hcat : (rest.map fun v => v.category).sum ≤ 8) (hz : R'.cells = 0 ∧ R'.slots = 0) (hk : k ≤ R.cells ∧ ks ≤ R.slots) (hct : Ct M' R' (.ref b :: [v1, v2, v3]) (Wd g) (RXl P)) (h : ∀ (x : Int64) (g1 : GS), P x g1 → J M R (Q) n0 nx L (.long x :: rest) (Wd g1) k ks) : J M R (Q) n0 pc L (v3 :: v2 :: v1 :: .ref b :: rest) (Wd g) k ks :=
  J_callV (b := b) (As := [v1, v2, v3]) d hn hml hlk hins hcl he rfl hroom hcat ⟨by rw [hz.1]; exact hk.1, by rw [hz.2]; exact hk.2⟩ hct (fun E es' hq => by obtain ⟨v, g1, h1, -⟩ := hq; cases h1) (fun v' es' hq => by
    obtain ⟨v, g1, h1, rfl, hp⟩ := hq
    cases h1
    rw [hz.1, hz.2]
    exact h _ _ hp)
theorem JvKV3 {M : MI} {R : Room} {Q : Res → List ME → Prop} {n0 pc nx : Nat} {L : List (Option Value)} {rest : List Value} {g : GS} {k ks : Nat} {M' : MI} {R' : Room} {v1 v2 v3 : Value} {b : Nat} {idx : Nat} {P : GS → Prop} (d : decode M.2.1 pc = .ok (.invokevirtual idx, 3)) (hn : pc + 3 = nx) (hml : ML M' 3) (hlk : Cond.methodLink M.1.cls idx M'.1 ∈ TT) (hins : Cond.instanceMethod M'.1 ∈ TT ∧ Cond.selects M'.1.cls M'.1 M'.1 ∈ TT) {T : u_T} {N ci : Nat} (hcl : vwCl[ci]? = some (M'.1.cls, T, N)) {fs : List Value} (he : (Wd g)[b]? = some (.inr (ci, fs))) (hroom : R'.frames + 1 ≤ R.frames ∧ 8 + (M'.2.2.1 + 11) + R'.locals ≤ R.locals) (hcat : (rest.map fun v => v.category).sum ≤ 8) (hz : R'.cells = 0 ∧ R'.slots = 0) (hk : k ≤ R.cells ∧ ks ≤ R.slots) (hct : Ct M' R' (.ref b :: [v1, v2, v3]) (Wd g) (RXv P)) (h : ∀ (g1 : GS), P g1 → J M R (Q) n0 nx L (rest) (Wd g1) k ks) : J M R (Q) n0 pc L (v3 :: v2 :: v1 :: .ref b :: rest) (Wd g) k ks :=
  J_callV (b := b) (As := [v1, v2, v3]) d hn hml hlk hins hcl he rfl hroom hcat ⟨by rw [hz.1]; exact hk.1, by rw [hz.2]; exact hk.2⟩ hct (fun E es' hq => by obtain ⟨g1, h1, -⟩ := hq; cases h1) (fun v' es' hq => by
    obtain ⟨g1, h1, rfl, hp⟩ := hq
    cases h1
    rw [hz.1, hz.2]
    exact h _ hp)
theorem JcKS4 {M : MI} {R : Room} {Q : Res → List ME → Prop} {n0 pc nx : Nat} {L : List (Option Value)} {rest : List Value} {g : GS} {k ks : Nat} {M' : MI} {R' : Room} {v1 v2 v3 v4 : Value} {idx : Nat} {g1 : GS} {v : Option Value} (d : decode M.2.1 pc = .ok (.invokestatic idx, 3)) (hn : pc + 3 = nx) (hml : ML M' 4) (hlk : Cond.methodLink M.1.cls idx M'.1 ∈ TT) (hst : Cond.static M'.1 ∈ TT) (hroom : R'.frames + 1 ≤ R.frames ∧ 8 + (M'.2.2.1 + 11) + R'.locals ≤ R.locals) (hcat : (rest.map fun v => v.category).sum ≤ 8) (hz : R'.cells = 0 ∧ R'.slots = 0) (hk : k ≤ R.cells ∧ ks ≤ R.slots) (hct : Ct M' R' [v1, v2, v3, v4] (Wd g) (RR (.inl v) g1)) (h : J M R (Q) n0 nx L (v.toList ++ rest) (Wd g1) k ks) : J M R (Q) n0 pc L (v4 :: v3 :: v2 :: v1 :: rest) (Wd g) k ks :=
  J_callS (As := [v1, v2, v3, v4]) d hn hml hlk hst rfl hroom hcat ⟨by rw [hz.1]; exact hk.1, by rw [hz.2]; exact hk.2⟩ hct (fun E es' hq => by cases hq.1) (fun v' es' hq => by
    obtain ⟨h1, rfl⟩ := hq
    cases h1
    rw [hz.1, hz.2]
    exact h)
theorem JiKS4 {M : MI} {R : Room} {Q : Res → List ME → Prop} {n0 pc nx : Nat} {L : List (Option Value)} {rest : List Value} {g : GS} {k ks : Nat} {M' : MI} {R' : Room} {v1 v2 v3 v4 : Value} {idx : Nat} {P : Int32 → GS → Prop} (d : decode M.2.1 pc = .ok (.invokestatic idx, 3)) (hn : pc + 3 = nx) (hml : ML M' 4) (hlk : Cond.methodLink M.1.cls idx M'.1 ∈ TT) (hst : Cond.static M'.1 ∈ TT) (hroom : R'.frames + 1 ≤ R.frames ∧ 8 + (M'.2.2.1 + 11) + R'.locals ≤ R.locals) (hcat : (rest.map fun v => v.category).sum ≤ 8) (hz : R'.cells = 0 ∧ R'.slots = 0) (hk : k ≤ R.cells ∧ ks ≤ R.slots) (hct : Ct M' R' [v1, v2, v3, v4] (Wd g) (RXi P)) (h : ∀ (x : Int32) (g1 : GS), P x g1 → J M R (Q) n0 nx L (.int x :: rest) (Wd g1) k ks) : J M R (Q) n0 pc L (v4 :: v3 :: v2 :: v1 :: rest) (Wd g) k ks :=
  J_callS (As := [v1, v2, v3, v4]) d hn hml hlk hst rfl hroom hcat ⟨by rw [hz.1]; exact hk.1, by rw [hz.2]; exact hk.2⟩ hct (fun E es' hq => by obtain ⟨v, g1, h1, -⟩ := hq; cases h1) (fun v' es' hq => by
    obtain ⟨v, g1, h1, rfl, hp⟩ := hq
    cases h1
    rw [hz.1, hz.2]
    exact h _ _ hp)
theorem JlKS4 {M : MI} {R : Room} {Q : Res → List ME → Prop} {n0 pc nx : Nat} {L : List (Option Value)} {rest : List Value} {g : GS} {k ks : Nat} {M' : MI} {R' : Room} {v1 v2 v3 v4 : Value} {idx : Nat} {P : Int64 → GS → Prop} (d : decode M.2.1 pc = .ok (.invokestatic idx, 3)) (hn : pc + 3 = nx) (hml : ML M' 4) (hlk : Cond.methodLink M.1.cls idx M'.1 ∈ TT) (hst : Cond.static M'.1 ∈ TT) (hroom : R'.frames + 1 ≤ R.frames ∧ 8 + (M'.2.2.1 + 11) + R'.locals ≤ R.locals) (hcat : (rest.map fun v => v.category).sum ≤ 8) (hz : R'.cells = 0 ∧ R'.slots = 0) (hk : k ≤ R.cells ∧ ks ≤ R.slots) (hct : Ct M' R' [v1, v2, v3, v4] (Wd g) (RXl P)) (h : ∀ (x : Int64) (g1 : GS), P x g1 → J M R (Q) n0 nx L (.long x :: rest) (Wd g1) k ks) : J M R (Q) n0 pc L (v4 :: v3 :: v2 :: v1 :: rest) (Wd g) k ks :=
  J_callS (As := [v1, v2, v3, v4]) d hn hml hlk hst rfl hroom hcat ⟨by rw [hz.1]; exact hk.1, by rw [hz.2]; exact hk.2⟩ hct (fun E es' hq => by obtain ⟨v, g1, h1, -⟩ := hq; cases h1) (fun v' es' hq => by
    obtain ⟨v, g1, h1, rfl, hp⟩ := hq
    cases h1
    rw [hz.1, hz.2]
    exact h _ _ hp)
theorem JvKS4 {M : MI} {R : Room} {Q : Res → List ME → Prop} {n0 pc nx : Nat} {L : List (Option Value)} {rest : List Value} {g : GS} {k ks : Nat} {M' : MI} {R' : Room} {v1 v2 v3 v4 : Value} {idx : Nat} {P : GS → Prop} (d : decode M.2.1 pc = .ok (.invokestatic idx, 3)) (hn : pc + 3 = nx) (hml : ML M' 4) (hlk : Cond.methodLink M.1.cls idx M'.1 ∈ TT) (hst : Cond.static M'.1 ∈ TT) (hroom : R'.frames + 1 ≤ R.frames ∧ 8 + (M'.2.2.1 + 11) + R'.locals ≤ R.locals) (hcat : (rest.map fun v => v.category).sum ≤ 8) (hz : R'.cells = 0 ∧ R'.slots = 0) (hk : k ≤ R.cells ∧ ks ≤ R.slots) (hct : Ct M' R' [v1, v2, v3, v4] (Wd g) (RXv P)) (h : ∀ (g1 : GS), P g1 → J M R (Q) n0 nx L (rest) (Wd g1) k ks) : J M R (Q) n0 pc L (v4 :: v3 :: v2 :: v1 :: rest) (Wd g) k ks :=
  J_callS (As := [v1, v2, v3, v4]) d hn hml hlk hst rfl hroom hcat ⟨by rw [hz.1]; exact hk.1, by rw [hz.2]; exact hk.2⟩ hct (fun E es' hq => by obtain ⟨g1, h1, -⟩ := hq; cases h1) (fun v' es' hq => by
    obtain ⟨g1, h1, rfl, hp⟩ := hq
    cases h1
    rw [hz.1, hz.2]
    exact h _ hp)
theorem JcKV4 {M : MI} {R : Room} {Q : Res → List ME → Prop} {n0 pc nx : Nat} {L : List (Option Value)} {rest : List Value} {g : GS} {k ks : Nat} {M' : MI} {R' : Room} {v1 v2 v3 v4 : Value} {b : Nat} {idx : Nat} {g1 : GS} {v : Option Value} (d : decode M.2.1 pc = .ok (.invokevirtual idx, 3)) (hn : pc + 3 = nx) (hml : ML M' 4) (hlk : Cond.methodLink M.1.cls idx M'.1 ∈ TT) (hins : Cond.instanceMethod M'.1 ∈ TT ∧ Cond.selects M'.1.cls M'.1 M'.1 ∈ TT) {T : u_T} {N ci : Nat} (hcl : vwCl[ci]? = some (M'.1.cls, T, N)) {fs : List Value} (he : (Wd g)[b]? = some (.inr (ci, fs))) (hroom : R'.frames + 1 ≤ R.frames ∧ 8 + (M'.2.2.1 + 11) + R'.locals ≤ R.locals) (hcat : (rest.map fun v => v.category).sum ≤ 8) (hz : R'.cells = 0 ∧ R'.slots = 0) (hk : k ≤ R.cells ∧ ks ≤ R.slots) (hct : Ct M' R' (.ref b :: [v1, v2, v3, v4]) (Wd g) (RR (.inl v) g1)) (h : J M R (Q) n0 nx L (v.toList ++ rest) (Wd g1) k ks) : J M R (Q) n0 pc L (v4 :: v3 :: v2 :: v1 :: .ref b :: rest) (Wd g) k ks :=
  J_callV (b := b) (As := [v1, v2, v3, v4]) d hn hml hlk hins hcl he rfl hroom hcat ⟨by rw [hz.1]; exact hk.1, by rw [hz.2]; exact hk.2⟩ hct (fun E es' hq => by cases hq.1) (fun v' es' hq => by
    obtain ⟨h1, rfl⟩ := hq
    cases h1
    rw [hz.1, hz.2]
    exact h)
theorem JiKV4 {M : MI} {R : Room} {Q : Res → List ME → Prop} {n0 pc nx : Nat} {L : List (Option Value)} {rest : List Value} {g : GS} {k ks : Nat} {M' : MI} {R' : Room} {v1 v2 v3 v4 : Value} {b : Nat} {idx : Nat} {P : Int32 → GS → Prop} (d : decode M.2.1 pc = .ok (.invokevirtual idx, 3)) (hn : pc + 3 = nx) (hml : ML M' 4) (hlk : Cond.methodLink M.1.cls idx M'.1 ∈ TT) (hins : Cond.instanceMethod M'.1 ∈ TT ∧ Cond.selects M'.1.cls M'.1 M'.1 ∈ TT) {T : u_T} {N ci : Nat} (hcl : vwCl[ci]? = some (M'.1.cls, T, N)) {fs : List Value} (he : (Wd g)[b]? = some (.inr (ci, fs))) (hroom : R'.frames + 1 ≤ R.frames ∧ 8 + (M'.2.2.1 + 11) + R'.locals ≤ R.locals) (hcat : (rest.map fun v => v.category).sum ≤ 8) (hz : R'.cells = 0 ∧ R'.slots = 0) (hk : k ≤ R.cells ∧ ks ≤ R.slots) (hct : Ct M' R' (.ref b :: [v1, v2, v3, v4]) (Wd g) (RXi P)) (h : ∀ (x : Int32) (g1 : GS), P x g1 → J M R (Q) n0 nx L (.int x :: rest) (Wd g1) k ks) : J M R (Q) n0 pc L (v4 :: v3 :: v2 :: v1 :: .ref b :: rest) (Wd g) k ks :=
  J_callV (b := b) (As := [v1, v2, v3, v4]) d hn hml hlk hins hcl he rfl hroom hcat ⟨by rw [hz.1]; exact hk.1, by rw [hz.2]; exact hk.2⟩ hct (fun E es' hq => by obtain ⟨v, g1, h1, -⟩ := hq; cases h1) (fun v' es' hq => by
    obtain ⟨v, g1, h1, rfl, hp⟩ := hq
    cases h1
    rw [hz.1, hz.2]
    exact h _ _ hp)
theorem JlKV4 {M : MI} {R : Room} {Q : Res → List ME → Prop} {n0 pc nx : Nat} {L : List (Option Value)} {rest : List Value} {g : GS} {k ks : Nat} {M' : MI} {R' : Room} {v1 v2 v3 v4 : Value} {b : Nat} {idx : Nat} {P : Int64 → GS → Prop} (d : decode M.2.1 pc = .ok (.invokevirtual idx, 3)) (hn : pc + 3 = nx) (hml : ML M' 4) (hlk : Cond.methodLink M.1.cls idx M'.1 ∈ TT) (hins : Cond.instanceMethod M'.1 ∈ TT ∧ Cond.selects M'.1.cls M'.1 M'.1 ∈ TT) {T : u_T} {N ci : Nat} (hcl : vwCl[ci]? = some (M'.1.cls, T, N)) {fs : List Value} (he : (Wd g)[b]? = some (.inr (ci, fs))) (hroom : R'.frames + 1 ≤ R.frames ∧ 8 + (M'.2.2.1 + 11) + R'.locals ≤ R.locals) (hcat : (rest.map fun v => v.category).sum ≤ 8) (hz : R'.cells = 0 ∧ R'.slots = 0) (hk : k ≤ R.cells ∧ ks ≤ R.slots) (hct : Ct M' R' (.ref b :: [v1, v2, v3, v4]) (Wd g) (RXl P)) (h : ∀ (x : Int64) (g1 : GS), P x g1 → J M R (Q) n0 nx L (.long x :: rest) (Wd g1) k ks) : J M R (Q) n0 pc L (v4 :: v3 :: v2 :: v1 :: .ref b :: rest) (Wd g) k ks :=
  J_callV (b := b) (As := [v1, v2, v3, v4]) d hn hml hlk hins hcl he rfl hroom hcat ⟨by rw [hz.1]; exact hk.1, by rw [hz.2]; exact hk.2⟩ hct (fun E es' hq => by obtain ⟨v, g1, h1, -⟩ := hq; cases h1) (fun v' es' hq => by
    obtain ⟨v, g1, h1, rfl, hp⟩ := hq
    cases h1
    rw [hz.1, hz.2]
    exact h _ _ hp)
theorem JvKV4 {M : MI} {R : Room} {Q : Res → List ME → Prop} {n0 pc nx : Nat} {L : List (Option Value)} {rest : List Value} {g : GS} {k ks : Nat} {M' : MI} {R' : Room} {v1 v2 v3 v4 : Value} {b : Nat} {idx : Nat} {P : GS → Prop} (d : decode M.2.1 pc = .ok (.invokevirtual idx, 3)) (hn : pc + 3 = nx) (hml : ML M' 4) (hlk : Cond.methodLink M.1.cls idx M'.1 ∈ TT) (hins : Cond.instanceMethod M'.1 ∈ TT ∧ Cond.selects M'.1.cls M'.1 M'.1 ∈ TT) {T : u_T} {N ci : Nat} (hcl : vwCl[ci]? = some (M'.1.cls, T, N)) {fs : List Value} (he : (Wd g)[b]? = some (.inr (ci, fs))) (hroom : R'.frames + 1 ≤ R.frames ∧ 8 + (M'.2.2.1 + 11) + R'.locals ≤ R.locals) (hcat : (rest.map fun v => v.category).sum ≤ 8) (hz : R'.cells = 0 ∧ R'.slots = 0) (hk : k ≤ R.cells ∧ ks ≤ R.slots) (hct : Ct M' R' (.ref b :: [v1, v2, v3, v4]) (Wd g) (RXv P)) (h : ∀ (g1 : GS), P g1 → J M R (Q) n0 nx L (rest) (Wd g1) k ks) : J M R (Q) n0 pc L (v4 :: v3 :: v2 :: v1 :: .ref b :: rest) (Wd g) k ks :=
  J_callV (b := b) (As := [v1, v2, v3, v4]) d hn hml hlk hins hcl he rfl hroom hcat ⟨by rw [hz.1]; exact hk.1, by rw [hz.2]; exact hk.2⟩ hct (fun E es' hq => by obtain ⟨g1, h1, -⟩ := hq; cases h1) (fun v' es' hq => by
    obtain ⟨g1, h1, rfl, hp⟩ := hq
    cases h1
    rw [hz.1, hz.2]
    exact h _ hp)
theorem JcKS5 {M : MI} {R : Room} {Q : Res → List ME → Prop} {n0 pc nx : Nat} {L : List (Option Value)} {rest : List Value} {g : GS} {k ks : Nat} {M' : MI} {R' : Room} {v1 v2 v3 v4 v5 : Value} {idx : Nat} {g1 : GS} {v : Option Value} (d : decode M.2.1 pc = .ok (.invokestatic idx, 3)) (hn : pc + 3 = nx) (hml : ML M' 5) (hlk : Cond.methodLink M.1.cls idx M'.1 ∈ TT) (hst : Cond.static M'.1 ∈ TT) (hroom : R'.frames + 1 ≤ R.frames ∧ 8 + (M'.2.2.1 + 11) + R'.locals ≤ R.locals) (hcat : (rest.map fun v => v.category).sum ≤ 8) (hz : R'.cells = 0 ∧ R'.slots = 0) (hk : k ≤ R.cells ∧ ks ≤ R.slots) (hct : Ct M' R' [v1, v2, v3, v4, v5] (Wd g) (RR (.inl v) g1)) (h : J M R (Q) n0 nx L (v.toList ++ rest) (Wd g1) k ks) : J M R (Q) n0 pc L (v5 :: v4 :: v3 :: v2 :: v1 :: rest) (Wd g) k ks :=
  J_callS (As := [v1, v2, v3, v4, v5]) d hn hml hlk hst rfl hroom hcat ⟨by rw [hz.1]; exact hk.1, by rw [hz.2]; exact hk.2⟩ hct (fun E es' hq => by cases hq.1) (fun v' es' hq => by
    obtain ⟨h1, rfl⟩ := hq
    cases h1
    rw [hz.1, hz.2]
    exact h)
theorem JiKS5 {M : MI} {R : Room} {Q : Res → List ME → Prop} {n0 pc nx : Nat} {L : List (Option Value)} {rest : List Value} {g : GS} {k ks : Nat} {M' : MI} {R' : Room} {v1 v2 v3 v4 v5 : Value} {idx : Nat} {P : Int32 → GS → Prop} (d : decode M.2.1 pc = .ok (.invokestatic idx, 3)) (hn : pc + 3 = nx) (hml : ML M' 5) (hlk : Cond.methodLink M.1.cls idx M'.1 ∈ TT) (hst : Cond.static M'.1 ∈ TT) (hroom : R'.frames + 1 ≤ R.frames ∧ 8 + (M'.2.2.1 + 11) + R'.locals ≤ R.locals) (hcat : (rest.map fun v => v.category).sum ≤ 8) (hz : R'.cells = 0 ∧ R'.slots = 0) (hk : k ≤ R.cells ∧ ks ≤ R.slots) (hct : Ct M' R' [v1, v2, v3, v4, v5] (Wd g) (RXi P)) (h : ∀ (x : Int32) (g1 : GS), P x g1 → J M R (Q) n0 nx L (.int x :: rest) (Wd g1) k ks) : J M R (Q) n0 pc L (v5 :: v4 :: v3 :: v2 :: v1 :: rest) (Wd g) k ks :=
  J_callS (As := [v1, v2, v3, v4, v5]) d hn hml hlk hst rfl hroom hcat ⟨by rw [hz.1]; exact hk.1, by rw [hz.2]; exact hk.2⟩ hct (fun E es' hq => by obtain ⟨v, g1, h1, -⟩ := hq; cases h1) (fun v' es' hq => by
    obtain ⟨v, g1, h1, rfl, hp⟩ := hq
    cases h1
    rw [hz.1, hz.2]
    exact h _ _ hp)
theorem JlKS5 {M : MI} {R : Room} {Q : Res → List ME → Prop} {n0 pc nx : Nat} {L : List (Option Value)} {rest : List Value} {g : GS} {k ks : Nat} {M' : MI} {R' : Room} {v1 v2 v3 v4 v5 : Value} {idx : Nat} {P : Int64 → GS → Prop} (d : decode M.2.1 pc = .ok (.invokestatic idx, 3)) (hn : pc + 3 = nx) (hml : ML M' 5) (hlk : Cond.methodLink M.1.cls idx M'.1 ∈ TT) (hst : Cond.static M'.1 ∈ TT) (hroom : R'.frames + 1 ≤ R.frames ∧ 8 + (M'.2.2.1 + 11) + R'.locals ≤ R.locals) (hcat : (rest.map fun v => v.category).sum ≤ 8) (hz : R'.cells = 0 ∧ R'.slots = 0) (hk : k ≤ R.cells ∧ ks ≤ R.slots) (hct : Ct M' R' [v1, v2, v3, v4, v5] (Wd g) (RXl P)) (h : ∀ (x : Int64) (g1 : GS), P x g1 → J M R (Q) n0 nx L (.long x :: rest) (Wd g1) k ks) : J M R (Q) n0 pc L (v5 :: v4 :: v3 :: v2 :: v1 :: rest) (Wd g) k ks :=
  J_callS (As := [v1, v2, v3, v4, v5]) d hn hml hlk hst rfl hroom hcat ⟨by rw [hz.1]; exact hk.1, by rw [hz.2]; exact hk.2⟩ hct (fun E es' hq => by obtain ⟨v, g1, h1, -⟩ := hq; cases h1) (fun v' es' hq => by
    obtain ⟨v, g1, h1, rfl, hp⟩ := hq
    cases h1
    rw [hz.1, hz.2]
    exact h _ _ hp)
theorem JvKS5 {M : MI} {R : Room} {Q : Res → List ME → Prop} {n0 pc nx : Nat} {L : List (Option Value)} {rest : List Value} {g : GS} {k ks : Nat} {M' : MI} {R' : Room} {v1 v2 v3 v4 v5 : Value} {idx : Nat} {P : GS → Prop} (d : decode M.2.1 pc = .ok (.invokestatic idx, 3)) (hn : pc + 3 = nx) (hml : ML M' 5) (hlk : Cond.methodLink M.1.cls idx M'.1 ∈ TT) (hst : Cond.static M'.1 ∈ TT) (hroom : R'.frames + 1 ≤ R.frames ∧ 8 + (M'.2.2.1 + 11) + R'.locals ≤ R.locals) (hcat : (rest.map fun v => v.category).sum ≤ 8) (hz : R'.cells = 0 ∧ R'.slots = 0) (hk : k ≤ R.cells ∧ ks ≤ R.slots) (hct : Ct M' R' [v1, v2, v3, v4, v5] (Wd g) (RXv P)) (h : ∀ (g1 : GS), P g1 → J M R (Q) n0 nx L (rest) (Wd g1) k ks) : J M R (Q) n0 pc L (v5 :: v4 :: v3 :: v2 :: v1 :: rest) (Wd g) k ks :=
  J_callS (As := [v1, v2, v3, v4, v5]) d hn hml hlk hst rfl hroom hcat ⟨by rw [hz.1]; exact hk.1, by rw [hz.2]; exact hk.2⟩ hct (fun E es' hq => by obtain ⟨g1, h1, -⟩ := hq; cases h1) (fun v' es' hq => by
    obtain ⟨g1, h1, rfl, hp⟩ := hq
    cases h1
    rw [hz.1, hz.2]
    exact h _ hp)
theorem JcKV5 {M : MI} {R : Room} {Q : Res → List ME → Prop} {n0 pc nx : Nat} {L : List (Option Value)} {rest : List Value} {g : GS} {k ks : Nat} {M' : MI} {R' : Room} {v1 v2 v3 v4 v5 : Value} {b : Nat} {idx : Nat} {g1 : GS} {v : Option Value} (d : decode M.2.1 pc = .ok (.invokevirtual idx, 3)) (hn : pc + 3 = nx) (hml : ML M' 5) (hlk : Cond.methodLink M.1.cls idx M'.1 ∈ TT) (hins : Cond.instanceMethod M'.1 ∈ TT ∧ Cond.selects M'.1.cls M'.1 M'.1 ∈ TT) {T : u_T} {N ci : Nat} (hcl : vwCl[ci]? = some (M'.1.cls, T, N)) {fs : List Value} (he : (Wd g)[b]? = some (.inr (ci, fs))) (hroom : R'.frames + 1 ≤ R.frames ∧ 8 + (M'.2.2.1 + 11) + R'.locals ≤ R.locals) (hcat : (rest.map fun v => v.category).sum ≤ 8) (hz : R'.cells = 0 ∧ R'.slots = 0) (hk : k ≤ R.cells ∧ ks ≤ R.slots) (hct : Ct M' R' (.ref b :: [v1, v2, v3, v4, v5]) (Wd g) (RR (.inl v) g1)) (h : J M R (Q) n0 nx L (v.toList ++ rest) (Wd g1) k ks) : J M R (Q) n0 pc L (v5 :: v4 :: v3 :: v2 :: v1 :: .ref b :: rest) (Wd g) k ks :=
  J_callV (b := b) (As := [v1, v2, v3, v4, v5]) d hn hml hlk hins hcl he rfl hroom hcat ⟨by rw [hz.1]; exact hk.1, by rw [hz.2]; exact hk.2⟩ hct (fun E es' hq => by cases hq.1) (fun v' es' hq => by
    obtain ⟨h1, rfl⟩ := hq
    cases h1
    rw [hz.1, hz.2]
    exact h)
theorem JiKV5 {M : MI} {R : Room} {Q : Res → List ME → Prop} {n0 pc nx : Nat} {L : List (Option Value)} {rest : List Value} {g : GS} {k ks : Nat} {M' : MI} {R' : Room} {v1 v2 v3 v4 v5 : Value} {b : Nat} {idx : Nat} {P : Int32 → GS → Prop} (d : decode M.2.1 pc = .ok (.invokevirtual idx, 3)) (hn : pc + 3 = nx) (hml : ML M' 5) (hlk : Cond.methodLink M.1.cls idx M'.1 ∈ TT) (hins : Cond.instanceMethod M'.1 ∈ TT ∧ Cond.selects M'.1.cls M'.1 M'.1 ∈ TT) {T : u_T} {N ci : Nat} (hcl : vwCl[ci]? = some (M'.1.cls, T, N)) {fs : List Value} (he : (Wd g)[b]? = some (.inr (ci, fs))) (hroom : R'.frames + 1 ≤ R.frames ∧ 8 + (M'.2.2.1 + 11) + R'.locals ≤ R.locals) (hcat : (rest.map fun v => v.category).sum ≤ 8) (hz : R'.cells = 0 ∧ R'.slots = 0) (hk : k ≤ R.cells ∧ ks ≤ R.slots) (hct : Ct M' R' (.ref b :: [v1, v2, v3, v4, v5]) (Wd g) (RXi P)) (h : ∀ (x : Int32) (g1 : GS), P x g1 → J M R (Q) n0 nx L (.int x :: rest) (Wd g1) k ks) : J M R (Q) n0 pc L (v5 :: v4 :: v3 :: v2 :: v1 :: .ref b :: rest) (Wd g) k ks :=
  J_callV (b := b) (As := [v1, v2, v3, v4, v5]) d hn hml hlk hins hcl he rfl hroom hcat ⟨by rw [hz.1]; exact hk.1, by rw [hz.2]; exact hk.2⟩ hct (fun E es' hq => by obtain ⟨v, g1, h1, -⟩ := hq; cases h1) (fun v' es' hq => by
    obtain ⟨v, g1, h1, rfl, hp⟩ := hq
    cases h1
    rw [hz.1, hz.2]
    exact h _ _ hp)
theorem JlKV5 {M : MI} {R : Room} {Q : Res → List ME → Prop} {n0 pc nx : Nat} {L : List (Option Value)} {rest : List Value} {g : GS} {k ks : Nat} {M' : MI} {R' : Room} {v1 v2 v3 v4 v5 : Value} {b : Nat} {idx : Nat} {P : Int64 → GS → Prop} (d : decode M.2.1 pc = .ok (.invokevirtual idx, 3)) (hn : pc + 3 = nx) (hml : ML M' 5) (hlk : Cond.methodLink M.1.cls idx M'.1 ∈ TT) (hins : Cond.instanceMethod M'.1 ∈ TT ∧ Cond.selects M'.1.cls M'.1 M'.1 ∈ TT) {T : u_T} {N ci : Nat} (hcl : vwCl[ci]? = some (M'.1.cls, T, N)) {fs : List Value} (he : (Wd g)[b]? = some (.inr (ci, fs))) (hroom : R'.frames + 1 ≤ R.frames ∧ 8 + (M'.2.2.1 + 11) + R'.locals ≤ R.locals) (hcat : (rest.map fun v => v.category).sum ≤ 8) (hz : R'.cells = 0 ∧ R'.slots = 0) (hk : k ≤ R.cells ∧ ks ≤ R.slots) (hct : Ct M' R' (.ref b :: [v1, v2, v3, v4, v5]) (Wd g) (RXl P)) (h : ∀ (x : Int64) (g1 : GS), P x g1 → J M R (Q) n0 nx L (.long x :: rest) (Wd g1) k ks) : J M R (Q) n0 pc L (v5 :: v4 :: v3 :: v2 :: v1 :: .ref b :: rest) (Wd g) k ks :=
  J_callV (b := b) (As := [v1, v2, v3, v4, v5]) d hn hml hlk hins hcl he rfl hroom hcat ⟨by rw [hz.1]; exact hk.1, by rw [hz.2]; exact hk.2⟩ hct (fun E es' hq => by obtain ⟨v, g1, h1, -⟩ := hq; cases h1) (fun v' es' hq => by
    obtain ⟨v, g1, h1, rfl, hp⟩ := hq
    cases h1
    rw [hz.1, hz.2]
    exact h _ _ hp)
theorem JvKV5 {M : MI} {R : Room} {Q : Res → List ME → Prop} {n0 pc nx : Nat} {L : List (Option Value)} {rest : List Value} {g : GS} {k ks : Nat} {M' : MI} {R' : Room} {v1 v2 v3 v4 v5 : Value} {b : Nat} {idx : Nat} {P : GS → Prop} (d : decode M.2.1 pc = .ok (.invokevirtual idx, 3)) (hn : pc + 3 = nx) (hml : ML M' 5) (hlk : Cond.methodLink M.1.cls idx M'.1 ∈ TT) (hins : Cond.instanceMethod M'.1 ∈ TT ∧ Cond.selects M'.1.cls M'.1 M'.1 ∈ TT) {T : u_T} {N ci : Nat} (hcl : vwCl[ci]? = some (M'.1.cls, T, N)) {fs : List Value} (he : (Wd g)[b]? = some (.inr (ci, fs))) (hroom : R'.frames + 1 ≤ R.frames ∧ 8 + (M'.2.2.1 + 11) + R'.locals ≤ R.locals) (hcat : (rest.map fun v => v.category).sum ≤ 8) (hz : R'.cells = 0 ∧ R'.slots = 0) (hk : k ≤ R.cells ∧ ks ≤ R.slots) (hct : Ct M' R' (.ref b :: [v1, v2, v3, v4, v5]) (Wd g) (RXv P)) (h : ∀ (g1 : GS), P g1 → J M R (Q) n0 nx L (rest) (Wd g1) k ks) : J M R (Q) n0 pc L (v5 :: v4 :: v3 :: v2 :: v1 :: .ref b :: rest) (Wd g) k ks :=
  J_callV (b := b) (As := [v1, v2, v3, v4, v5]) d hn hml hlk hins hcl he rfl hroom hcat ⟨by rw [hz.1]; exact hk.1, by rw [hz.2]; exact hk.2⟩ hct (fun E es' hq => by obtain ⟨g1, h1, -⟩ := hq; cases h1) (fun v' es' hq => by
    obtain ⟨g1, h1, rfl, hp⟩ := hq
    cases h1
    rw [hz.1, hz.2]
    exact h _ hp)
theorem JcKS6 {M : MI} {R : Room} {Q : Res → List ME → Prop} {n0 pc nx : Nat} {L : List (Option Value)} {rest : List Value} {g : GS} {k ks : Nat} {M' : MI} {R' : Room} {v1 v2 v3 v4 v5 v6 : Value} {idx : Nat} {g1 : GS} {v : Option Value} (d : decode M.2.1 pc = .ok (.invokestatic idx, 3)) (hn : pc + 3 = nx) (hml : ML M' 6) (hlk : Cond.methodLink M.1.cls idx M'.1 ∈ TT) (hst : Cond.static M'.1 ∈ TT) (hroom : R'.frames + 1 ≤ R.frames ∧ 8 + (M'.2.2.1 + 11) + R'.locals ≤ R.locals) (hcat : (rest.map fun v => v.category).sum ≤ 8) (hz : R'.cells = 0 ∧ R'.slots = 0) (hk : k ≤ R.cells ∧ ks ≤ R.slots) (hct : Ct M' R' [v1, v2, v3, v4, v5, v6] (Wd g) (RR (.inl v) g1)) (h : J M R (Q) n0 nx L (v.toList ++ rest) (Wd g1) k ks) : J M R (Q) n0 pc L (v6 :: v5 :: v4 :: v3 :: v2 :: v1 :: rest) (Wd g) k ks :=
  J_callS (As := [v1, v2, v3, v4, v5, v6]) d hn hml hlk hst rfl hroom hcat ⟨by rw [hz.1]; exact hk.1, by rw [hz.2]; exact hk.2⟩ hct (fun E es' hq => by cases hq.1) (fun v' es' hq => by
    obtain ⟨h1, rfl⟩ := hq
    cases h1
    rw [hz.1, hz.2]
    exact h)
theorem JiKS6 {M : MI} {R : Room} {Q : Res → List ME → Prop} {n0 pc nx : Nat} {L : List (Option Value)} {rest : List Value} {g : GS} {k ks : Nat} {M' : MI} {R' : Room} {v1 v2 v3 v4 v5 v6 : Value} {idx : Nat} {P : Int32 → GS → Prop} (d : decode M.2.1 pc = .ok (.invokestatic idx, 3)) (hn : pc + 3 = nx) (hml : ML M' 6) (hlk : Cond.methodLink M.1.cls idx M'.1 ∈ TT) (hst : Cond.static M'.1 ∈ TT) (hroom : R'.frames + 1 ≤ R.frames ∧ 8 + (M'.2.2.1 + 11) + R'.locals ≤ R.locals) (hcat : (rest.map fun v => v.category).sum ≤ 8) (hz : R'.cells = 0 ∧ R'.slots = 0) (hk : k ≤ R.cells ∧ ks ≤ R.slots) (hct : Ct M' R' [v1, v2, v3, v4, v5, v6] (Wd g) (RXi P)) (h : ∀ (x : Int32) (g1 : GS), P x g1 → J M R (Q) n0 nx L (.int x :: rest) (Wd g1) k ks) : J M R (Q) n0 pc L (v6 :: v5 :: v4 :: v3 :: v2 :: v1 :: rest) (Wd g) k ks :=
  J_callS (As := [v1, v2, v3, v4, v5, v6]) d hn hml hlk hst rfl hroom hcat ⟨by rw [hz.1]; exact hk.1, by rw [hz.2]; exact hk.2⟩ hct (fun E es' hq => by obtain ⟨v, g1, h1, -⟩ := hq; cases h1) (fun v' es' hq => by
    obtain ⟨v, g1, h1, rfl, hp⟩ := hq
    cases h1
    rw [hz.1, hz.2]
    exact h _ _ hp)
theorem JlKS6 {M : MI} {R : Room} {Q : Res → List ME → Prop} {n0 pc nx : Nat} {L : List (Option Value)} {rest : List Value} {g : GS} {k ks : Nat} {M' : MI} {R' : Room} {v1 v2 v3 v4 v5 v6 : Value} {idx : Nat} {P : Int64 → GS → Prop} (d : decode M.2.1 pc = .ok (.invokestatic idx, 3)) (hn : pc + 3 = nx) (hml : ML M' 6) (hlk : Cond.methodLink M.1.cls idx M'.1 ∈ TT) (hst : Cond.static M'.1 ∈ TT) (hroom : R'.frames + 1 ≤ R.frames ∧ 8 + (M'.2.2.1 + 11) + R'.locals ≤ R.locals) (hcat : (rest.map fun v => v.category).sum ≤ 8) (hz : R'.cells = 0 ∧ R'.slots = 0) (hk : k ≤ R.cells ∧ ks ≤ R.slots) (hct : Ct M' R' [v1, v2, v3, v4, v5, v6] (Wd g) (RXl P)) (h : ∀ (x : Int64) (g1 : GS), P x g1 → J M R (Q) n0 nx L (.long x :: rest) (Wd g1) k ks) : J M R (Q) n0 pc L (v6 :: v5 :: v4 :: v3 :: v2 :: v1 :: rest) (Wd g) k ks :=
  J_callS (As := [v1, v2, v3, v4, v5, v6]) d hn hml hlk hst rfl hroom hcat ⟨by rw [hz.1]; exact hk.1, by rw [hz.2]; exact hk.2⟩ hct (fun E es' hq => by obtain ⟨v, g1, h1, -⟩ := hq; cases h1) (fun v' es' hq => by
    obtain ⟨v, g1, h1, rfl, hp⟩ := hq
    cases h1
    rw [hz.1, hz.2]
    exact h _ _ hp)
theorem JvKS6 {M : MI} {R : Room} {Q : Res → List ME → Prop} {n0 pc nx : Nat} {L : List (Option Value)} {rest : List Value} {g : GS} {k ks : Nat} {M' : MI} {R' : Room} {v1 v2 v3 v4 v5 v6 : Value} {idx : Nat} {P : GS → Prop} (d : decode M.2.1 pc = .ok (.invokestatic idx, 3)) (hn : pc + 3 = nx) (hml : ML M' 6) (hlk : Cond.methodLink M.1.cls idx M'.1 ∈ TT) (hst : Cond.static M'.1 ∈ TT) (hroom : R'.frames + 1 ≤ R.frames ∧ 8 + (M'.2.2.1 + 11) + R'.locals ≤ R.locals) (hcat : (rest.map fun v => v.category).sum ≤ 8) (hz : R'.cells = 0 ∧ R'.slots = 0) (hk : k ≤ R.cells ∧ ks ≤ R.slots) (hct : Ct M' R' [v1, v2, v3, v4, v5, v6] (Wd g) (RXv P)) (h : ∀ (g1 : GS), P g1 → J M R (Q) n0 nx L (rest) (Wd g1) k ks) : J M R (Q) n0 pc L (v6 :: v5 :: v4 :: v3 :: v2 :: v1 :: rest) (Wd g) k ks :=
  J_callS (As := [v1, v2, v3, v4, v5, v6]) d hn hml hlk hst rfl hroom hcat ⟨by rw [hz.1]; exact hk.1, by rw [hz.2]; exact hk.2⟩ hct (fun E es' hq => by obtain ⟨g1, h1, -⟩ := hq; cases h1) (fun v' es' hq => by
    obtain ⟨g1, h1, rfl, hp⟩ := hq
    cases h1
    rw [hz.1, hz.2]
    exact h _ hp)
theorem JcKV6 {M : MI} {R : Room} {Q : Res → List ME → Prop} {n0 pc nx : Nat} {L : List (Option Value)} {rest : List Value} {g : GS} {k ks : Nat} {M' : MI} {R' : Room} {v1 v2 v3 v4 v5 v6 : Value} {b : Nat} {idx : Nat} {g1 : GS} {v : Option Value} (d : decode M.2.1 pc = .ok (.invokevirtual idx, 3)) (hn : pc + 3 = nx) (hml : ML M' 6) (hlk : Cond.methodLink M.1.cls idx M'.1 ∈ TT) (hins : Cond.instanceMethod M'.1 ∈ TT ∧ Cond.selects M'.1.cls M'.1 M'.1 ∈ TT) {T : u_T} {N ci : Nat} (hcl : vwCl[ci]? = some (M'.1.cls, T, N)) {fs : List Value} (he : (Wd g)[b]? = some (.inr (ci, fs))) (hroom : R'.frames + 1 ≤ R.frames ∧ 8 + (M'.2.2.1 + 11) + R'.locals ≤ R.locals) (hcat : (rest.map fun v => v.category).sum ≤ 8) (hz : R'.cells = 0 ∧ R'.slots = 0) (hk : k ≤ R.cells ∧ ks ≤ R.slots) (hct : Ct M' R' (.ref b :: [v1, v2, v3, v4, v5, v6]) (Wd g) (RR (.inl v) g1)) (h : J M R (Q) n0 nx L (v.toList ++ rest) (Wd g1) k ks) : J M R (Q) n0 pc L (v6 :: v5 :: v4 :: v3 :: v2 :: v1 :: .ref b :: rest) (Wd g) k ks :=
  J_callV (b := b) (As := [v1, v2, v3, v4, v5, v6]) d hn hml hlk hins hcl he rfl hroom hcat ⟨by rw [hz.1]; exact hk.1, by rw [hz.2]; exact hk.2⟩ hct (fun E es' hq => by cases hq.1) (fun v' es' hq => by
    obtain ⟨h1, rfl⟩ := hq
    cases h1
    rw [hz.1, hz.2]
    exact h)
theorem JiKV6 {M : MI} {R : Room} {Q : Res → List ME → Prop} {n0 pc nx : Nat} {L : List (Option Value)} {rest : List Value} {g : GS} {k ks : Nat} {M' : MI} {R' : Room} {v1 v2 v3 v4 v5 v6 : Value} {b : Nat} {idx : Nat} {P : Int32 → GS → Prop} (d : decode M.2.1 pc = .ok (.invokevirtual idx, 3)) (hn : pc + 3 = nx) (hml : ML M' 6) (hlk : Cond.methodLink M.1.cls idx M'.1 ∈ TT) (hins : Cond.instanceMethod M'.1 ∈ TT ∧ Cond.selects M'.1.cls M'.1 M'.1 ∈ TT) {T : u_T} {N ci : Nat} (hcl : vwCl[ci]? = some (M'.1.cls, T, N)) {fs : List Value} (he : (Wd g)[b]? = some (.inr (ci, fs))) (hroom : R'.frames + 1 ≤ R.frames ∧ 8 + (M'.2.2.1 + 11) + R'.locals ≤ R.locals) (hcat : (rest.map fun v => v.category).sum ≤ 8) (hz : R'.cells = 0 ∧ R'.slots = 0) (hk : k ≤ R.cells ∧ ks ≤ R.slots) (hct : Ct M' R' (.ref b :: [v1, v2, v3, v4, v5, v6]) (Wd g) (RXi P)) (h : ∀ (x : Int32) (g1 : GS), P x g1 → J M R (Q) n0 nx L (.int x :: rest) (Wd g1) k ks) : J M R (Q) n0 pc L (v6 :: v5 :: v4 :: v3 :: v2 :: v1 :: .ref b :: rest) (Wd g) k ks :=
  J_callV (b := b) (As := [v1, v2, v3, v4, v5, v6]) d hn hml hlk hins hcl he rfl hroom hcat ⟨by rw [hz.1]; exact hk.1, by rw [hz.2]; exact hk.2⟩ hct (fun E es' hq => by obtain ⟨v, g1, h1, -⟩ := hq; cases h1) (fun v' es' hq => by
    obtain ⟨v, g1, h1, rfl, hp⟩ := hq
    cases h1
    rw [hz.1, hz.2]
    exact h _ _ hp)
theorem JlKV6 {M : MI} {R : Room} {Q : Res → List ME → Prop} {n0 pc nx : Nat} {L : List (Option Value)} {rest : List Value} {g : GS} {k ks : Nat} {M' : MI} {R' : Room} {v1 v2 v3 v4 v5 v6 : Value} {b : Nat} {idx : Nat} {P : Int64 → GS → Prop} (d : decode M.2.1 pc = .ok (.invokevirtual idx, 3)) (hn : pc + 3 = nx) (hml : ML M' 6) (hlk : Cond.methodLink M.1.cls idx M'.1 ∈ TT) (hins : Cond.instanceMethod M'.1 ∈ TT ∧ Cond.selects M'.1.cls M'.1 M'.1 ∈ TT) {T : u_T} {N ci : Nat} (hcl : vwCl[ci]? = some (M'.1.cls, T, N)) {fs : List Value} (he : (Wd g)[b]? = some (.inr (ci, fs))) (hroom : R'.frames + 1 ≤ R.frames ∧ 8 + (M'.2.2.1 + 11) + R'.locals ≤ R.locals) (hcat : (rest.map fun v => v.category).sum ≤ 8) (hz : R'.cells = 0 ∧ R'.slots = 0) (hk : k ≤ R.cells ∧ ks ≤ R.slots) (hct : Ct M' R' (.ref b :: [v1, v2, v3, v4, v5, v6]) (Wd g) (RXl P)) (h : ∀ (x : Int64) (g1 : GS), P x g1 → J M R (Q) n0 nx L (.long x :: rest) (Wd g1) k ks) : J M R (Q) n0 pc L (v6 :: v5 :: v4 :: v3 :: v2 :: v1 :: .ref b :: rest) (Wd g) k ks :=
  J_callV (b := b) (As := [v1, v2, v3, v4, v5, v6]) d hn hml hlk hins hcl he rfl hroom hcat ⟨by rw [hz.1]; exact hk.1, by rw [hz.2]; exact hk.2⟩ hct (fun E es' hq => by obtain ⟨v, g1, h1, -⟩ := hq; cases h1) (fun v' es' hq => by
    obtain ⟨v, g1, h1, rfl, hp⟩ := hq
    cases h1
    rw [hz.1, hz.2]
    exact h _ _ hp)
theorem JvKV6 {M : MI} {R : Room} {Q : Res → List ME → Prop} {n0 pc nx : Nat} {L : List (Option Value)} {rest : List Value} {g : GS} {k ks : Nat} {M' : MI} {R' : Room} {v1 v2 v3 v4 v5 v6 : Value} {b : Nat} {idx : Nat} {P : GS → Prop} (d : decode M.2.1 pc = .ok (.invokevirtual idx, 3)) (hn : pc + 3 = nx) (hml : ML M' 6) (hlk : Cond.methodLink M.1.cls idx M'.1 ∈ TT) (hins : Cond.instanceMethod M'.1 ∈ TT ∧ Cond.selects M'.1.cls M'.1 M'.1 ∈ TT) {T : u_T} {N ci : Nat} (hcl : vwCl[ci]? = some (M'.1.cls, T, N)) {fs : List Value} (he : (Wd g)[b]? = some (.inr (ci, fs))) (hroom : R'.frames + 1 ≤ R.frames ∧ 8 + (M'.2.2.1 + 11) + R'.locals ≤ R.locals) (hcat : (rest.map fun v => v.category).sum ≤ 8) (hz : R'.cells = 0 ∧ R'.slots = 0) (hk : k ≤ R.cells ∧ ks ≤ R.slots) (hct : Ct M' R' (.ref b :: [v1, v2, v3, v4, v5, v6]) (Wd g) (RXv P)) (h : ∀ (g1 : GS), P g1 → J M R (Q) n0 nx L (rest) (Wd g1) k ks) : J M R (Q) n0 pc L (v6 :: v5 :: v4 :: v3 :: v2 :: v1 :: .ref b :: rest) (Wd g) k ks :=
  J_callV (b := b) (As := [v1, v2, v3, v4, v5, v6]) d hn hml hlk hins hcl he rfl hroom hcat ⟨by rw [hz.1]; exact hk.1, by rw [hz.2]; exact hk.2⟩ hct (fun E es' hq => by obtain ⟨g1, h1, -⟩ := hq; cases h1) (fun v' es' hq => by
    obtain ⟨g1, h1, rfl, hp⟩ := hq
    cases h1
    rw [hz.1, hz.2]
    exact h _ hp)
theorem JcKS7 {M : MI} {R : Room} {Q : Res → List ME → Prop} {n0 pc nx : Nat} {L : List (Option Value)} {rest : List Value} {g : GS} {k ks : Nat} {M' : MI} {R' : Room} {v1 v2 v3 v4 v5 v6 v7 : Value} {idx : Nat} {g1 : GS} {v : Option Value} (d : decode M.2.1 pc = .ok (.invokestatic idx, 3)) (hn : pc + 3 = nx) (hml : ML M' 7) (hlk : Cond.methodLink M.1.cls idx M'.1 ∈ TT) (hst : Cond.static M'.1 ∈ TT) (hroom : R'.frames + 1 ≤ R.frames ∧ 8 + (M'.2.2.1 + 11) + R'.locals ≤ R.locals) (hcat : (rest.map fun v => v.category).sum ≤ 8) (hz : R'.cells = 0 ∧ R'.slots = 0) (hk : k ≤ R.cells ∧ ks ≤ R.slots) (hct : Ct M' R' [v1, v2, v3, v4, v5, v6, v7] (Wd g) (RR (.inl v) g1)) (h : J M R (Q) n0 nx L (v.toList ++ rest) (Wd g1) k ks) : J M R (Q) n0 pc L (v7 :: v6 :: v5 :: v4 :: v3 :: v2 :: v1 :: rest) (Wd g) k ks :=
  J_callS (As := [v1, v2, v3, v4, v5, v6, v7]) d hn hml hlk hst rfl hroom hcat ⟨by rw [hz.1]; exact hk.1, by rw [hz.2]; exact hk.2⟩ hct (fun E es' hq => by cases hq.1) (fun v' es' hq => by
    obtain ⟨h1, rfl⟩ := hq
    cases h1
    rw [hz.1, hz.2]
    exact h)
theorem JiKS7 {M : MI} {R : Room} {Q : Res → List ME → Prop} {n0 pc nx : Nat} {L : List (Option Value)} {rest : List Value} {g : GS} {k ks : Nat} {M' : MI} {R' : Room} {v1 v2 v3 v4 v5 v6 v7 : Value} {idx : Nat} {P : Int32 → GS → Prop} (d : decode M.2.1 pc = .ok (.invokestatic idx, 3)) (hn : pc + 3 = nx) (hml : ML M' 7) (hlk : Cond.methodLink M.1.cls idx M'.1 ∈ TT) (hst : Cond.static M'.1 ∈ TT) (hroom : R'.frames + 1 ≤ R.frames ∧ 8 + (M'.2.2.1 + 11) + R'.locals ≤ R.locals) (hcat : (rest.map fun v => v.category).sum ≤ 8) (hz : R'.cells = 0 ∧ R'.slots = 0) (hk : k ≤ R.cells ∧ ks ≤ R.slots) (hct : Ct M' R' [v1, v2, v3, v4, v5, v6, v7] (Wd g) (RXi P)) (h : ∀ (x : Int32) (g1 : GS), P x g1 → J M R (Q) n0 nx L (.int x :: rest) (Wd g1) k ks) : J M R (Q) n0 pc L (v7 :: v6 :: v5 :: v4 :: v3 :: v2 :: v1 :: rest) (Wd g) k ks :=
  J_callS (As := [v1, v2, v3, v4, v5, v6, v7]) d hn hml hlk hst rfl hroom hcat ⟨by rw [hz.1]; exact hk.1, by rw [hz.2]; exact hk.2⟩ hct (fun E es' hq => by obtain ⟨v, g1, h1, -⟩ := hq; cases h1) (fun v' es' hq => by
    obtain ⟨v, g1, h1, rfl, hp⟩ := hq
    cases h1
    rw [hz.1, hz.2]
    exact h _ _ hp)
theorem JlKS7 {M : MI} {R : Room} {Q : Res → List ME → Prop} {n0 pc nx : Nat} {L : List (Option Value)} {rest : List Value} {g : GS} {k ks : Nat} {M' : MI} {R' : Room} {v1 v2 v3 v4 v5 v6 v7 : Value} {idx : Nat} {P : Int64 → GS → Prop} (d : decode M.2.1 pc = .ok (.invokestatic idx, 3)) (hn : pc + 3 = nx) (hml : ML M' 7) (hlk : Cond.methodLink M.1.cls idx M'.1 ∈ TT) (hst : Cond.static M'.1 ∈ TT) (hroom : R'.frames + 1 ≤ R.frames ∧ 8 + (M'.2.2.1 + 11) + R'.locals ≤ R.locals) (hcat : (rest.map fun v => v.category).sum ≤ 8) (hz : R'.cells = 0 ∧ R'.slots = 0) (hk : k ≤ R.cells ∧ ks ≤ R.slots) (hct : Ct M' R' [v1, v2, v3, v4, v5, v6, v7] (Wd g) (RXl P)) (h : ∀ (x : Int64) (g1 : GS), P x g1 → J M R (Q) n0 nx L (.long x :: rest) (Wd g1) k ks) : J M R (Q) n0 pc L (v7 :: v6 :: v5 :: v4 :: v3 :: v2 :: v1 :: rest) (Wd g) k ks :=
  J_callS (As := [v1, v2, v3, v4, v5, v6, v7]) d hn hml hlk hst rfl hroom hcat ⟨by rw [hz.1]; exact hk.1, by rw [hz.2]; exact hk.2⟩ hct (fun E es' hq => by obtain ⟨v, g1, h1, -⟩ := hq; cases h1) (fun v' es' hq => by
    obtain ⟨v, g1, h1, rfl, hp⟩ := hq
    cases h1
    rw [hz.1, hz.2]
    exact h _ _ hp)
theorem JvKS7 {M : MI} {R : Room} {Q : Res → List ME → Prop} {n0 pc nx : Nat} {L : List (Option Value)} {rest : List Value} {g : GS} {k ks : Nat} {M' : MI} {R' : Room} {v1 v2 v3 v4 v5 v6 v7 : Value} {idx : Nat} {P : GS → Prop} (d : decode M.2.1 pc = .ok (.invokestatic idx, 3)) (hn : pc + 3 = nx) (hml : ML M' 7) (hlk : Cond.methodLink M.1.cls idx M'.1 ∈ TT) (hst : Cond.static M'.1 ∈ TT) (hroom : R'.frames + 1 ≤ R.frames ∧ 8 + (M'.2.2.1 + 11) + R'.locals ≤ R.locals) (hcat : (rest.map fun v => v.category).sum ≤ 8) (hz : R'.cells = 0 ∧ R'.slots = 0) (hk : k ≤ R.cells ∧ ks ≤ R.slots) (hct : Ct M' R' [v1, v2, v3, v4, v5, v6, v7] (Wd g) (RXv P)) (h : ∀ (g1 : GS), P g1 → J M R (Q) n0 nx L (rest) (Wd g1) k ks) : J M R (Q) n0 pc L (v7 :: v6 :: v5 :: v4 :: v3 :: v2 :: v1 :: rest) (Wd g) k ks :=
  J_callS (As := [v1, v2, v3, v4, v5, v6, v7]) d hn hml hlk hst rfl hroom hcat ⟨by rw [hz.1]; exact hk.1, by rw [hz.2]; exact hk.2⟩ hct (fun E es' hq => by obtain ⟨g1, h1, -⟩ := hq; cases h1) (fun v' es' hq => by
    obtain ⟨g1, h1, rfl, hp⟩ := hq
    cases h1
    rw [hz.1, hz.2]
    exact h _ hp)
theorem JcKV7 {M : MI} {R : Room} {Q : Res → List ME → Prop} {n0 pc nx : Nat} {L : List (Option Value)} {rest : List Value} {g : GS} {k ks : Nat} {M' : MI} {R' : Room} {v1 v2 v3 v4 v5 v6 v7 : Value} {b : Nat} {idx : Nat} {g1 : GS} {v : Option Value} (d : decode M.2.1 pc = .ok (.invokevirtual idx, 3)) (hn : pc + 3 = nx) (hml : ML M' 7) (hlk : Cond.methodLink M.1.cls idx M'.1 ∈ TT) (hins : Cond.instanceMethod M'.1 ∈ TT ∧ Cond.selects M'.1.cls M'.1 M'.1 ∈ TT) {T : u_T} {N ci : Nat} (hcl : vwCl[ci]? = some (M'.1.cls, T, N)) {fs : List Value} (he : (Wd g)[b]? = some (.inr (ci, fs))) (hroom : R'.frames + 1 ≤ R.frames ∧ 8 + (M'.2.2.1 + 11) + R'.locals ≤ R.locals) (hcat : (rest.map fun v => v.category).sum ≤ 8) (hz : R'.cells = 0 ∧ R'.slots = 0) (hk : k ≤ R.cells ∧ ks ≤ R.slots) (hct : Ct M' R' (.ref b :: [v1, v2, v3, v4, v5, v6, v7]) (Wd g) (RR (.inl v) g1)) (h : J M R (Q) n0 nx L (v.toList ++ rest) (Wd g1) k ks) : J M R (Q) n0 pc L (v7 :: v6 :: v5 :: v4 :: v3 :: v2 :: v1 :: .ref b :: rest) (Wd g) k ks :=
  J_callV (b := b) (As := [v1, v2, v3, v4, v5, v6, v7]) d hn hml hlk hins hcl he rfl hroom hcat ⟨by rw [hz.1]; exact hk.1, by rw [hz.2]; exact hk.2⟩ hct (fun E es' hq => by cases hq.1) (fun v' es' hq => by
    obtain ⟨h1, rfl⟩ := hq
    cases h1
    rw [hz.1, hz.2]
    exact h)
theorem JiKV7 {M : MI} {R : Room} {Q : Res → List ME → Prop} {n0 pc nx : Nat} {L : List (Option Value)} {rest : List Value} {g : GS} {k ks : Nat} {M' : MI} {R' : Room} {v1 v2 v3 v4 v5 v6 v7 : Value} {b : Nat} {idx : Nat} {P : Int32 → GS → Prop} (d : decode M.2.1 pc = .ok (.invokevirtual idx, 3)) (hn : pc + 3 = nx) (hml : ML M' 7) (hlk : Cond.methodLink M.1.cls idx M'.1 ∈ TT) (hins : Cond.instanceMethod M'.1 ∈ TT ∧ Cond.selects M'.1.cls M'.1 M'.1 ∈ TT) {T : u_T} {N ci : Nat} (hcl : vwCl[ci]? = some (M'.1.cls, T, N)) {fs : List Value} (he : (Wd g)[b]? = some (.inr (ci, fs))) (hroom : R'.frames + 1 ≤ R.frames ∧ 8 + (M'.2.2.1 + 11) + R'.locals ≤ R.locals) (hcat : (rest.map fun v => v.category).sum ≤ 8) (hz : R'.cells = 0 ∧ R'.slots = 0) (hk : k ≤ R.cells ∧ ks ≤ R.slots) (hct : Ct M' R' (.ref b :: [v1, v2, v3, v4, v5, v6, v7]) (Wd g) (RXi P)) (h : ∀ (x : Int32) (g1 : GS), P x g1 → J M R (Q) n0 nx L (.int x :: rest) (Wd g1) k ks) : J M R (Q) n0 pc L (v7 :: v6 :: v5 :: v4 :: v3 :: v2 :: v1 :: .ref b :: rest) (Wd g) k ks :=
  J_callV (b := b) (As := [v1, v2, v3, v4, v5, v6, v7]) d hn hml hlk hins hcl he rfl hroom hcat ⟨by rw [hz.1]; exact hk.1, by rw [hz.2]; exact hk.2⟩ hct (fun E es' hq => by obtain ⟨v, g1, h1, -⟩ := hq; cases h1) (fun v' es' hq => by
    obtain ⟨v, g1, h1, rfl, hp⟩ := hq
    cases h1
    rw [hz.1, hz.2]
    exact h _ _ hp)
theorem JlKV7 {M : MI} {R : Room} {Q : Res → List ME → Prop} {n0 pc nx : Nat} {L : List (Option Value)} {rest : List Value} {g : GS} {k ks : Nat} {M' : MI} {R' : Room} {v1 v2 v3 v4 v5 v6 v7 : Value} {b : Nat} {idx : Nat} {P : Int64 → GS → Prop} (d : decode M.2.1 pc = .ok (.invokevirtual idx, 3)) (hn : pc + 3 = nx) (hml : ML M' 7) (hlk : Cond.methodLink M.1.cls idx M'.1 ∈ TT) (hins : Cond.instanceMethod M'.1 ∈ TT ∧ Cond.selects M'.1.cls M'.1 M'.1 ∈ TT) {T : u_T} {N ci : Nat} (hcl : vwCl[ci]? = some (M'.1.cls, T, N)) {fs : List Value} (he : (Wd g)[b]? = some (.inr (ci, fs))) (hroom : R'.frames + 1 ≤ R.frames ∧ 8 + (M'.2.2.1 + 11) + R'.locals ≤ R.locals) (hcat : (rest.map fun v => v.category).sum ≤ 8) (hz : R'.cells = 0 ∧ R'.slots = 0) (hk : k ≤ R.cells ∧ ks ≤ R.slots) (hct : Ct M' R' (.ref b :: [v1, v2, v3, v4, v5, v6, v7]) (Wd g) (RXl P)) (h : ∀ (x : Int64) (g1 : GS), P x g1 → J M R (Q) n0 nx L (.long x :: rest) (Wd g1) k ks) : J M R (Q) n0 pc L (v7 :: v6 :: v5 :: v4 :: v3 :: v2 :: v1 :: .ref b :: rest) (Wd g) k ks :=
  J_callV (b := b) (As := [v1, v2, v3, v4, v5, v6, v7]) d hn hml hlk hins hcl he rfl hroom hcat ⟨by rw [hz.1]; exact hk.1, by rw [hz.2]; exact hk.2⟩ hct (fun E es' hq => by obtain ⟨v, g1, h1, -⟩ := hq; cases h1) (fun v' es' hq => by
    obtain ⟨v, g1, h1, rfl, hp⟩ := hq
    cases h1
    rw [hz.1, hz.2]
    exact h _ _ hp)
theorem JvKV7 {M : MI} {R : Room} {Q : Res → List ME → Prop} {n0 pc nx : Nat} {L : List (Option Value)} {rest : List Value} {g : GS} {k ks : Nat} {M' : MI} {R' : Room} {v1 v2 v3 v4 v5 v6 v7 : Value} {b : Nat} {idx : Nat} {P : GS → Prop} (d : decode M.2.1 pc = .ok (.invokevirtual idx, 3)) (hn : pc + 3 = nx) (hml : ML M' 7) (hlk : Cond.methodLink M.1.cls idx M'.1 ∈ TT) (hins : Cond.instanceMethod M'.1 ∈ TT ∧ Cond.selects M'.1.cls M'.1 M'.1 ∈ TT) {T : u_T} {N ci : Nat} (hcl : vwCl[ci]? = some (M'.1.cls, T, N)) {fs : List Value} (he : (Wd g)[b]? = some (.inr (ci, fs))) (hroom : R'.frames + 1 ≤ R.frames ∧ 8 + (M'.2.2.1 + 11) + R'.locals ≤ R.locals) (hcat : (rest.map fun v => v.category).sum ≤ 8) (hz : R'.cells = 0 ∧ R'.slots = 0) (hk : k ≤ R.cells ∧ ks ≤ R.slots) (hct : Ct M' R' (.ref b :: [v1, v2, v3, v4, v5, v6, v7]) (Wd g) (RXv P)) (h : ∀ (g1 : GS), P g1 → J M R (Q) n0 nx L (rest) (Wd g1) k ks) : J M R (Q) n0 pc L (v7 :: v6 :: v5 :: v4 :: v3 :: v2 :: v1 :: .ref b :: rest) (Wd g) k ks :=
  J_callV (b := b) (As := [v1, v2, v3, v4, v5, v6, v7]) d hn hml hlk hins hcl he rfl hroom hcat ⟨by rw [hz.1]; exact hk.1, by rw [hz.2]; exact hk.2⟩ hct (fun E es' hq => by obtain ⟨g1, h1, -⟩ := hq; cases h1) (fun v' es' hq => by
    obtain ⟨g1, h1, rfl, hp⟩ := hq
    cases h1
    rw [hz.1, hz.2]
    exact h _ hp)
