
/-! the Model: judges and fouls at rest -/
def rsG (W : Nat → Int32) (gl : List TxL) (rl : Nat → List TxL) (m : Int32) (k0 : Nat) (told b : Int32) (k s : Nat) : Int64 :=
  mLT W (mGc W m gl) (mT W) s - jw (mJP W gl rl m k0 (s / 4) told (nI k) b (mG W)) 0 s
def rsW (f : Nat → Int64) : Nat → Int64
  | 0 => -9223372036854775808
  | n + 1 => mxL (rsW f n) (f n)
def rsN (f : Nat → Nat → Int64) : Nat → Nat → Int64
  | 0, s => f 0 s
  | k + 1, s => mnL (rsN f k s) (f (k + 1) s)
def rsS (f : Nat → Int64) : Nat → Int32 × Int64
  | 0 => (-1, 0)
  | n + 1 => if (rsS f n).1 < 0 then (nI n, f n) else if lg_cmp (f n) (rsS f n).2 < 0 then (nI n, f n) else rsS f n
def rsH (f : Nat → Int64) : Nat → Nat
  | 0 => 0
  | n + 1 => if lg_cmp (f (n + 1)) (f (rsH f n)) ≤ 0 then rsH f n else n + 1
def rsV (what : Int32) (p : Int32 × Int64) (sh : Nat) (v : Int64) : Int64 :=
  if ¬ what = 0 then (if ¬ what = 1 then (if ¬ what = 2 then (if ¬ what = 3 then (if ¬ lg_cmp p.2 v = 0 then 0 else 1) else v) else (nI sh).toInt64) else p.2) else p.1.toInt64
theorem rsH_lt (f : Nat → Int64) : ∀ n, rsH f n ≤ n := by
  intro n
  induction n with
  | zero => exact Nat.le_refl _
  | succ n ih =>
    show (if lg_cmp (f (n + 1)) (f (rsH f n)) ≤ 0 then rsH f n else n + 1) ≤ n + 1
    split
    · omega
    · exact Nat.le_refl _
/-- the gains' row while judge k is asked: the first n states are told -/
def GI (f : Nat → Nat → Int64) (k n : Nat) (g : GS) : Prop := (∀ s, s < n → gB g 80 s = rsN f k s) ∧ (∀ s, n ≤ s → s < 32 → ∀ q, k = q + 1 → gB g 80 s = rsN f q s)
def a80 (c : Nat) : Bool := Nat.beq c 80
theorem aQ_80 (c : Nat) (h : aQ c = false) : a80 c = false := by
  cases e : a80 c with
  | false => rfl
  | true => unfold a80 at e; rw [Nat.beq_eq] at e; subst e; exact absurd h (by decide)
theorem AS.f80 {W : Nat → Int32} {gl : List TxL} {rl : Nat → List TxL} {m : Int32} {k z : Nat} {told jd b : Int32} {G : Nat} {g g2 : GS} (h : AS W gl rl m k z told jd b G g) (hf : Fr f0 a80 g g2) : AS W gl rl m k z told jd b G g2 :=
  ⟨h.1.fr (hf.2.1 64 rfl) (hf.1 63 20 rfl) (hf.1 63 21 rfl) (hf.2.2.1 72 rfl), ⟨(hf.1 63 22 rfl).trans h.2.1.1, (hf.1 63 23 rfl).trans h.2.1.2.1, (hf.1 63 24 rfl).trans h.2.1.2.2.1, (hf.1 63 25 rfl).trans h.2.1.2.2.2⟩, h.2.2.cg (hf.2.2.1 73 rfl) (hf.2.1 74 rfl)⟩
theorem GI.put {f : Nat → Nat → Int64} {k n : Nat} {g : GS} {v : Int64} (h : GI f k n g) (hv : v = rsN f k n) : GI f k (n + 1) (sB g 80 (vp_updL (gB g 80) n v)) := by
  refine ⟨fun s hs => ?_, fun s hs hs2 q hq => ?_⟩
  · show vp_updL (gB g 80) n v s = _
    by_cases e : s = n
    · rw [e, vpL_self]; exact hv
    · rw [vpL_ne e]; exact h.1 s (by omega)
  · show vp_updL (gB g 80) n v s = _
    rw [vpL_ne (by omega)]; exact h.2 s (by omega) hs2 q hq
theorem jdOK_n {W : Nat → Int32} {gl : List TxL} {rl : Nat → List TxL} {k : Nat} (hM : MOK W gl rl) (h : k < 5 + mR W) : jdOK W (nI k) := fun _ h5 => by
  have hR4 : mR W ≤ 4 := hM.2.2.1.1
  have h6 : 5 ≤ k := by
    rcases Nat.lt_or_ge k 5 with z | z
    · exact absurd (show nI k < nI 5 from nI_lt z (by omega)) h5
    · exact z
  exact ⟨k - 5, by omega, nIs h6 rfl (nIc 5)⟩
set_option maxRecDepth 100000 in
set_option maxHeartbeats 4000000 in
theorem lp_m_rs1 (Q : Res → List ME → Prop) (W : Nat → Int32) (gl : List TxL) (rl : Nat → List TxL) (m : Int32) (k0 : Nat) (told b what : Int32) (hT60 : mT W ≤ 60) (hT : W 5 = nI (mT W)) (q z : Nat) (hq : q < 9) (hz : z < 8) (sf : Int32) (its : Int64) (g0 : GS) (n0 : Nat) : ∀ (k : Nat) (i : Nat) (g : GS), i + k = 4 → Fr f0 a80 g0 g → AS W gl rl m k0 z told (nI q) b (mG W) g → GI (rsG W gl rl m k0 told b) q (4 * z + i) g → (∀ g, Fr f0 a80 g0 g → AS W gl rl m k0 z told (nI q) b (mG W) g → GI (rsG W gl rl m k0 told b) q (4 * z + 4) g → J mX12_rest (rm 6 0 0) Q n0 226 [some (.ref 63), some (.int b), some (.int (nI (k0))), some (.int what), some (.int (sf)), some (.long (its)), none, some (.int (nI (q))), some (.long (rsW ((rsG W gl rl m k0 told b) q) (4 * z + 4))), none, some (.int (nI (z))), some (.int (nI (4 * z + 4))), none, none] [] (Wd g) 0 0) → J mX12_rest (rm 6 0 0) (Q) n0 144 [some (.ref 63), some (.int b), some (.int (nI (k0))), some (.int what), some (.int (sf)), some (.long (its)), none, some (.int (nI (q))), some (.long (rsW ((rsG W gl rl m k0 told b) q) (4 * z + i))), none, some (.int (nI (z))), some (.int (nI (4 * z + i))), none, none] [] (Wd g) 0 0 := by
  intro k
  induction k with
  | zero =>
    intro i g hk hfr hA hI hK
    refine J_iload (nx := 146) dX12_rest_144 rfl rfl ?_
    refine J_iconst (nx := 147) (i := 4) (v := 4) (by decide) dX12_rest_146 rfl ?_
    refine J_iload (nx := 149) dX12_rest_147 rfl rfl ?_
    refine J_imul (nx := 150) dX12_rest_149 rfl ?_
    refine J_iconst (nx := 151) (i := 4) (v := 4) (by decide) dX12_rest_150 rfl ?_
    refine J_iadd (nx := 152) dX12_rest_151 rfl ?_
    rw [show (((4 : Int32) * nI (z)) + (4 : Int32)) = nI (((4 * z) + 4)) from (nIa (nIm (nIc 4) (Eq.refl (nI (z)))) (nIc 4))]
    refine J_icmp_ge (nx := 155) (tgt := 226) dX12_rest_152 rfl (by decide) (fun c_152 => ?_) (fun c_152 => ?_)
    · obtain rfl : i = 4 := by omega
      exact hK g hfr hA hI
    · exact absurd (show nI (4 * z + 4) ≤ nI (4 * z + i) from by rw [show i = 4 by omega]; exact le_self_nI) c_152
  | succ k ih =>
    intro i g hk hfr hA hI hK
    refine J_iload (nx := 146) dX12_rest_144 rfl rfl ?_
    refine J_iconst (nx := 147) (i := 4) (v := 4) (by decide) dX12_rest_146 rfl ?_
    refine J_iload (nx := 149) dX12_rest_147 rfl rfl ?_
    refine J_imul (nx := 150) dX12_rest_149 rfl ?_
    refine J_iconst (nx := 151) (i := 4) (v := 4) (by decide) dX12_rest_150 rfl ?_
    refine J_iadd (nx := 152) dX12_rest_151 rfl ?_
    rw [show (((4 : Int32) * nI (z)) + (4 : Int32)) = nI (((4 * z) + 4)) from (nIa (nIm (nIc 4) (Eq.refl (nI (z)))) (nIc 4))]
    refine J_icmp_ge (nx := 155) (tgt := 226) dX12_rest_152 rfl (by decide) (fun c_152 => ?_) (fun c_152 => ?_)
    · exact absurd c_152 (nI_le4 (by omega) hz)
    · have hi : i < 4 := by omega
      refine J_aload_n (nx := 156) dX12_rest_155 rfl rfl ?_
      refine Jg_63_19 (nx := 159) dX12_rest_156 rfl fl_X12_42 ?_
      refine J_bipush (nx := 161) (i := 32) (v := 32) (by decide) dX12_rest_159 rfl ?_
      refine J_aload_n (nx := 162) dX12_rest_161 rfl rfl ?_
      refine Jg_63_1 (nx := 165) dX12_rest_162 rfl fl_X12_13 ?_
      refine J_iconst (nx := 166) (i := 5) (v := 5) (by decide) dX12_rest_165 rfl ?_
      refine Ja_64 (nx := 167) dX12_rest_166 rfl (vpE (n := 5) (nIc 5) (by omega) (by decide)) ?_
      rw [clE (n := 5) (nIc 5) (by omega)]
      rw [show gA g 64 5 = nI (mT W) from (congrFun hA.1.1 5).trans hT]
      refine J_imul (nx := 168) dX12_rest_167 rfl ?_
      refine J_iload (nx := 170) dX12_rest_168 rfl rfl ?_
      refine J_iadd (nx := 171) dX12_rest_170 rfl ?_
      refine Ja_72 (nx := 172) dX12_rest_171 rfl (vpE (n := ((32 * (mT W)) + (4 * z + i))) (nIa (nIm (nIc 32) (Eq.refl (nI ((mT W))))) (Eq.refl (nI ((4 * z + i))))) (by omega) (by decide)) ?_
      rw [clE (n := ((32 * (mT W)) + (4 * z + i))) (nIa (nIm (nIc 32) (Eq.refl (nI ((mT W))))) (Eq.refl (nI ((4 * z + i))))) (by omega)]
      refine J_aload_n (nx := 173) dX12_rest_172 rfl rfl ?_
      refine Jg_63_26 (nx := 176) dX12_rest_173 rfl fl_X12_46 ?_
      refine J_iload (nx := 178) dX12_rest_176 rfl rfl ?_
      refine Ja_73 (nx := 179) dX12_rest_178 rfl (vpE (n := (4 * z + i)) (Eq.refl (nI ((4 * z + i)))) (by omega) (by decide)) ?_
      rw [clE (n := (4 * z + i)) (Eq.refl (nI ((4 * z + i)))) (by omega)]
      refine J_lsub (nx := 180) dX12_rest_179 rfl ?_
      refine J_lstore (nx := 182) dX12_rest_180 rfl rfl (Nat.le_of_ble_eq_true rfl) ?_
      refine J_lload (nx := 184) dX12_rest_182 rfl rfl ?_
      refine J_lload (nx := 186) dX12_rest_184 rfl rfl ?_
      refine JcS2 (R' := rm (0) 0 0) (nx := 189) dX12_rest_186 rfl ml_J9_max_f86c9 lk_X12_277 st_J9_max_f86c9 ⟨(Nat.le_of_ble_eq_true rfl), (Nat.le_of_ble_eq_true rfl)⟩ (Nat.le_of_ble_eq_true rfl) ⟨rfl, rfl⟩ (ct_maxL _ _ _) ?_
      refine J_lstore (nx := 191) dX12_rest_189 rfl rfl (Nat.le_of_ble_eq_true rfl) ?_
      refine J_aload_n (nx := 192) dX12_rest_191 rfl rfl ?_
      refine Jg_63_34 (nx := 195) dX12_rest_192 rfl fl_X12_67 ?_
      refine J_iload (nx := 197) dX12_rest_195 rfl rfl ?_
      refine J_iload (nx := 199) dX12_rest_197 rfl rfl ?_
      refine J_if_ne (nx := 202) (tgt := 207) dX12_rest_199 rfl (by decide) (fun c_199 => ?_) (fun c_199 => ?_)
      · refine J_aload_n (nx := 208) dX12_rest_207 rfl rfl ?_
        refine Jg_63_34 (nx := 211) dX12_rest_208 rfl fl_X12_67 ?_
        refine J_iload (nx := 213) dX12_rest_211 rfl rfl ?_
        refine Ja_80 (nx := 214) dX12_rest_213 rfl (vpE (n := (4 * z + i)) (Eq.refl (nI ((4 * z + i)))) (by omega) (by decide)) ?_
        rw [clE (n := (4 * z + i)) (Eq.refl (nI ((4 * z + i)))) (by omega)]
        refine J_lload (nx := 216) dX12_rest_214 rfl rfl ?_
        refine JcS2 (R' := rm (0) 0 0) (nx := 219) dX12_rest_216 rfl ml_J9_min_f86c9 lk_X12_273 st_J9_min_f86c9 ⟨(Nat.le_of_ble_eq_true rfl), (Nat.le_of_ble_eq_true rfl)⟩ (Nat.le_of_ble_eq_true rfl) ⟨rfl, rfl⟩ (ct_minL _ _ _) ?_
        refine Jt_80 (nx := 220) dX12_rest_219 rfl (vpE (n := (4 * z + i)) (Eq.refl (nI ((4 * z + i)))) (by omega) (by decide)) ?_
        rw [clE (n := (4 * z + i)) (Eq.refl (nI ((4 * z + i)))) (by omega)]
        refine J.gen (fun g_219 hg_219 => ?_)
        refine J_iinc (nx := 223) dX12_rest_220 rfl rfl rfl (Nat.le_of_ble_eq_true rfl) ?_
        refine J_goto (nx := 144) dX12_rest_223 (by decide) ?_
        refine J_kill (nx := 0) 12 ?_
        rw [show (nI ((4 * z + i)) + Int32.ofInt 1) = nI (4 * z + (i + 1)) from (show nI ((4 * z + i)) + Int32.ofInt 1 = nI ((4 * z + i) + 1) from nI_add ((4 * z + i)) 1)]
        have hgv : gB g 72 (32 * mT W + (4 * z + i)) - gB g 73 (4 * z + i) = rsG W gl rl m k0 told b q (4 * z + i) := by
          unfold rsG
          rw [show (4 * z + i) / 4 = z by omega, hA.w0 (s := 4 * z + i) (by omega), hA.1.2.2.2 (mT W) (4 * z + i) hT60 (by omega)]
        have hw : GI (rsG W gl rl m k0 told b) q (4 * z + (i + 1)) g_219 := by
          rw [hg_219]
          refine hI.put ?_
          rw [hgv]
          first
            | (have hq0 : q = 0 := nI_inj (by omega) (by omega) c_199
               rw [hq0]; rfl)
            | (have hq1 : q ≠ 0 := fun e => c_199 (by rw [e]; rfl)
               obtain ⟨q', rfl⟩ : ∃ q', q = q' + 1 := ⟨q - 1, by omega⟩
               rw [hI.2 (4 * z + i) (by omega) (by omega) q' rfl]; rfl)
        rw [hgv]
        exact ih (i + 1) g_219 (by omega) (by rw [hg_219]; exact hfr.sB rfl) (hA.f80 (by rw [hg_219]; exact Fr.rf.sB rfl)) hw hK
      · refine J_lload (nx := 204) dX12_rest_202 rfl rfl ?_
        refine J_goto (nx := 219) dX12_rest_204 (by decide) ?_
        refine Jt_80 (nx := 220) dX12_rest_219 rfl (vpE (n := (4 * z + i)) (Eq.refl (nI ((4 * z + i)))) (by omega) (by decide)) ?_
        rw [clE (n := (4 * z + i)) (Eq.refl (nI ((4 * z + i)))) (by omega)]
        refine J.gen (fun g_219 hg_219 => ?_)
        refine J_iinc (nx := 223) dX12_rest_220 rfl rfl rfl (Nat.le_of_ble_eq_true rfl) ?_
        refine J_goto (nx := 144) dX12_rest_223 (by decide) ?_
        refine J_kill (nx := 0) 12 ?_
        rw [show (nI ((4 * z + i)) + Int32.ofInt 1) = nI (4 * z + (i + 1)) from (show nI ((4 * z + i)) + Int32.ofInt 1 = nI ((4 * z + i) + 1) from nI_add ((4 * z + i)) 1)]
        have hgv : gB g 72 (32 * mT W + (4 * z + i)) - gB g 73 (4 * z + i) = rsG W gl rl m k0 told b q (4 * z + i) := by
          unfold rsG
          rw [show (4 * z + i) / 4 = z by omega, hA.w0 (s := 4 * z + i) (by omega), hA.1.2.2.2 (mT W) (4 * z + i) hT60 (by omega)]
        have hw : GI (rsG W gl rl m k0 told b) q (4 * z + (i + 1)) g_219 := by
          rw [hg_219]
          refine hI.put ?_
          rw [hgv]
          first
            | (have hq0 : q = 0 := nI_inj (by omega) (by omega) c_199
               rw [hq0]; rfl)
            | (have hq1 : q ≠ 0 := fun e => c_199 (by rw [e]; rfl)
               obtain ⟨q', rfl⟩ : ∃ q', q = q' + 1 := ⟨q - 1, by omega⟩
               rw [hI.2 (4 * z + i) (by omega) (by omega) q' rfl]; rfl)
        rw [hgv]
        exact ih (i + 1) g_219 (by omega) (by rw [hg_219]; exact hfr.sB rfl) (hA.f80 (by rw [hg_219]; exact Fr.rf.sB rfl)) hw hK

set_option maxRecDepth 100000 in
set_option maxHeartbeats 4000000 in
theorem lp_m_rs2 (Q : Res → List ME → Prop) (W : Nat → Int32) (gl : List TxL) (rl : Nat → List TxL) (m : Int32) (k0 : Nat) (told b what : Int32) (hM : MOK W gl rl) (hk0 : k0 < 6) (htold : W (1106 + 34 * k0 + 0) = told) (q : Nat) (hq : q < 5 + mR W) (sf : Int32) (its : Int64) (g0 : GS) (n0 : Nat) : ∀ (k : Nat) (z : Nat) (g : GS), z + k = 8 → Fr fA aQ g0 g → LSt W gl m g → GI (rsG W gl rl m k0 told b) q (4 * z) g → (∀ g, Fr fA aQ g0 g → LSt W gl m g → GI (rsG W gl rl m k0 told b) q 32 g → J mX12_rest (rm 6 0 0) Q n0 232 [some (.ref 63), some (.int b), some (.int (nI (k0))), some (.int what), some (.int (sf)), some (.long (its)), none, some (.int (nI (q))), some (.long (rsW ((rsG W gl rl m k0 told b) q) (32))), none, some (.int (nI (8))), none, none, none] [] (Wd g) 0 0) → J mX12_rest (rm 6 0 0) (Q) n0 106 [some (.ref 63), some (.int b), some (.int (nI (k0))), some (.int what), some (.int (sf)), some (.long (its)), none, some (.int (nI (q))), some (.long (rsW ((rsG W gl rl m k0 told b) q) (4 * z))), none, some (.int (nI (z))), none, none, none] [] (Wd g) 0 0 := by
  intro k
  induction k with
  | zero =>
    intro z g hk hfr hL hI hK
    refine J_iload (nx := 108) dX12_rest_106 rfl rfl ?_
    refine J_bipush (nx := 110) (i := 8) (v := 8) (by decide) dX12_rest_108 rfl ?_
    refine J_icmp_ge (nx := 113) (tgt := 232) dX12_rest_110 rfl (by decide) (fun c_110 => ?_) (fun c_110 => ?_)
    · obtain rfl : z = 8 := by omega
      exact hK g hfr hL hI
    · exact absurd (show nI 8 ≤ nI z from by rw [show z = 8 by omega]; exact le_self_nI) c_110
  | succ k ih =>
    intro z g hk hfr hL hI hK
    have hM2 := hM
    obtain ⟨⟨hG10, hG⟩, ⟨hT1, hT60, hT⟩, ⟨hR4, hR, hrl⟩, ⟨hN6, hN⟩, hgl, hgk⟩ := hM2
    refine J_iload (nx := 108) dX12_rest_106 rfl rfl ?_
    refine J_bipush (nx := 110) (i := 8) (v := 8) (by decide) dX12_rest_108 rfl ?_
    refine J_icmp_ge (nx := 113) (tgt := 232) dX12_rest_110 rfl (by decide) (fun c_110 => ?_) (fun c_110 => ?_)
    · exact absurd c_110 (nlt_nI (n := 8) (by omega) (by omega))
    · have hz : z < 8 := by omega
      refine J_aload_n (nx := 114) dX12_rest_113 rfl rfl ?_
      refine J_iload_n (nx := 115) dX12_rest_114 rfl rfl ?_
      refine J_iload (nx := 117) dX12_rest_115 rfl rfl ?_
      refine J_aload_n (nx := 118) dX12_rest_117 rfl rfl ?_
      refine J_iload_n (nx := 119) dX12_rest_118 rfl rfl ?_
      refine JcV1 (R' := rm (1) 0 0) (nx := 122) dX12_rest_119 rfl ml_X12_toldCard lk_X12_320 iv_X12_toldCard rfl rfl ⟨(Nat.le_of_ble_eq_true rfl), (Nat.le_of_ble_eq_true rfl)⟩ (Nat.le_of_ble_eq_true rfl) ⟨rfl, rfl⟩ (ct_m_toldCard _ (k0) (by omega)) ?_
      rw [show mSo g k0 0 = told from (congrFun hL.1 _).trans htold]
      refine JcV3 (R' := rm (3) 0 0) (nx := 125) dX12_rest_122 rfl ml_X12_fouls lk_X12_323 iv_X12_fouls rfl rfl ⟨(Nat.le_of_ble_eq_true rfl), (Nat.le_of_ble_eq_true rfl)⟩ (Nat.le_of_ble_eq_true rfl) ⟨rfl, rfl⟩ (ct_m_fouls g k0 z hk0 hz told) ?_
      refine J.gen (fun g_122 hg_122 => ?_)
      refine J_aload_n (nx := 126) dX12_rest_125 rfl rfl ?_
      refine J_iload (nx := 128) dX12_rest_126 rfl rfl ?_
      refine J_iload_n (nx := 129) dX12_rest_128 rfl rfl ?_
      refine J_aload_n (nx := 130) dX12_rest_129 rfl rfl ?_
      refine Jg_63_1 (nx := 133) dX12_rest_130 rfl fl_X12_13 ?_
      refine J_iconst (nx := 134) (i := 4) (v := 4) (by decide) dX12_rest_133 rfl ?_
      refine Ja_64 (nx := 135) dX12_rest_134 rfl (vpE (n := 4) (nIc 4) (by omega) (by decide)) ?_
      rw [clE (n := 4) (nIc 4) (by omega)]
      have hL2 : LSt W gl m g_122 := by rw [hg_122]; exact hL.Fo
      have hF2 : FSt W k0 z told g_122 := by rw [hg_122]; exact FSt.Fo hL.1
      rw [show gA g_122 64 4 = nI (mG W) from (congrFun hL2.1 4).trans hG]
      refine JvV3 (R' := rm (4) 0 0) (nx := 138) dX12_rest_135 rfl ml_X12_judges lk_X12_338 iv_X12_judges rfl rfl ⟨(Nat.le_of_ble_eq_true rfl), (Nat.le_of_ble_eq_true rfl)⟩ (Nat.le_of_ble_eq_true rfl) ⟨rfl, rfl⟩ (ct_m_judges g_122 (mJP W gl rl m k0 z told (nI q) b (mG W)) (mJP_ok hM hL2 hF2 (jdOK_n hM hq) hG10 hz)) (fun g_135 p_135 => ?_)
      refine J_iconst (nx := 139) (i := 4) (v := 4) (by decide) dX12_rest_138 rfl ?_
      refine J_iload (nx := 141) dX12_rest_139 rfl rfl ?_
      refine J_imul (nx := 142) dX12_rest_141 rfl ?_
      rw [show ((4 : Int32) * nI (z)) = nI ((4 * z)) from (nIm (nIc 4) (Eq.refl (nI (z))))]
      refine J_istore (nx := 144) dX12_rest_142 rfl rfl (Nat.le_of_ble_eq_true rfl) ?_
      have hA := AS.of hL2 hF2 p_135
      rw [show nI ((4 * z)) = nI (4 * z + 0) from (Eq.refl (nI ((4 * z))))]
      have hI2 : GI (rsG W gl rl m k0 told b) q (4 * z + 0) g_135 := by
        have e : gB g_135 80 = gB g 80 := (p_135.1.2.2.1 80 rfl).trans (by rw [hg_122]; rfl)
        exact ⟨fun s hs => by rw [e]; exact hI.1 s (by omega), fun s h1 h2 q' hq' => by rw [e]; exact hI.2 s (by omega) h2 q' hq'⟩
      refine lp_m_rs1 _ W gl rl m k0 told b what hT60 hT q z (by omega) hz sf its g_135 n0 4 0 g_135 rfl Fr.rf hA hI2 (fun g3 hf3 hA3 hI3 => ?_)
      refine J_iinc (nx := 229) dX12_rest_226 rfl rfl rfl (Nat.le_of_ble_eq_true rfl) ?_
      refine J_goto (nx := 106) dX12_rest_229 (by decide) ?_
      refine J_kill (nx := 0) 11 ?_
      rw [show (nI (z) + Int32.ofInt 1) = nI (z + 1) from (show nI (z) + Int32.ofInt 1 = nI (z + 1) from nI_add (z) 1)]
      exact ih (z + 1) g3 (by omega) (((show Fr fA aQ g0 g_122 by rw [hg_122]; exact Fr.mFo hfr).J p_135.1).tr (hf3.mono fA_0 aQ_80)) hA3.1 hI3 hK

set_option maxRecDepth 100000 in
set_option maxHeartbeats 4000000 in
theorem lp_m_rs3 (Q : Res → List ME → Prop) (W : Nat → Int32) (gl : List TxL) (rl : Nat → List TxL) (m : Int32) (k0 : Nat) (told b what : Int32) (hM : MOK W gl rl) (hk0 : k0 < 6) (htold : W (1106 + 34 * k0 + 0) = told) (g0 : GS) (n0 : Nat) : ∀ (k : Nat) (q : Nat) (g : GS), q + k = 5 + mR W → Fr fA aQ g0 g → LSt W gl m g → (∀ q', q = q' + 1 → ∀ s, s < 32 → gB g 80 s = rsN (rsG W gl rl m k0 told b) q' s) → (∀ g, Fr fA aQ g0 g → LSt W gl m g → (∀ q', 5 + mR W = q' + 1 → ∀ s, s < 32 → gB g 80 s = rsN (rsG W gl rl m k0 told b) q' s) → J mX12_rest (rm 6 0 0) Q n0 262 [some (.ref 63), some (.int b), some (.int (nI (k0))), some (.int what), some (.int ((rsS (fun q => rsW ((rsG W gl rl m k0 told b) q) 32) (5 + mR W)).1)), some (.long ((rsS (fun q => rsW ((rsG W gl rl m k0 told b) q) 32) (5 + mR W)).2)), none, some (.int (nI (5 + mR W))), none, none, none, none, none, none] [] (Wd g) 0 0) → J mX12_rest (rm 6 0 0) (Q) n0 85 [some (.ref 63), some (.int b), some (.int (nI (k0))), some (.int what), some (.int ((rsS (fun q => rsW ((rsG W gl rl m k0 told b) q) 32) (q)).1)), some (.long ((rsS (fun q => rsW ((rsG W gl rl m k0 told b) q) 32) (q)).2)), none, some (.int (nI (q))), none, none, none, none, none, none] [] (Wd g) 0 0 := by
  intro k
  induction k with
  | zero =>
    intro q g hk hfr hL hI hK
    have hM2 := hM
    obtain ⟨⟨hG10, hG⟩, ⟨hT1, hT60, hT⟩, ⟨hR4, hR, hrl⟩, ⟨hN6, hN⟩, hgl, hgk⟩ := hM2
    refine J_iload (nx := 87) dX12_rest_85 rfl rfl ?_
    refine J_iconst (nx := 88) (i := 5) (v := 5) (by decide) dX12_rest_87 rfl ?_
    refine J_aload_n (nx := 89) dX12_rest_88 rfl rfl ?_
    refine Jg_63_1 (nx := 92) dX12_rest_89 rfl fl_X12_13 ?_
    refine J_iconst (nx := 93) (i := 1) (v := 1) (by decide) dX12_rest_92 rfl ?_
    refine Ja_64 (nx := 94) dX12_rest_93 rfl (vpE (n := 1) (nIc 1) (by omega) (by decide)) ?_
    rw [clE (n := 1) (nIc 1) (by omega)]
    rw [show gA g 64 1 = nI (mR W) from (congrFun hL.1 1).trans hR]
    refine J_iadd (nx := 95) dX12_rest_94 rfl ?_
    rw [show ((5 : Int32) + nI ((mR W))) = nI ((5 + (mR W))) from (nIa (nIc 5) (Eq.refl (nI ((mR W)))))]
    refine J_icmp_ge (nx := 98) (tgt := 262) dX12_rest_95 rfl (by decide) (fun c_95 => ?_) (fun c_95 => ?_)
    · obtain rfl : q = 5 + mR W := by omega
      exact hK g hfr hL hI
    · exact absurd (show nI (5 + mR W) ≤ nI q from by rw [show q = 5 + mR W by omega]; exact le_self_nI) c_95
  | succ k ih =>
    intro q g hk hfr hL hI hK
    have hM2 := hM
    obtain ⟨⟨hG10, hG⟩, ⟨hT1, hT60, hT⟩, ⟨hR4, hR, hrl⟩, ⟨hN6, hN⟩, hgl, hgk⟩ := hM2
    refine J_iload (nx := 87) dX12_rest_85 rfl rfl ?_
    refine J_iconst (nx := 88) (i := 5) (v := 5) (by decide) dX12_rest_87 rfl ?_
    refine J_aload_n (nx := 89) dX12_rest_88 rfl rfl ?_
    refine Jg_63_1 (nx := 92) dX12_rest_89 rfl fl_X12_13 ?_
    refine J_iconst (nx := 93) (i := 1) (v := 1) (by decide) dX12_rest_92 rfl ?_
    refine Ja_64 (nx := 94) dX12_rest_93 rfl (vpE (n := 1) (nIc 1) (by omega) (by decide)) ?_
    rw [clE (n := 1) (nIc 1) (by omega)]
    rw [show gA g 64 1 = nI (mR W) from (congrFun hL.1 1).trans hR]
    refine J_iadd (nx := 95) dX12_rest_94 rfl ?_
    rw [show ((5 : Int32) + nI ((mR W))) = nI ((5 + (mR W))) from (nIa (nIc 5) (Eq.refl (nI ((mR W)))))]
    refine J_icmp_ge (nx := 98) (tgt := 262) dX12_rest_95 rfl (by decide) (fun c_95 => ?_) (fun c_95 => ?_)
    · exact absurd c_95 (nlt_nI (n := 5 + mR W) (by omega) (by omega))
    · refine J_ldc2 (nx := 101) cn_X12_400 dX12_rest_98 rfl ?_
      refine J_lstore (nx := 103) dX12_rest_101 rfl rfl (Nat.le_of_ble_eq_true rfl) ?_
      refine J_iconst (nx := 104) (i := 0) (v := 0) (by decide) dX12_rest_103 rfl ?_
      refine J_istore (nx := 106) dX12_rest_104 rfl rfl (Nat.le_of_ble_eq_true rfl) ?_
      refine lp_m_rs2 _ W gl rl m k0 told b what hM hk0 htold q (by omega) _ _ g0 n0 8 0 g rfl hfr hL ?_ (fun g hfr hL hI => ?_)
      · exact ⟨fun s h => absurd h (by omega), fun s _ h2 q' hq' => hI q' hq' s h2⟩
      refine J_iload (nx := 234) dX12_rest_232 rfl rfl ?_
      refine J_if_lt (nx := 237) (tgt := 248) dX12_rest_234 rfl (by decide) (fun c_234 => ?_) (fun c_234 => ?_)
      · refine J_iload (nx := 250) dX12_rest_248 rfl rfl ?_
        refine J_istore (nx := 252) dX12_rest_250 rfl rfl (Nat.le_of_ble_eq_true rfl) ?_
        refine J_lload (nx := 254) dX12_rest_252 rfl rfl ?_
        refine J_lstore (nx := 256) dX12_rest_254 rfl rfl (Nat.le_of_ble_eq_true rfl) ?_
        refine J_iinc (nx := 259) dX12_rest_256 rfl rfl rfl (Nat.le_of_ble_eq_true rfl) ?_
        refine J_goto (nx := 85) dX12_rest_259 (by decide) ?_
        have hI2 : ∀ q', q + 1 = q' + 1 → ∀ s, s < 32 → gB g 80 s = rsN (rsG W gl rl m k0 told b) q' s := fun q' hq' s hs => by
          obtain rfl : q = q' := by omega
          exact hI.1 s hs
        refine J_kill (nx := 0) 8 ?_
        refine J_kill (nx := 0) 10 ?_
        rw [show (nI (q) + Int32.ofInt 1) = nI (q + 1) from (show nI (q) + Int32.ofInt 1 = nI (q + 1) from nI_add (q) 1)]
        have hs : rsS (fun q => rsW ((rsG W gl rl m k0 told b) q) 32) (q + 1) = (nI q, rsW ((rsG W gl rl m k0 told b) q) 32) := by
          show (if (rsS (fun q => rsW ((rsG W gl rl m k0 told b) q) 32) q).1 < 0 then (nI q, rsW ((rsG W gl rl m k0 told b) q) 32) else if lg_cmp (rsW ((rsG W gl rl m k0 told b) q) 32) (rsS (fun q => rsW ((rsG W gl rl m k0 told b) q) 32) q).2 < 0 then (nI q, rsW ((rsG W gl rl m k0 told b) q) 32) else rsS (fun q => rsW ((rsG W gl rl m k0 told b) q) 32) q) = _
          first
            | rw [if_pos c_234]
            | rw [if_neg c_234, if_pos c_242]
        have hs1 : (rsS (fun q => rsW ((rsG W gl rl m k0 told b) q) 32) (q + 1)).1 = nI q := by rw [hs]
        have hs2 : (rsS (fun q => rsW ((rsG W gl rl m k0 told b) q) 32) (q + 1)).2 = rsW ((rsG W gl rl m k0 told b) q) 32 := by rw [hs]
        have h := ih (q + 1) g (by omega) hfr hL hI2 hK
        rw [hs1, hs2] at h
        exact h
      · refine J_lload (nx := 239) dX12_rest_237 rfl rfl ?_
        refine J_lload (nx := 241) dX12_rest_239 rfl rfl ?_
        refine J_lcmp (nx := 242) dX12_rest_241 rfl ?_
        refine J_if_lt (nx := 245) (tgt := 248) dX12_rest_242 rfl (by decide) (fun c_242 => ?_) (fun c_242 => ?_)
        · refine J_iload (nx := 250) dX12_rest_248 rfl rfl ?_
          refine J_istore (nx := 252) dX12_rest_250 rfl rfl (Nat.le_of_ble_eq_true rfl) ?_
          refine J_lload (nx := 254) dX12_rest_252 rfl rfl ?_
          refine J_lstore (nx := 256) dX12_rest_254 rfl rfl (Nat.le_of_ble_eq_true rfl) ?_
          refine J_iinc (nx := 259) dX12_rest_256 rfl rfl rfl (Nat.le_of_ble_eq_true rfl) ?_
          refine J_goto (nx := 85) dX12_rest_259 (by decide) ?_
          have hI2 : ∀ q', q + 1 = q' + 1 → ∀ s, s < 32 → gB g 80 s = rsN (rsG W gl rl m k0 told b) q' s := fun q' hq' s hs => by
            obtain rfl : q = q' := by omega
            exact hI.1 s hs
          refine J_kill (nx := 0) 8 ?_
          refine J_kill (nx := 0) 10 ?_
          rw [show (nI (q) + Int32.ofInt 1) = nI (q + 1) from (show nI (q) + Int32.ofInt 1 = nI (q + 1) from nI_add (q) 1)]
          have hs : rsS (fun q => rsW ((rsG W gl rl m k0 told b) q) 32) (q + 1) = (nI q, rsW ((rsG W gl rl m k0 told b) q) 32) := by
            show (if (rsS (fun q => rsW ((rsG W gl rl m k0 told b) q) 32) q).1 < 0 then (nI q, rsW ((rsG W gl rl m k0 told b) q) 32) else if lg_cmp (rsW ((rsG W gl rl m k0 told b) q) 32) (rsS (fun q => rsW ((rsG W gl rl m k0 told b) q) 32) q).2 < 0 then (nI q, rsW ((rsG W gl rl m k0 told b) q) 32) else rsS (fun q => rsW ((rsG W gl rl m k0 told b) q) 32) q) = _
            first
              | rw [if_pos c_234]
              | rw [if_neg c_234, if_pos c_242]
          have hs1 : (rsS (fun q => rsW ((rsG W gl rl m k0 told b) q) 32) (q + 1)).1 = nI q := by rw [hs]
          have hs2 : (rsS (fun q => rsW ((rsG W gl rl m k0 told b) q) 32) (q + 1)).2 = rsW ((rsG W gl rl m k0 told b) q) 32 := by rw [hs]
          have h := ih (q + 1) g (by omega) hfr hL hI2 hK
          rw [hs1, hs2] at h
          exact h
        · refine J_goto (nx := 256) dX12_rest_245 (by decide) ?_
          refine J_iinc (nx := 259) dX12_rest_256 rfl rfl rfl (Nat.le_of_ble_eq_true rfl) ?_
          refine J_goto (nx := 85) dX12_rest_259 (by decide) ?_
          have hI2 : ∀ q', q + 1 = q' + 1 → ∀ s, s < 32 → gB g 80 s = rsN (rsG W gl rl m k0 told b) q' s := fun q' hq' s hs => by
            obtain rfl : q = q' := by omega
            exact hI.1 s hs
          refine J_kill (nx := 0) 8 ?_
          refine J_kill (nx := 0) 10 ?_
          rw [show (nI (q) + Int32.ofInt 1) = nI (q + 1) from (show nI (q) + Int32.ofInt 1 = nI (q + 1) from nI_add (q) 1)]
          have hs : rsS (fun q => rsW ((rsG W gl rl m k0 told b) q) 32) (q + 1) = rsS (fun q => rsW ((rsG W gl rl m k0 told b) q) 32) q := by
            show (if (rsS (fun q => rsW ((rsG W gl rl m k0 told b) q) 32) q).1 < 0 then (nI q, rsW ((rsG W gl rl m k0 told b) q) 32) else if lg_cmp (rsW ((rsG W gl rl m k0 told b) q) 32) (rsS (fun q => rsW ((rsG W gl rl m k0 told b) q) 32) q).2 < 0 then (nI q, rsW ((rsG W gl rl m k0 told b) q) 32) else rsS (fun q => rsW ((rsG W gl rl m k0 told b) q) 32) q) = _
            rw [if_neg c_234, if_neg c_242]
          have h := ih (q + 1) g (by omega) hfr hL hI2 hK
          rw [hs] at h
          exact h

set_option maxRecDepth 100000 in
set_option maxHeartbeats 4000000 in
theorem lp_m_rs4 (g : GS) (x1 x2 what sf : Int32) (its : Int64) (n0 : Nat) : ∀ (k : Nat) (i : Nat), i + k = 31 → J mX12_rest (rm 6 0 0) (RXl (fun x g2 => x = rsV what (sf, its) (rsH (gB g 80) 31) (gB g 80 (rsH (gB g 80) 31)) ∧ g2 = g)) n0 268 [some (.ref 63), some (.int x1), some (.int x2), some (.int what), some (.int sf), some (.long (its)), none, some (.int (nI (rsH (gB g 80) i))), some (.int (nI (i + 1))), none, none, none, none, none] [] (Wd g) 0 0 := by
  intro k
  induction k with
  | zero =>
    intro i hk
    have hsh := rsH_lt (gB g 80) i
    refine J_iload (nx := 270) dX12_rest_268 rfl rfl ?_
    refine J_bipush (nx := 272) (i := 32) (v := 32) (by decide) dX12_rest_270 rfl ?_
    refine J_icmp_ge (nx := 275) (tgt := 308) dX12_rest_272 rfl (by decide) (fun c_272 => ?_) (fun c_272 => ?_)
    · refine J_iload_n (nx := 309) dX12_rest_308 rfl rfl ?_
      refine J_if_ne (nx := 312) (tgt := 318) dX12_rest_309 rfl (by decide) (fun c_309 => ?_) (fun c_309 => ?_)
      · refine J_iload_n (nx := 319) dX12_rest_318 rfl rfl ?_
        refine J_iconst (nx := 320) (i := 1) (v := 1) (by decide) dX12_rest_319 rfl ?_
        refine J_icmp_ne (nx := 323) (tgt := 328) dX12_rest_320 rfl (by decide) (fun c_320 => ?_) (fun c_320 => ?_)
        · refine J_iload_n (nx := 329) dX12_rest_328 rfl rfl ?_
          refine J_iconst (nx := 330) (i := 2) (v := 2) (by decide) dX12_rest_329 rfl ?_
          refine J_icmp_ne (nx := 333) (tgt := 339) dX12_rest_330 rfl (by decide) (fun c_330 => ?_) (fun c_330 => ?_)
          · refine J_iload_n (nx := 340) dX12_rest_339 rfl rfl ?_
            refine J_iconst (nx := 341) (i := 3) (v := 3) (by decide) dX12_rest_340 rfl ?_
            refine J_icmp_ne (nx := 344) (tgt := 354) dX12_rest_341 rfl (by decide) (fun c_341 => ?_) (fun c_341 => ?_)
            · refine J_lload (nx := 356) dX12_rest_354 rfl rfl ?_
              refine J_aload_n (nx := 357) dX12_rest_356 rfl rfl ?_
              refine Jg_63_34 (nx := 360) dX12_rest_357 rfl fl_X12_67 ?_
              refine J_iload (nx := 362) dX12_rest_360 rfl rfl ?_
              refine Ja_80 (nx := 363) dX12_rest_362 rfl (vpE (n := (rsH (gB g 80) i)) (Eq.refl (nI ((rsH (gB g 80) i)))) (by omega) (by decide)) ?_
              rw [clE (n := (rsH (gB g 80) i)) (Eq.refl (nI ((rsH (gB g 80) i)))) (by omega)]
              refine J_lcmp (nx := 364) dX12_rest_363 rfl ?_
              refine J_if_ne (nx := 367) (tgt := 371) dX12_rest_364 rfl (by decide) (fun c_364 => ?_) (fun c_364 => ?_)
              · refine J_lconst (nx := 372) (i := 0) (v := 0) (by decide) dX12_rest_371 rfl ?_
                exact Jrl dX12_rest_372 rfl (Nat.zero_le _) (Nat.zero_le _) (RXl.of ⟨by obtain rfl : i = 31 := (by omega); unfold rsV; (try (first | rw [if_pos (show ¬ what = 0 from c_309)] | rw [if_neg (show ¬ ¬ what = 0 from fun z => z c_309)])); (try (first | rw [if_pos (show ¬ what = 1 from c_320)] | rw [if_neg (show ¬ ¬ what = 1 from fun z => z c_320)])); (try (first | rw [if_pos (show ¬ what = 2 from c_330)] | rw [if_neg (show ¬ ¬ what = 2 from fun z => z c_330)])); (try (first | rw [if_pos (show ¬ what = 3 from c_341)] | rw [if_neg (show ¬ ¬ what = 3 from fun z => z c_341)])); (try (first | rw [if_pos c_364] | rw [if_neg (fun z => z c_364)])), rfl⟩)
              · refine J_lconst (nx := 368) (i := 1) (v := 1) (by decide) dX12_rest_367 rfl ?_
                refine J_goto (nx := 372) dX12_rest_368 (by decide) ?_
                exact Jrl dX12_rest_372 rfl (Nat.zero_le _) (Nat.zero_le _) (RXl.of ⟨by obtain rfl : i = 31 := (by omega); unfold rsV; (try (first | rw [if_pos (show ¬ what = 0 from c_309)] | rw [if_neg (show ¬ ¬ what = 0 from fun z => z c_309)])); (try (first | rw [if_pos (show ¬ what = 1 from c_320)] | rw [if_neg (show ¬ ¬ what = 1 from fun z => z c_320)])); (try (first | rw [if_pos (show ¬ what = 2 from c_330)] | rw [if_neg (show ¬ ¬ what = 2 from fun z => z c_330)])); (try (first | rw [if_pos (show ¬ what = 3 from c_341)] | rw [if_neg (show ¬ ¬ what = 3 from fun z => z c_341)])); (try (first | rw [if_pos c_364] | rw [if_neg (fun z => z c_364)])), rfl⟩)
            · refine J_aload_n (nx := 345) dX12_rest_344 rfl rfl ?_
              refine Jg_63_34 (nx := 348) dX12_rest_345 rfl fl_X12_67 ?_
              refine J_iload (nx := 350) dX12_rest_348 rfl rfl ?_
              refine Ja_80 (nx := 351) dX12_rest_350 rfl (vpE (n := (rsH (gB g 80) i)) (Eq.refl (nI ((rsH (gB g 80) i)))) (by omega) (by decide)) ?_
              rw [clE (n := (rsH (gB g 80) i)) (Eq.refl (nI ((rsH (gB g 80) i)))) (by omega)]
              refine J_goto (nx := 372) dX12_rest_351 (by decide) ?_
              exact Jrl dX12_rest_372 rfl (Nat.zero_le _) (Nat.zero_le _) (RXl.of ⟨by obtain rfl : i = 31 := (by omega); unfold rsV; (try (first | rw [if_pos (show ¬ what = 0 from c_309)] | rw [if_neg (show ¬ ¬ what = 0 from fun z => z c_309)])); (try (first | rw [if_pos (show ¬ what = 1 from c_320)] | rw [if_neg (show ¬ ¬ what = 1 from fun z => z c_320)])); (try (first | rw [if_pos (show ¬ what = 2 from c_330)] | rw [if_neg (show ¬ ¬ what = 2 from fun z => z c_330)])); (try (first | rw [if_pos (show ¬ what = 3 from c_341)] | rw [if_neg (show ¬ ¬ what = 3 from fun z => z c_341)])); (try (first | rw [if_pos c_364] | rw [if_neg (fun z => z c_364)])), rfl⟩)
          · refine J_iload (nx := 335) dX12_rest_333 rfl rfl ?_
            refine J_i2l (nx := 336) dX12_rest_335 rfl ?_
            refine J_goto (nx := 372) dX12_rest_336 (by decide) ?_
            exact Jrl dX12_rest_372 rfl (Nat.zero_le _) (Nat.zero_le _) (RXl.of ⟨by obtain rfl : i = 31 := (by omega); unfold rsV; (try (first | rw [if_pos (show ¬ what = 0 from c_309)] | rw [if_neg (show ¬ ¬ what = 0 from fun z => z c_309)])); (try (first | rw [if_pos (show ¬ what = 1 from c_320)] | rw [if_neg (show ¬ ¬ what = 1 from fun z => z c_320)])); (try (first | rw [if_pos (show ¬ what = 2 from c_330)] | rw [if_neg (show ¬ ¬ what = 2 from fun z => z c_330)])); (try (first | rw [if_pos (show ¬ what = 3 from c_341)] | rw [if_neg (show ¬ ¬ what = 3 from fun z => z c_341)])); (try (first | rw [if_pos c_364] | rw [if_neg (fun z => z c_364)])), rfl⟩)
        · refine J_lload (nx := 325) dX12_rest_323 rfl rfl ?_
          refine J_goto (nx := 372) dX12_rest_325 (by decide) ?_
          exact Jrl dX12_rest_372 rfl (Nat.zero_le _) (Nat.zero_le _) (RXl.of ⟨by obtain rfl : i = 31 := (by omega); unfold rsV; (try (first | rw [if_pos (show ¬ what = 0 from c_309)] | rw [if_neg (show ¬ ¬ what = 0 from fun z => z c_309)])); (try (first | rw [if_pos (show ¬ what = 1 from c_320)] | rw [if_neg (show ¬ ¬ what = 1 from fun z => z c_320)])); (try (first | rw [if_pos (show ¬ what = 2 from c_330)] | rw [if_neg (show ¬ ¬ what = 2 from fun z => z c_330)])); (try (first | rw [if_pos (show ¬ what = 3 from c_341)] | rw [if_neg (show ¬ ¬ what = 3 from fun z => z c_341)])); (try (first | rw [if_pos c_364] | rw [if_neg (fun z => z c_364)])), rfl⟩)
      · refine J_iload (nx := 314) dX12_rest_312 rfl rfl ?_
        refine J_i2l (nx := 315) dX12_rest_314 rfl ?_
        refine J_goto (nx := 372) dX12_rest_315 (by decide) ?_
        exact Jrl dX12_rest_372 rfl (Nat.zero_le _) (Nat.zero_le _) (RXl.of ⟨by obtain rfl : i = 31 := (by omega); unfold rsV; (try (first | rw [if_pos (show ¬ what = 0 from c_309)] | rw [if_neg (show ¬ ¬ what = 0 from fun z => z c_309)])); (try (first | rw [if_pos (show ¬ what = 1 from c_320)] | rw [if_neg (show ¬ ¬ what = 1 from fun z => z c_320)])); (try (first | rw [if_pos (show ¬ what = 2 from c_330)] | rw [if_neg (show ¬ ¬ what = 2 from fun z => z c_330)])); (try (first | rw [if_pos (show ¬ what = 3 from c_341)] | rw [if_neg (show ¬ ¬ what = 3 from fun z => z c_341)])); (try (first | rw [if_pos c_364] | rw [if_neg (fun z => z c_364)])), rfl⟩)
    · exact absurd (show nI 32 ≤ nI (i + 1) from by rw [show i + 1 = 32 by omega]; exact le_self_nI) c_272
  | succ k ih =>
    intro i hk
    have hsh := rsH_lt (gB g 80) i
    refine J_iload (nx := 270) dX12_rest_268 rfl rfl ?_
    refine J_bipush (nx := 272) (i := 32) (v := 32) (by decide) dX12_rest_270 rfl ?_
    refine J_icmp_ge (nx := 275) (tgt := 308) dX12_rest_272 rfl (by decide) (fun c_272 => ?_) (fun c_272 => ?_)
    · exact absurd c_272 (nlt_nI (n := 32) (by omega) (by omega))
    · refine J_aload_n (nx := 276) dX12_rest_275 rfl rfl ?_
      refine Jg_63_34 (nx := 279) dX12_rest_276 rfl fl_X12_67 ?_
      refine J_iload (nx := 281) dX12_rest_279 rfl rfl ?_
      refine Ja_80 (nx := 282) dX12_rest_281 rfl (vpE (n := (i + 1)) (Eq.refl (nI ((i + 1)))) (by omega) (by decide)) ?_
      rw [clE (n := (i + 1)) (Eq.refl (nI ((i + 1)))) (by omega)]
      refine J_aload_n (nx := 283) dX12_rest_282 rfl rfl ?_
      refine Jg_63_34 (nx := 286) dX12_rest_283 rfl fl_X12_67 ?_
      refine J_iload (nx := 288) dX12_rest_286 rfl rfl ?_
      refine Ja_80 (nx := 289) dX12_rest_288 rfl (vpE (n := (rsH (gB g 80) i)) (Eq.refl (nI ((rsH (gB g 80) i)))) (by omega) (by decide)) ?_
      rw [clE (n := (rsH (gB g 80) i)) (Eq.refl (nI ((rsH (gB g 80) i)))) (by omega)]
      refine J_lcmp (nx := 290) dX12_rest_289 rfl ?_
      refine J_if_le (nx := 293) (tgt := 298) dX12_rest_290 rfl (by decide) (fun c_290 => ?_) (fun c_290 => ?_)
      · refine J_iload (nx := 300) dX12_rest_298 rfl rfl ?_
        refine J_istore (nx := 302) dX12_rest_300 rfl rfl (Nat.le_of_ble_eq_true rfl) ?_
        refine J_iinc (nx := 305) dX12_rest_302 rfl rfl rfl (Nat.le_of_ble_eq_true rfl) ?_
        refine J_goto (nx := 268) dX12_rest_305 (by decide) ?_
        have hsh := rsH_lt (gB g 80) i
        rw [show (nI ((i + 1)) + Int32.ofInt 1) = nI (i + 1 + 1) from (show nI ((i + 1)) + Int32.ofInt 1 = nI ((i + 1) + 1) from nI_add ((i + 1)) 1)]
        have hs : rsH (gB g 80) (i + 1) = (rsH (gB g 80) i) := by
          show (if lg_cmp (gB g 80 (i + 1)) (gB g 80 (rsH (gB g 80) i)) ≤ 0 then rsH (gB g 80) i else i + 1) = _
          first | rw [if_pos c_290] | rw [if_neg c_290]
        refine J.lv (fun v => [some (.ref 63), some (.int x1), some (.int x2), some (.int what), some (.int sf), some (.long (its)), none, some (.int (nI (v))), some (.int (nI (i + 1 + 1))), none, none, none, none, none]) (y := rsH (gB g 80) (i + 1)) hs.symm (ih (i + 1) (by omega))
      · refine J_iload (nx := 295) dX12_rest_293 rfl rfl ?_
        refine J_goto (nx := 300) dX12_rest_295 (by decide) ?_
        refine J_istore (nx := 302) dX12_rest_300 rfl rfl (Nat.le_of_ble_eq_true rfl) ?_
        refine J_iinc (nx := 305) dX12_rest_302 rfl rfl rfl (Nat.le_of_ble_eq_true rfl) ?_
        refine J_goto (nx := 268) dX12_rest_305 (by decide) ?_
        have hsh := rsH_lt (gB g 80) i
        rw [show (nI ((i + 1)) + Int32.ofInt 1) = nI (i + 1 + 1) from (show nI ((i + 1)) + Int32.ofInt 1 = nI ((i + 1) + 1) from nI_add ((i + 1)) 1)]
        have hs : rsH (gB g 80) (i + 1) = (i + 1) := by
          show (if lg_cmp (gB g 80 (i + 1)) (gB g 80 (rsH (gB g 80) i)) ≤ 0 then rsH (gB g 80) i else i + 1) = _
          first | rw [if_pos c_290] | rw [if_neg c_290]
        refine J.lv (fun v => [some (.ref 63), some (.int x1), some (.int x2), some (.int what), some (.int sf), some (.long (its)), none, some (.int (nI (v))), some (.int (nI (i + 1 + 1))), none, none, none, none, none]) (y := rsH (gB g 80) (i + 1)) hs.symm (ih (i + 1) (by omega))

theorem rsH_congr {f f' : Nat → Int64} : ∀ n, (∀ i, i ≤ n → f i = f' i) → rsH f n = rsH f' n := by
  intro n
  induction n with
  | zero => intro _; rfl
  | succ n ih =>
    intro h
    have e := ih (fun i hi => h i (by omega))
    have hl := rsH_lt f' n
    show (if lg_cmp (f (n + 1)) (f (rsH f n)) ≤ 0 then rsH f n else n + 1) = (if lg_cmp (f' (n + 1)) (f' (rsH f' n)) ≤ 0 then rsH f' n else n + 1)
    rw [e, h (n + 1) (Nat.le_refl _), h (rsH f' n) (by omega)]
set_option maxRecDepth 100000 in
set_option maxHeartbeats 4000000 in
theorem ct_m_rest (g : GS) (gl : List TxL) (rl : Nat → List TxL) (hM : MOK (gA g 64) gl rl) (b : Int32) (k : Int32) (what : Int32) : Ct mX12_rest (rm 6 0 0) [.ref 63, .int b, .int k, .int what] (Wd g) (PQl g [(wMs (gA g 64) k, 1), (fIn b 0 31, 2), (fIn what 0 4, 3)] (fun x g2 => x = rsV what (rsS (fun q => rsW ((rsG (gA g 64) gl rl (gA g 64 6) (nN k) (wTo (gA g 64) (nN k)) b) q) 32) (5 + mR (gA g 64))) (rsH (rsN (rsG (gA g 64) gl rl (gA g 64 6) (nN k) (wTo (gA g 64) (nN k)) b) (4 + mR (gA g 64))) 31) (rsN (rsG (gA g 64) gl rl (gA g 64 6) (nN k) (wTo (gA g 64) (nN k)) b) (4 + mR (gA g 64)) (rsH (rsN (rsG (gA g 64) gl rl (gA g 64 6) (nN k) (wTo (gA g 64) (nN k)) b) (4 + mR (gA g 64))) 31)) ∧ QF g g2)) := by
  have hM2 := hM
  obtain ⟨⟨hG10, hG⟩, ⟨hT1, hT60, hT⟩, ⟨hR4, hR, hrl⟩, ⟨hN6, hN⟩, hgl, hgk⟩ := hM2
  refine Ct.of (by decide +kernel) (Nat.le_of_ble_eq_true rfl) ?_
  show J _ _ _ _ 0 [some (.ref 63), some (.int b), some (.int k), some (.int what), none, none, none, none, none, none, none, none, none, none] [] _ 0 0
  refine J_aload_n (nx := 1) dX12_rest_0 rfl rfl ?_
  refine J_iconst (nx := 2) (i := 0) (v := 0) (by decide) dX12_rest_1 rfl ?_
  refine Jp_63_0 (nx := 5) dX12_rest_2 rfl fl_X12_3 ?_
  refine J_aload_n (nx := 6) dX12_rest_5 rfl rfl ?_
  refine J_aload_n (nx := 7) dX12_rest_6 rfl rfl ?_
  refine J_iload_n (nx := 8) dX12_rest_7 rfl rfl ?_
  refine JcV1 (R' := rm (1) 0 0) (nx := 11) dX12_rest_8 rfl ml_X12_noSort lk_X12_317 iv_X12_noSort rfl rfl ⟨(Nat.le_of_ble_eq_true rfl), (Nat.le_of_ble_eq_true rfl)⟩ (Nat.le_of_ble_eq_true rfl) ⟨rfl, rfl⟩ (ct_m_noSortW (sF g 63 0 0) (gA g 64) rfl _) ?_
  refine J_iconst (nx := 12) (i := 1) (v := 1) (by decide) dX12_rest_11 rfl ?_
  refine J_thr (nx := 15) dX12_rest_12 rfl lk_X12_237 ⟨(Nat.le_of_ble_eq_true rfl), (Nat.le_of_ble_eq_true rfl)⟩ (Nat.le_of_ble_eq_true rfl) (fun b_12 => ?_) (fun b_12 => ?_)
  · refine J_if_ne (nx := 18) (tgt := 63) dX12_rest_15 rfl (by decide) (fun c_15 => ?_) (fun c_15 => ?_)
    · refine J_lconst (nx := 64) (i := 0) (v := 0) (by decide) dX12_rest_63 rfl ?_
      exact Jrl dX12_rest_64 rfl (Nat.zero_le _) (Nat.zero_le _) (RXl.of (Or.inl ⟨_, (by simp only [bI_is0, bI_is1, Bool.not_eq_true', Bool.not_eq_false'] at b_12; simp only [mxC, b_12, decide_true, decide_false, Bool.not_true, Bool.not_false, Bool.true_or, Bool.false_or, Bool.and_true, Bool.true_and, Bool.false_and, Bool.and_false, cond_true, cond_false]), rfl, rfl⟩))
    · exact absurd c_15 (by decide)
  · refine J_if_ne (nx := 18) (tgt := 63) dX12_rest_15 rfl (by decide) (fun c_15 => ?_) (fun c_15 => ?_)
    · exact absurd c_15 (by decide)
    · refine J_aload_n (nx := 19) dX12_rest_18 rfl rfl ?_
      refine J_iload_n (nx := 20) dX12_rest_19 rfl rfl ?_
      refine J_iconst (nx := 21) (i := 0) (v := 0) (by decide) dX12_rest_20 rfl ?_
      refine J_bipush (nx := 23) (i := 31) (v := 31) (by decide) dX12_rest_21 rfl ?_
      refine JcS3 (R' := rm (0) 0 0) (nx := 26) dX12_rest_23 rfl ml_X12_in lk_X12_77 st_X12_in ⟨(Nat.le_of_ble_eq_true rfl), (Nat.le_of_ble_eq_true rfl)⟩ (Nat.le_of_ble_eq_true rfl) ⟨rfl, rfl⟩ (ct_m_in _ _ _ _) ?_
      refine J_if_ne (nx := 29) (tgt := 33) dX12_rest_26 rfl (by decide) (fun c_26 => ?_) (fun c_26 => ?_)
      · refine J_iconst (nx := 34) (i := 0) (v := 0) (by decide) dX12_rest_33 rfl ?_
        refine J_iconst (nx := 35) (i := 2) (v := 2) (by decide) dX12_rest_34 rfl ?_
        refine J_thr (b := false) (nx := 38) dX12_rest_35 rfl lk_X12_237 ⟨(Nat.le_of_ble_eq_true rfl), (Nat.le_of_ble_eq_true rfl)⟩ (Nat.le_of_ble_eq_true rfl) (fun b_35 => ?_) (fun b_35 => ?_)
        · exact absurd b_35 (by decide)
        · refine J_if_ne (nx := 41) (tgt := 63) dX12_rest_38 rfl (by decide) (fun c_38 => ?_) (fun c_38 => ?_)
          · exact absurd c_38 (by decide)
          · refine J_aload_n (nx := 42) dX12_rest_41 rfl rfl ?_
            refine J_iload_n (nx := 43) dX12_rest_42 rfl rfl ?_
            refine J_iconst (nx := 44) (i := 0) (v := 0) (by decide) dX12_rest_43 rfl ?_
            refine J_iconst (nx := 45) (i := 4) (v := 4) (by decide) dX12_rest_44 rfl ?_
            refine JcS3 (R' := rm (0) 0 0) (nx := 48) dX12_rest_45 rfl ml_X12_in lk_X12_77 st_X12_in ⟨(Nat.le_of_ble_eq_true rfl), (Nat.le_of_ble_eq_true rfl)⟩ (Nat.le_of_ble_eq_true rfl) ⟨rfl, rfl⟩ (ct_m_in _ _ _ _) ?_
            refine J_if_ne (nx := 51) (tgt := 55) dX12_rest_48 rfl (by decide) (fun c_48 => ?_) (fun c_48 => ?_)
            · refine J_iconst (nx := 56) (i := 0) (v := 0) (by decide) dX12_rest_55 rfl ?_
              refine J_iconst (nx := 57) (i := 3) (v := 3) (by decide) dX12_rest_56 rfl ?_
              refine J_thr (b := false) (nx := 60) dX12_rest_57 rfl lk_X12_237 ⟨(Nat.le_of_ble_eq_true rfl), (Nat.le_of_ble_eq_true rfl)⟩ (Nat.le_of_ble_eq_true rfl) (fun b_57 => ?_) (fun b_57 => ?_)
              · exact absurd b_57 (by decide)
              · refine J_if_eq (nx := 63) (tgt := 65) dX12_rest_60 rfl (by decide) (fun c_60 => ?_) (fun c_60 => ?_)
                · have HC : mxC [(wMs (gA g 64) k, 1), (fIn b 0 31, 2), (fIn what 0 4, 3)] = none := (by simp only [bI_is0, bI_is1, Bool.not_eq_true', Bool.not_eq_false'] at b_12 c_26 c_48; simp only [mxC, b_12, c_26, c_48, decide_true, decide_false, Bool.not_true, Bool.not_false, Bool.true_or, Bool.false_or, Bool.and_true, Bool.true_and, Bool.false_and, Bool.and_false, cond_true, cond_false])
                  have HG0 := HC
                  obtain ⟨hk0, HG1⟩ := gd HG0
                  have hk0_0 := hk0
                  obtain ⟨qk, hqk, rfl⟩ := wMs_nat hM hk0_0
                  try rw [nN_nI (n := qk) (by omega)]
                  obtain ⟨hk1, HG2⟩ := gd HG1
                  have hk1_0 := hk1
                  obtain ⟨hk2, HG3⟩ := gd HG2
                  have hk2_0 := hk2
                  refine J_aload_n (nx := 66) dX12_rest_65 rfl rfl ?_
                  refine J_aload_n (nx := 67) dX12_rest_66 rfl rfl ?_
                  refine Jg_63_1 (nx := 70) dX12_rest_67 rfl fl_X12_13 ?_
                  refine J_bipush (nx := 72) (i := 6) (v := 6) (by decide) dX12_rest_70 rfl ?_
                  refine Ja_64 (nx := 73) dX12_rest_72 rfl (vpE (n := 6) (nIc 6) (by omega) (by decide)) ?_
                  rw [clE (n := 6) (nIc 6) (by omega)]
                  rw [show gA (sF g 63 0 0) 64 6 = gA g 64 6 from rfl]
                  refine JvV1 (R' := rm (4) 0 0) (nx := 76) dX12_rest_73 rfl ml_X12_letsOn lk_X12_296 iv_X12_letsOn rfl rfl ⟨(Nat.le_of_ble_eq_true rfl), (Nat.le_of_ble_eq_true rfl)⟩ (Nat.le_of_ble_eq_true rfl) ⟨rfl, rfl⟩ (ct_m_letsOn (sF g 63 0 0) (gA g 64) (gA g 64 6) gl rfl hgl hgk) (fun g_73 p_73 => ?_)
                  have hL : LSt (gA g 64) gl (gA g 64 6) g_73 := LOK.ls (show gA (sF g 63 0 0) 64 = gA g 64 from rfl) p_73
                  have hfr1 : Fr fA aQ (sF g 63 0 0) g_73 := Fr.rf.LO p_73.1
                  refine J_iconst (nx := 77) (i := -1) (v := -1) (by decide) dX12_rest_76 rfl ?_
                  refine J_istore (nx := 79) dX12_rest_77 rfl rfl (Nat.le_of_ble_eq_true rfl) ?_
                  refine J_lconst (nx := 80) (i := 0) (v := 0) (by decide) dX12_rest_79 rfl ?_
                  refine J_lstore (nx := 82) dX12_rest_80 rfl rfl (Nat.le_of_ble_eq_true rfl) ?_
                  refine J_iconst (nx := 83) (i := 0) (v := 0) (by decide) dX12_rest_82 rfl ?_
                  refine J_istore (nx := 85) dX12_rest_83 rfl rfl (Nat.le_of_ble_eq_true rfl) ?_
                  refine lp_m_rs3 _ (gA g 64) gl rl (gA g 64 6) qk (wTo (gA g 64) qk) b what hM (by omega) rfl g_73 _ (5 + mR (gA g 64)) 0 g_73 (by omega) Fr.rf hL (fun q' h => absurd h (by omega)) (fun gc hfc hLc hIc => ?_)
                  refine J_iconst (nx := 263) (i := 0) (v := 0) (by decide) dX12_rest_262 rfl ?_
                  refine J_istore (nx := 265) dX12_rest_263 rfl rfl (Nat.le_of_ble_eq_true rfl) ?_
                  refine J_iconst (nx := 266) (i := 1) (v := 1) (by decide) dX12_rest_265 rfl ?_
                  refine J_istore (nx := 268) dX12_rest_266 rfl rfl (Nat.le_of_ble_eq_true rfl) ?_
                  refine J.post (lp_m_rs4 gc _ _ _ _ _ _ 31 0 rfl) (fun r es h => ?_)
                  obtain ⟨x, g2, hr, he, hx, hf⟩ := h
                  have hrow := hIc (4 + mR (gA g 64)) (by omega)
                  have hH := rsH_congr (f := gB gc 80) (f' := rsN (rsG (gA g 64) gl rl (gA g 64 6) qk (wTo (gA g 64) qk) b) (4 + mR (gA g 64))) 31 (fun i hi => hrow i (by omega))
                  have hl := rsH_lt (rsN (rsG (gA g 64) gl rl (gA g 64 6) qk (wTo (gA g 64) qk) b) (4 + mR (gA g 64))) 31
                  rw [hH, hrow _ (by omega)] at hx
                  exact ⟨x, g2, hr, he, Or.inr ⟨HC, hx, by rw [hf]; exact QF.of (hfr1.tr hfc)⟩⟩
                · exact absurd c_60 (by decide)
            · refine J_iconst (nx := 52) (i := 1) (v := 1) (by decide) dX12_rest_51 rfl ?_
              refine J_goto (nx := 56) dX12_rest_52 (by decide) ?_
              refine J_iconst (nx := 57) (i := 3) (v := 3) (by decide) dX12_rest_56 rfl ?_
              refine J_thr (b := true) (nx := 60) dX12_rest_57 rfl lk_X12_237 ⟨(Nat.le_of_ble_eq_true rfl), (Nat.le_of_ble_eq_true rfl)⟩ (Nat.le_of_ble_eq_true rfl) (fun b_57 => ?_) (fun b_57 => ?_)
              · refine J_if_eq (nx := 63) (tgt := 65) dX12_rest_60 rfl (by decide) (fun c_60 => ?_) (fun c_60 => ?_)
                · exact absurd c_60 (by decide)
                · refine J_lconst (nx := 64) (i := 0) (v := 0) (by decide) dX12_rest_63 rfl ?_
                  exact Jrl dX12_rest_64 rfl (Nat.zero_le _) (Nat.zero_le _) (RXl.of (Or.inl ⟨_, (by simp only [bI_is0, bI_is1, Bool.not_eq_true', Bool.not_eq_false'] at b_12 c_26 c_48; simp only [mxC, b_12, c_26, c_48, decide_true, decide_false, Bool.not_true, Bool.not_false, Bool.true_or, Bool.false_or, Bool.and_true, Bool.true_and, Bool.false_and, Bool.and_false, cond_true, cond_false]), rfl, rfl⟩))
              · exact absurd b_57 (by decide)
      · refine J_iconst (nx := 30) (i := 1) (v := 1) (by decide) dX12_rest_29 rfl ?_
        refine J_goto (nx := 34) dX12_rest_30 (by decide) ?_
        refine J_iconst (nx := 35) (i := 2) (v := 2) (by decide) dX12_rest_34 rfl ?_
        refine J_thr (b := true) (nx := 38) dX12_rest_35 rfl lk_X12_237 ⟨(Nat.le_of_ble_eq_true rfl), (Nat.le_of_ble_eq_true rfl)⟩ (Nat.le_of_ble_eq_true rfl) (fun b_35 => ?_) (fun b_35 => ?_)
        · refine J_if_ne (nx := 41) (tgt := 63) dX12_rest_38 rfl (by decide) (fun c_38 => ?_) (fun c_38 => ?_)
          · refine J_lconst (nx := 64) (i := 0) (v := 0) (by decide) dX12_rest_63 rfl ?_
            exact Jrl dX12_rest_64 rfl (Nat.zero_le _) (Nat.zero_le _) (RXl.of (Or.inl ⟨_, (by simp only [bI_is0, bI_is1, Bool.not_eq_true', Bool.not_eq_false'] at b_12 c_26; simp only [mxC, b_12, c_26, decide_true, decide_false, Bool.not_true, Bool.not_false, Bool.true_or, Bool.false_or, Bool.and_true, Bool.true_and, Bool.false_and, Bool.and_false, cond_true, cond_false]), rfl, rfl⟩))
          · exact absurd c_38 (by decide)
        · exact absurd b_35 (by decide)

