/-! the law's cases -/
set_option maxRecDepth 100000 in
set_option maxHeartbeats 4000000 in
theorem lc_28 {Ls : Nat} {xs : Nat → Int32} {i K k ks : Nat} {g : GS} (hLs : Ls ≤ 3584) (hi : i + 7 ≤ Ls) (hK : K < 100000) (hk : k + 5 ≤ 601024) (hks : ks + 463 ≤ 7293034) (h : Rel K g) (hgo : ∀ g', Rel (K + 3) g' → JG Ls xs 3168 i g' (k + 5) (ks + 463)) : JG Ls xs 2046 i g k ks := by
  refine Jl_aload_n (nx := 2047) dL_law_2046 rfl rfl ?_
  refine Jl_arg (nx := 2053) (i := i) (j := 1) dL_law_2047 dL_law_2048 dL_law_2050 dL_law_2051 dL_law_2052 rfl rfl rfl rfl hLs (by omega) ?_
  refine Jl_arg (nx := 2059) (i := i) (j := 2) dL_law_2053 dL_law_2054 dL_law_2056 dL_law_2057 dL_law_2058 rfl rfl rfl rfl hLs (by omega) ?_
  refine Jl_arg (nx := 2065) (i := i) (j := 3) dL_law_2059 dL_law_2060 dL_law_2062 dL_law_2063 dL_law_2064 rfl rfl rfl rfl hLs (by omega) ?_
  refine Jl_if_eq (nx := 2068) (tgt := 2072) dL_law_2065 rfl (by decide) (fun hb => ?_) (fun hb => ?_)
  · refine Jl_iconst (nx := 2073) (v := 0) (by decide) dL_law_2072 rfl ?_
    refine Jl_aload_n (nx := 2074) dL_law_2073 rfl rfl ?_
    refine Jl_callX (R' := rm 9 2 12) (As := [.ref 0, .int (xs (i + 1)), .int (xs (i + 2)), .int (bI false), .ref 82]) (nx := 2077) dL_law_2074 rfl wl_match lk_L_249 ws_match rfl ⟨(Nat.le_of_ble_eq_true rfl), (Nat.le_of_ble_eq_true rfl)⟩ (Nat.le_of_ble_eq_true rfl) ⟨(show k + 2 ≤ 601024 by omega), (show ks + 12 ≤ 7293034 by omega)⟩ (cw_match _ _ _ (al_match h _ _ _)) (fun E es' z => by obtain ⟨_, _, z1, -⟩ := z; cases z1) (fun v es' hq => ?_)
    obtain ⟨kk, g3, z1, z2, vv, g1, w, z3, hw, hC⟩ := hq
    cases z1
    subst z2
    subst z3
    refine Jl.widen (k + 5) (ks + 463) (Nat.add_le_add_left (Nat.le_of_ble_eq_true rfl) k) (Nat.add_le_add_left (Nat.le_of_ble_eq_true rfl) ks) ?_
    refine Jl_istore (nx := 2079) dL_law_2077 rfl rfl (Nat.le_of_ble_eq_true rfl) ?_
    refine Jl_aload_n (nx := 2080) dL_law_2079 rfl rfl ?_
    refine Jl_arg (nx := 2086) (i := i) (j := 1) dL_law_2080 dL_law_2081 dL_law_2083 dL_law_2084 dL_law_2085 rfl rfl rfl rfl hLs (by omega) ?_
    refine Jl_arg (nx := 2092) (i := i) (j := 2) dL_law_2086 dL_law_2087 dL_law_2089 dL_law_2090 dL_law_2091 rfl rfl rfl rfl hLs (by omega) ?_
    refine Jl_arg (nx := 2098) (i := i) (j := 3) dL_law_2092 dL_law_2093 dL_law_2095 dL_law_2096 dL_law_2097 rfl rfl rfl rfl hLs (by omega) ?_
    refine Jl_if_eq (nx := 2101) (tgt := 2105) dL_law_2098 rfl (by decide) (fun _ => ?_) (fun z => absurd hb z)
    refine Jl_iconst (nx := 2106) (v := 0) (by decide) dL_law_2105 rfl ?_
    refine Jl_callV (M' := mX12_match) (R' := rm 6 0 0) (As := [.int (xs (i + 1)), .int (xs (i + 2)), .int (bI false)]) (nx := 2109) dL_law_2106 rfl ml_X12_match lk_L_251 iv_X12_match rfl rfl rfl ⟨(Nat.le_of_ble_eq_true rfl), (Nat.le_of_ble_eq_true rfl)⟩ (Nat.le_of_ble_eq_true rfl) ⟨hk, hks⟩ (hC w) (fun E es' z => by obtain ⟨_, _, z1, -⟩ := z; cases z1) (fun v es' hq => ?_)
    obtain ⟨x, g2, z1, z2, hth, hval, hR, hB⟩ := hq
    cases z1
    subst z2
    refine Jl_lstore (nx := 2111) dL_law_2109 rfl rfl (Nat.le_of_ble_eq_true rfl) ?_
    refine Jl_aload_n (nx := 2112) dL_law_2111 rfl rfl ?_
    refine Jl_callV (M' := mX12_thrown) (R' := rm 0 0 0) (As := []) (nx := 2115) dL_law_2112 rfl ml_X12_thrown lk_L_159 iv_X12_thrown rfl rfl rfl ⟨(Nat.le_of_ble_eq_true rfl), (Nat.le_of_ble_eq_true rfl)⟩ (Nat.le_of_ble_eq_true rfl) ⟨hk, hks⟩ (ct_m_thrown _) (fun E es' z => by cases z.1) (fun v es' hq => ?_)
    obtain ⟨z1, z2⟩ := hq
    cases z1
    subst z2
    refine Jl_iload (nx := 2117) dL_law_2115 rfl rfl ?_
    refine Jl_icmp_eq (nx := 2120) (tgt := 2122) dL_law_2117 rfl (by decide) (fun _ => ?_) (fun z => absurd hth z)
    refine Jl_iload (nx := 2124) dL_law_2122 rfl rfl ?_
    refine Jl_if_ne (nx := 2127) (tgt := 2138) dL_law_2124 rfl (by decide) (fun hne => ?_) (fun he => ?_)
    · refine Jl_goto (nx := 3168) dL_law_2138 (by decide) ?_
      exact Jl_kill (nx := 0) 5 (Jl_kill (nx := 0) 6 (hgo g2 (hR.up (by omega))))
    · refine Jl_aload_n (nx := 2128) dL_law_2127 rfl rfl ?_
      refine Jl_iconst (nx := 2129) (v := 0) (by decide) dL_law_2128 rfl ?_
      refine Jl_lald (nx := 2130) (es := Wd g2) (a := 82) (n := 1) (f := gB g2 82) dL_law_2129 rfl rfl (fun z => z.elim (by decide) (by decide)) ?_
      refine Jl_lload (nx := 2132) dL_law_2130 rfl rfl ?_
      refine Jl_lcmp (nx := 2133) dL_law_2132 rfl ?_
      have hc0 : lg_cmp (gB g2 82 (0 : Int32).toNatClampNeg) x = 0 := by
        rw [hB]; show lg_cmp (w 0) x = 0; rw [hw he, hval he]; exact lg_cmp_self _
      refine Jl_if_eq (nx := 2136) (tgt := 2138) dL_law_2133 rfl (by decide) (fun _ => ?_) (fun z => absurd hc0 z)
      refine Jl_goto (nx := 3168) dL_law_2138 (by decide) ?_
      exact Jl_kill (nx := 0) 5 (Jl_kill (nx := 0) 6 (hgo g2 (hR.up (by omega))))
  · refine Jl_iconst (nx := 2069) (v := 1) (by decide) dL_law_2068 rfl ?_
    refine Jl_goto (nx := 2073) dL_law_2069 (by decide) ?_
    refine Jl_aload_n (nx := 2074) dL_law_2073 rfl rfl ?_
    refine Jl_callX (R' := rm 9 2 12) (As := [.ref 0, .int (xs (i + 1)), .int (xs (i + 2)), .int (bI true), .ref 82]) (nx := 2077) dL_law_2074 rfl wl_match lk_L_249 ws_match rfl ⟨(Nat.le_of_ble_eq_true rfl), (Nat.le_of_ble_eq_true rfl)⟩ (Nat.le_of_ble_eq_true rfl) ⟨(show k + 2 ≤ 601024 by omega), (show ks + 12 ≤ 7293034 by omega)⟩ (cw_match _ _ _ (al_match h _ _ _)) (fun E es' z => by obtain ⟨_, _, z1, -⟩ := z; cases z1) (fun v es' hq => ?_)
    obtain ⟨kk, g3, z1, z2, vv, g1, w, z3, hw, hC⟩ := hq
    cases z1
    subst z2
    subst z3
    refine Jl.widen (k + 5) (ks + 463) (Nat.add_le_add_left (Nat.le_of_ble_eq_true rfl) k) (Nat.add_le_add_left (Nat.le_of_ble_eq_true rfl) ks) ?_
    refine Jl_istore (nx := 2079) dL_law_2077 rfl rfl (Nat.le_of_ble_eq_true rfl) ?_
    refine Jl_aload_n (nx := 2080) dL_law_2079 rfl rfl ?_
    refine Jl_arg (nx := 2086) (i := i) (j := 1) dL_law_2080 dL_law_2081 dL_law_2083 dL_law_2084 dL_law_2085 rfl rfl rfl rfl hLs (by omega) ?_
    refine Jl_arg (nx := 2092) (i := i) (j := 2) dL_law_2086 dL_law_2087 dL_law_2089 dL_law_2090 dL_law_2091 rfl rfl rfl rfl hLs (by omega) ?_
    refine Jl_arg (nx := 2098) (i := i) (j := 3) dL_law_2092 dL_law_2093 dL_law_2095 dL_law_2096 dL_law_2097 rfl rfl rfl rfl hLs (by omega) ?_
    refine Jl_if_eq (nx := 2101) (tgt := 2105) dL_law_2098 rfl (by decide) (fun z => absurd z hb) (fun _ => ?_)
    refine Jl_iconst (nx := 2102) (v := 1) (by decide) dL_law_2101 rfl ?_
    refine Jl_goto (nx := 2106) dL_law_2102 (by decide) ?_
    refine Jl_callV (M' := mX12_match) (R' := rm 6 0 0) (As := [.int (xs (i + 1)), .int (xs (i + 2)), .int (bI true)]) (nx := 2109) dL_law_2106 rfl ml_X12_match lk_L_251 iv_X12_match rfl rfl rfl ⟨(Nat.le_of_ble_eq_true rfl), (Nat.le_of_ble_eq_true rfl)⟩ (Nat.le_of_ble_eq_true rfl) ⟨hk, hks⟩ (hC w) (fun E es' z => by obtain ⟨_, _, z1, -⟩ := z; cases z1) (fun v es' hq => ?_)
    obtain ⟨x, g2, z1, z2, hth, hval, hR, hB⟩ := hq
    cases z1
    subst z2
    refine Jl_lstore (nx := 2111) dL_law_2109 rfl rfl (Nat.le_of_ble_eq_true rfl) ?_
    refine Jl_aload_n (nx := 2112) dL_law_2111 rfl rfl ?_
    refine Jl_callV (M' := mX12_thrown) (R' := rm 0 0 0) (As := []) (nx := 2115) dL_law_2112 rfl ml_X12_thrown lk_L_159 iv_X12_thrown rfl rfl rfl ⟨(Nat.le_of_ble_eq_true rfl), (Nat.le_of_ble_eq_true rfl)⟩ (Nat.le_of_ble_eq_true rfl) ⟨hk, hks⟩ (ct_m_thrown _) (fun E es' z => by cases z.1) (fun v es' hq => ?_)
    obtain ⟨z1, z2⟩ := hq
    cases z1
    subst z2
    refine Jl_iload (nx := 2117) dL_law_2115 rfl rfl ?_
    refine Jl_icmp_eq (nx := 2120) (tgt := 2122) dL_law_2117 rfl (by decide) (fun _ => ?_) (fun z => absurd hth z)
    refine Jl_iload (nx := 2124) dL_law_2122 rfl rfl ?_
    refine Jl_if_ne (nx := 2127) (tgt := 2138) dL_law_2124 rfl (by decide) (fun hne => ?_) (fun he => ?_)
    · refine Jl_goto (nx := 3168) dL_law_2138 (by decide) ?_
      exact Jl_kill (nx := 0) 5 (Jl_kill (nx := 0) 6 (hgo g2 (hR.up (by omega))))
    · refine Jl_aload_n (nx := 2128) dL_law_2127 rfl rfl ?_
      refine Jl_iconst (nx := 2129) (v := 0) (by decide) dL_law_2128 rfl ?_
      refine Jl_lald (nx := 2130) (es := Wd g2) (a := 82) (n := 1) (f := gB g2 82) dL_law_2129 rfl rfl (fun z => z.elim (by decide) (by decide)) ?_
      refine Jl_lload (nx := 2132) dL_law_2130 rfl rfl ?_
      refine Jl_lcmp (nx := 2133) dL_law_2132 rfl ?_
      have hc0 : lg_cmp (gB g2 82 (0 : Int32).toNatClampNeg) x = 0 := by
        rw [hB]; show lg_cmp (w 0) x = 0; rw [hw he, hval he]; exact lg_cmp_self _
      refine Jl_if_eq (nx := 2136) (tgt := 2138) dL_law_2133 rfl (by decide) (fun _ => ?_) (fun z => absurd hc0 z)
      refine Jl_goto (nx := 3168) dL_law_2138 (by decide) ?_
      exact Jl_kill (nx := 0) 5 (Jl_kill (nx := 0) 6 (hgo g2 (hR.up (by omega))))
set_option maxRecDepth 100000 in
set_option maxHeartbeats 4000000 in
theorem lc_29 {Ls : Nat} {xs : Nat → Int32} {i K k ks : Nat} {g : GS} (hLs : Ls ≤ 3584) (hi : i + 7 ≤ Ls) (hK : K < 100000) (hk : k + 5 ≤ 601024) (hks : ks + 463 ≤ 7293034) (h : Rel K g) (hgo : ∀ g', Rel (K + 3) g' → JG Ls xs 3168 i g' (k + 5) (ks + 463)) : JG Ls xs 2141 i g k ks := by
  refine Jl_aload_n (nx := 2142) dL_law_2141 rfl rfl ?_
  refine Jl_arg (nx := 2148) (i := i) (j := 1) dL_law_2142 dL_law_2143 dL_law_2145 dL_law_2146 dL_law_2147 rfl rfl rfl rfl hLs (by omega) ?_
  refine Jl_arg (nx := 2154) (i := i) (j := 2) dL_law_2148 dL_law_2149 dL_law_2151 dL_law_2152 dL_law_2153 rfl rfl rfl rfl hLs (by omega) ?_
  refine Jl_aload_n (nx := 2155) dL_law_2154 rfl rfl ?_
  refine Jl_callX (R' := rm 9 2 12) (As := [.ref 0, .int (xs (i + 1)), .int (xs (i + 2)), .ref 82]) (nx := 2158) dL_law_2155 rfl wl_learn lk_L_252 ws_learn rfl ⟨(Nat.le_of_ble_eq_true rfl), (Nat.le_of_ble_eq_true rfl)⟩ (Nat.le_of_ble_eq_true rfl) ⟨(show k + 2 ≤ 601024 by omega), (show ks + 12 ≤ 7293034 by omega)⟩ (cw_learn _ _ (al_learn h _ _)) (fun E es' z => by obtain ⟨_, _, z1, -⟩ := z; cases z1) (fun v es' hq => ?_)
  obtain ⟨kk, g3, z1, z2, vv, g1, w, z3, hw, hC⟩ := hq
  cases z1
  subst z2
  subst z3
  refine Jl.widen (k + 5) (ks + 463) (Nat.add_le_add_left (Nat.le_of_ble_eq_true rfl) k) (Nat.add_le_add_left (Nat.le_of_ble_eq_true rfl) ks) ?_
  refine Jl_istore (nx := 2160) dL_law_2158 rfl rfl (Nat.le_of_ble_eq_true rfl) ?_
  refine Jl_aload_n (nx := 2161) dL_law_2160 rfl rfl ?_
  refine Jl_arg (nx := 2167) (i := i) (j := 1) dL_law_2161 dL_law_2162 dL_law_2164 dL_law_2165 dL_law_2166 rfl rfl rfl rfl hLs (by omega) ?_
  refine Jl_arg (nx := 2173) (i := i) (j := 2) dL_law_2167 dL_law_2168 dL_law_2170 dL_law_2171 dL_law_2172 rfl rfl rfl rfl hLs (by omega) ?_
  refine Jl_callV (M' := mX12_learn) (R' := rm 7 0 0) (As := [.int (xs (i + 1)), .int (xs (i + 2))]) (nx := 2176) dL_law_2173 rfl ml_X12_learn lk_L_254 iv_X12_learn rfl rfl rfl ⟨(Nat.le_of_ble_eq_true rfl), (Nat.le_of_ble_eq_true rfl)⟩ (Nat.le_of_ble_eq_true rfl) ⟨hk, hks⟩ (hC w) (fun E es' z => by obtain ⟨_, _, z1, -⟩ := z; cases z1) (fun v es' hq => ?_)
  obtain ⟨x, g2, z1, z2, hth, hval, hR, hB⟩ := hq
  cases z1
  subst z2
  refine Jl_istore (nx := 2178) dL_law_2176 rfl rfl (Nat.le_of_ble_eq_true rfl) ?_
  refine Jl_aload_n (nx := 2179) dL_law_2178 rfl rfl ?_
  refine Jl_callV (M' := mX12_thrown) (R' := rm 0 0 0) (As := []) (nx := 2182) dL_law_2179 rfl ml_X12_thrown lk_L_159 iv_X12_thrown rfl rfl rfl ⟨(Nat.le_of_ble_eq_true rfl), (Nat.le_of_ble_eq_true rfl)⟩ (Nat.le_of_ble_eq_true rfl) ⟨hk, hks⟩ (ct_m_thrown _) (fun E es' z => by cases z.1) (fun v es' hq => ?_)
  obtain ⟨z1, z2⟩ := hq
  cases z1
  subst z2
  refine Jl_iload (nx := 2184) dL_law_2182 rfl rfl ?_
  refine Jl_icmp_eq (nx := 2187) (tgt := 2189) dL_law_2184 rfl (by decide) (fun _ => ?_) (fun z => absurd hth z)
  refine Jl_iload (nx := 2191) dL_law_2189 rfl rfl ?_
  refine Jl_if_ne (nx := 2194) (tgt := 2206) dL_law_2191 rfl (by decide) (fun hne => ?_) (fun he => ?_)
  · refine Jl_goto (nx := 3168) dL_law_2206 (by decide) ?_
    exact Jl_kill (nx := 0) 5 (Jl_kill (nx := 0) 6 (hgo g2 (hR.up (by omega))))
  · refine Jl_aload_n (nx := 2195) dL_law_2194 rfl rfl ?_
    refine Jl_iconst (nx := 2196) (v := 0) (by decide) dL_law_2195 rfl ?_
    refine Jl_lald (nx := 2197) (es := Wd g2) (a := 82) (n := 1) (f := gB g2 82) dL_law_2196 rfl rfl (fun z => z.elim (by decide) (by decide)) ?_
    refine Jl_iload (nx := 2199) dL_law_2197 rfl rfl ?_
    refine Jl_i2l (nx := 2200) dL_law_2199 rfl ?_
    refine Jl_lcmp (nx := 2201) dL_law_2200 rfl ?_
    have hc0 : lg_cmp (gB g2 82 (0 : Int32).toNatClampNeg) x.toInt64 = 0 := by
      rw [hB]; show lg_cmp (w 0) x.toInt64 = 0; rw [hw he, hval he]; exact lg_cmp_self _
    refine Jl_if_eq (nx := 2204) (tgt := 2206) dL_law_2201 rfl (by decide) (fun _ => ?_) (fun z => absurd hc0 z)
    refine Jl_goto (nx := 3168) dL_law_2206 (by decide) ?_
    exact Jl_kill (nx := 0) 5 (Jl_kill (nx := 0) 6 (hgo g2 (hR.up (by omega))))
set_option maxRecDepth 100000 in
set_option maxHeartbeats 4000000 in
theorem lc_30 {Ls : Nat} {xs : Nat → Int32} {i K k ks : Nat} {g : GS} (hLs : Ls ≤ 3584) (hi : i + 7 ≤ Ls) (hK : K < 100000) (hk : k + 5 ≤ 601024) (hks : ks + 463 ≤ 7293034) (h : Rel K g) (hgo : ∀ g', Rel (K + 3) g' → JG Ls xs 3168 i g' (k + 5) (ks + 463)) : JG Ls xs 2209 i g k ks := by
  refine Jl_aload_n (nx := 2210) dL_law_2209 rfl rfl ?_
  refine Jl_arg (nx := 2216) (i := i) (j := 1) dL_law_2210 dL_law_2211 dL_law_2213 dL_law_2214 dL_law_2215 rfl rfl rfl rfl hLs (by omega) ?_
  refine Jl_arg (nx := 2222) (i := i) (j := 2) dL_law_2216 dL_law_2217 dL_law_2219 dL_law_2220 dL_law_2221 rfl rfl rfl rfl hLs (by omega) ?_
  refine Jl_arg (nx := 2228) (i := i) (j := 3) dL_law_2222 dL_law_2223 dL_law_2225 dL_law_2226 dL_law_2227 rfl rfl rfl rfl hLs (by omega) ?_
  refine Jl_arg (nx := 2234) (i := i) (j := 4) dL_law_2228 dL_law_2229 dL_law_2231 dL_law_2232 dL_law_2233 rfl rfl rfl rfl hLs (by omega) ?_
  refine Jl_arg (nx := 2240) (i := i) (j := 5) dL_law_2234 dL_law_2235 dL_law_2237 dL_law_2238 dL_law_2239 rfl rfl rfl rfl hLs (by omega) ?_
  refine Jl_arg6 (nx := 2247) (i := i) (j := 6) dL_law_2240 dL_law_2241 dL_law_2243 dL_law_2245 dL_law_2246 rfl rfl rfl rfl hLs (by omega) ?_
  refine Jl_if_eq (nx := 2250) (tgt := 2254) dL_law_2247 rfl (by decide) (fun hb => ?_) (fun hb => ?_)
  · refine Jl_iconst (nx := 2255) (v := 0) (by decide) dL_law_2254 rfl ?_
    refine Jl_aload_n (nx := 2256) dL_law_2255 rfl rfl ?_
    refine Jl_callX (R' := rm 11 3 18) (As := [.ref 0, .int (xs (i + 1)), .int (xs (i + 2)), .int (xs (i + 3)), .int (xs (i + 4)), .int (xs (i + 5)), .int (bI false), .ref 82]) (nx := 2259) dL_law_2256 rfl wl_two lk_L_255 ws_two rfl ⟨(Nat.le_of_ble_eq_true rfl), (Nat.le_of_ble_eq_true rfl)⟩ (Nat.le_of_ble_eq_true rfl) ⟨(show k + 3 ≤ 601024 by omega), (show ks + 18 ≤ 7293034 by omega)⟩ (cw_two _ _ _ _ _ _ (al_two h _ _ _ _ _ _)) (fun E es' z => by obtain ⟨_, _, z1, -⟩ := z; cases z1) (fun v es' hq => ?_)
    obtain ⟨kk, g3, z1, z2, vv, g1, w, z3, hw, hC⟩ := hq
    cases z1
    subst z2
    subst z3
    refine Jl.widen (k + 5) (ks + 463) (Nat.add_le_add_left (Nat.le_of_ble_eq_true rfl) k) (Nat.add_le_add_left (Nat.le_of_ble_eq_true rfl) ks) ?_
    refine Jl_istore (nx := 2261) dL_law_2259 rfl rfl (Nat.le_of_ble_eq_true rfl) ?_
    refine Jl_aload_n (nx := 2262) dL_law_2261 rfl rfl ?_
    refine Jl_arg (nx := 2268) (i := i) (j := 1) dL_law_2262 dL_law_2263 dL_law_2265 dL_law_2266 dL_law_2267 rfl rfl rfl rfl hLs (by omega) ?_
    refine Jl_arg (nx := 2274) (i := i) (j := 2) dL_law_2268 dL_law_2269 dL_law_2271 dL_law_2272 dL_law_2273 rfl rfl rfl rfl hLs (by omega) ?_
    refine Jl_arg (nx := 2280) (i := i) (j := 3) dL_law_2274 dL_law_2275 dL_law_2277 dL_law_2278 dL_law_2279 rfl rfl rfl rfl hLs (by omega) ?_
    refine Jl_arg (nx := 2286) (i := i) (j := 4) dL_law_2280 dL_law_2281 dL_law_2283 dL_law_2284 dL_law_2285 rfl rfl rfl rfl hLs (by omega) ?_
    refine Jl_arg (nx := 2292) (i := i) (j := 5) dL_law_2286 dL_law_2287 dL_law_2289 dL_law_2290 dL_law_2291 rfl rfl rfl rfl hLs (by omega) ?_
    refine Jl_arg6 (nx := 2299) (i := i) (j := 6) dL_law_2292 dL_law_2293 dL_law_2295 dL_law_2297 dL_law_2298 rfl rfl rfl rfl hLs (by omega) ?_
    refine Jl_if_eq (nx := 2302) (tgt := 2306) dL_law_2299 rfl (by decide) (fun _ => ?_) (fun z => absurd hb z)
    refine Jl_iconst (nx := 2307) (v := 0) (by decide) dL_law_2306 rfl ?_
    refine Jl_callV (M' := mX12_two) (R' := rm 6 0 0) (As := [.int (xs (i + 1)), .int (xs (i + 2)), .int (xs (i + 3)), .int (xs (i + 4)), .int (xs (i + 5)), .int (bI false)]) (nx := 2310) dL_law_2307 rfl ml_X12_two lk_L_257 iv_X12_two rfl rfl rfl ⟨(Nat.le_of_ble_eq_true rfl), (Nat.le_of_ble_eq_true rfl)⟩ (Nat.le_of_ble_eq_true rfl) ⟨hk, hks⟩ (hC w) (fun E es' z => by obtain ⟨_, _, z1, -⟩ := z; cases z1) (fun v es' hq => ?_)
    obtain ⟨x, g2, z1, z2, hth, hval, hR, hB⟩ := hq
    cases z1
    subst z2
    refine Jl_lstore (nx := 2312) dL_law_2310 rfl rfl (Nat.le_of_ble_eq_true rfl) ?_
    refine Jl_aload_n (nx := 2313) dL_law_2312 rfl rfl ?_
    refine Jl_callV (M' := mX12_thrown) (R' := rm 0 0 0) (As := []) (nx := 2316) dL_law_2313 rfl ml_X12_thrown lk_L_159 iv_X12_thrown rfl rfl rfl ⟨(Nat.le_of_ble_eq_true rfl), (Nat.le_of_ble_eq_true rfl)⟩ (Nat.le_of_ble_eq_true rfl) ⟨hk, hks⟩ (ct_m_thrown _) (fun E es' z => by cases z.1) (fun v es' hq => ?_)
    obtain ⟨z1, z2⟩ := hq
    cases z1
    subst z2
    refine Jl_iload (nx := 2318) dL_law_2316 rfl rfl ?_
    refine Jl_icmp_eq (nx := 2321) (tgt := 2323) dL_law_2318 rfl (by decide) (fun _ => ?_) (fun z => absurd hth z)
    refine Jl_iload (nx := 2325) dL_law_2323 rfl rfl ?_
    refine Jl_if_ne (nx := 2328) (tgt := 2339) dL_law_2325 rfl (by decide) (fun hne => ?_) (fun he => ?_)
    · refine Jl_goto (nx := 3168) dL_law_2339 (by decide) ?_
      exact Jl_kill (nx := 0) 5 (Jl_kill (nx := 0) 6 (hgo g2 (hR.up (by omega))))
    · refine Jl_aload_n (nx := 2329) dL_law_2328 rfl rfl ?_
      refine Jl_iconst (nx := 2330) (v := 0) (by decide) dL_law_2329 rfl ?_
      refine Jl_lald (nx := 2331) (es := Wd g2) (a := 82) (n := 1) (f := gB g2 82) dL_law_2330 rfl rfl (fun z => z.elim (by decide) (by decide)) ?_
      refine Jl_lload (nx := 2333) dL_law_2331 rfl rfl ?_
      refine Jl_lcmp (nx := 2334) dL_law_2333 rfl ?_
      have hc0 : lg_cmp (gB g2 82 (0 : Int32).toNatClampNeg) x = 0 := by
        rw [hB]; show lg_cmp (w 0) x = 0; rw [hw he, hval he]; exact lg_cmp_self _
      refine Jl_if_eq (nx := 2337) (tgt := 2339) dL_law_2334 rfl (by decide) (fun _ => ?_) (fun z => absurd hc0 z)
      refine Jl_goto (nx := 3168) dL_law_2339 (by decide) ?_
      exact Jl_kill (nx := 0) 5 (Jl_kill (nx := 0) 6 (hgo g2 (hR.up (by omega))))
  · refine Jl_iconst (nx := 2251) (v := 1) (by decide) dL_law_2250 rfl ?_
    refine Jl_goto (nx := 2255) dL_law_2251 (by decide) ?_
    refine Jl_aload_n (nx := 2256) dL_law_2255 rfl rfl ?_
    refine Jl_callX (R' := rm 11 3 18) (As := [.ref 0, .int (xs (i + 1)), .int (xs (i + 2)), .int (xs (i + 3)), .int (xs (i + 4)), .int (xs (i + 5)), .int (bI true), .ref 82]) (nx := 2259) dL_law_2256 rfl wl_two lk_L_255 ws_two rfl ⟨(Nat.le_of_ble_eq_true rfl), (Nat.le_of_ble_eq_true rfl)⟩ (Nat.le_of_ble_eq_true rfl) ⟨(show k + 3 ≤ 601024 by omega), (show ks + 18 ≤ 7293034 by omega)⟩ (cw_two _ _ _ _ _ _ (al_two h _ _ _ _ _ _)) (fun E es' z => by obtain ⟨_, _, z1, -⟩ := z; cases z1) (fun v es' hq => ?_)
    obtain ⟨kk, g3, z1, z2, vv, g1, w, z3, hw, hC⟩ := hq
    cases z1
    subst z2
    subst z3
    refine Jl.widen (k + 5) (ks + 463) (Nat.add_le_add_left (Nat.le_of_ble_eq_true rfl) k) (Nat.add_le_add_left (Nat.le_of_ble_eq_true rfl) ks) ?_
    refine Jl_istore (nx := 2261) dL_law_2259 rfl rfl (Nat.le_of_ble_eq_true rfl) ?_
    refine Jl_aload_n (nx := 2262) dL_law_2261 rfl rfl ?_
    refine Jl_arg (nx := 2268) (i := i) (j := 1) dL_law_2262 dL_law_2263 dL_law_2265 dL_law_2266 dL_law_2267 rfl rfl rfl rfl hLs (by omega) ?_
    refine Jl_arg (nx := 2274) (i := i) (j := 2) dL_law_2268 dL_law_2269 dL_law_2271 dL_law_2272 dL_law_2273 rfl rfl rfl rfl hLs (by omega) ?_
    refine Jl_arg (nx := 2280) (i := i) (j := 3) dL_law_2274 dL_law_2275 dL_law_2277 dL_law_2278 dL_law_2279 rfl rfl rfl rfl hLs (by omega) ?_
    refine Jl_arg (nx := 2286) (i := i) (j := 4) dL_law_2280 dL_law_2281 dL_law_2283 dL_law_2284 dL_law_2285 rfl rfl rfl rfl hLs (by omega) ?_
    refine Jl_arg (nx := 2292) (i := i) (j := 5) dL_law_2286 dL_law_2287 dL_law_2289 dL_law_2290 dL_law_2291 rfl rfl rfl rfl hLs (by omega) ?_
    refine Jl_arg6 (nx := 2299) (i := i) (j := 6) dL_law_2292 dL_law_2293 dL_law_2295 dL_law_2297 dL_law_2298 rfl rfl rfl rfl hLs (by omega) ?_
    refine Jl_if_eq (nx := 2302) (tgt := 2306) dL_law_2299 rfl (by decide) (fun z => absurd z hb) (fun _ => ?_)
    refine Jl_iconst (nx := 2303) (v := 1) (by decide) dL_law_2302 rfl ?_
    refine Jl_goto (nx := 2307) dL_law_2303 (by decide) ?_
    refine Jl_callV (M' := mX12_two) (R' := rm 6 0 0) (As := [.int (xs (i + 1)), .int (xs (i + 2)), .int (xs (i + 3)), .int (xs (i + 4)), .int (xs (i + 5)), .int (bI true)]) (nx := 2310) dL_law_2307 rfl ml_X12_two lk_L_257 iv_X12_two rfl rfl rfl ⟨(Nat.le_of_ble_eq_true rfl), (Nat.le_of_ble_eq_true rfl)⟩ (Nat.le_of_ble_eq_true rfl) ⟨hk, hks⟩ (hC w) (fun E es' z => by obtain ⟨_, _, z1, -⟩ := z; cases z1) (fun v es' hq => ?_)
    obtain ⟨x, g2, z1, z2, hth, hval, hR, hB⟩ := hq
    cases z1
    subst z2
    refine Jl_lstore (nx := 2312) dL_law_2310 rfl rfl (Nat.le_of_ble_eq_true rfl) ?_
    refine Jl_aload_n (nx := 2313) dL_law_2312 rfl rfl ?_
    refine Jl_callV (M' := mX12_thrown) (R' := rm 0 0 0) (As := []) (nx := 2316) dL_law_2313 rfl ml_X12_thrown lk_L_159 iv_X12_thrown rfl rfl rfl ⟨(Nat.le_of_ble_eq_true rfl), (Nat.le_of_ble_eq_true rfl)⟩ (Nat.le_of_ble_eq_true rfl) ⟨hk, hks⟩ (ct_m_thrown _) (fun E es' z => by cases z.1) (fun v es' hq => ?_)
    obtain ⟨z1, z2⟩ := hq
    cases z1
    subst z2
    refine Jl_iload (nx := 2318) dL_law_2316 rfl rfl ?_
    refine Jl_icmp_eq (nx := 2321) (tgt := 2323) dL_law_2318 rfl (by decide) (fun _ => ?_) (fun z => absurd hth z)
    refine Jl_iload (nx := 2325) dL_law_2323 rfl rfl ?_
    refine Jl_if_ne (nx := 2328) (tgt := 2339) dL_law_2325 rfl (by decide) (fun hne => ?_) (fun he => ?_)
    · refine Jl_goto (nx := 3168) dL_law_2339 (by decide) ?_
      exact Jl_kill (nx := 0) 5 (Jl_kill (nx := 0) 6 (hgo g2 (hR.up (by omega))))
    · refine Jl_aload_n (nx := 2329) dL_law_2328 rfl rfl ?_
      refine Jl_iconst (nx := 2330) (v := 0) (by decide) dL_law_2329 rfl ?_
      refine Jl_lald (nx := 2331) (es := Wd g2) (a := 82) (n := 1) (f := gB g2 82) dL_law_2330 rfl rfl (fun z => z.elim (by decide) (by decide)) ?_
      refine Jl_lload (nx := 2333) dL_law_2331 rfl rfl ?_
      refine Jl_lcmp (nx := 2334) dL_law_2333 rfl ?_
      have hc0 : lg_cmp (gB g2 82 (0 : Int32).toNatClampNeg) x = 0 := by
        rw [hB]; show lg_cmp (w 0) x = 0; rw [hw he, hval he]; exact lg_cmp_self _
      refine Jl_if_eq (nx := 2337) (tgt := 2339) dL_law_2334 rfl (by decide) (fun _ => ?_) (fun z => absurd hc0 z)
      refine Jl_goto (nx := 3168) dL_law_2339 (by decide) ?_
      exact Jl_kill (nx := 0) 5 (Jl_kill (nx := 0) 6 (hgo g2 (hR.up (by omega))))
set_option maxRecDepth 100000 in
set_option maxHeartbeats 4000000 in
theorem lc_31 {Ls : Nat} {xs : Nat → Int32} {i K k ks : Nat} {g : GS} (hLs : Ls ≤ 3584) (hi : i + 7 ≤ Ls) (hK : K < 100000) (hk : k + 5 ≤ 601024) (hks : ks + 463 ≤ 7293034) (h : Rel K g) (hgo : ∀ g', Rel (K + 3) g' → JG Ls xs 3168 i g' (k + 5) (ks + 463)) : JG Ls xs 2342 i g k ks := by
  refine Jl_aload_n (nx := 2343) dL_law_2342 rfl rfl ?_
  refine Jl_arg (nx := 2349) (i := i) (j := 1) dL_law_2343 dL_law_2344 dL_law_2346 dL_law_2347 dL_law_2348 rfl rfl rfl rfl hLs (by omega) ?_
  refine Jl_arg (nx := 2355) (i := i) (j := 2) dL_law_2349 dL_law_2350 dL_law_2352 dL_law_2353 dL_law_2354 rfl rfl rfl rfl hLs (by omega) ?_
  refine Jl_arg (nx := 2361) (i := i) (j := 3) dL_law_2355 dL_law_2356 dL_law_2358 dL_law_2359 dL_law_2360 rfl rfl rfl rfl hLs (by omega) ?_
  refine Jl_arg (nx := 2367) (i := i) (j := 4) dL_law_2361 dL_law_2362 dL_law_2364 dL_law_2365 dL_law_2366 rfl rfl rfl rfl hLs (by omega) ?_
  refine Jl_arg (nx := 2373) (i := i) (j := 5) dL_law_2367 dL_law_2368 dL_law_2370 dL_law_2371 dL_law_2372 rfl rfl rfl rfl hLs (by omega) ?_
  refine Jl_if_eq (nx := 2376) (tgt := 2380) dL_law_2373 rfl (by decide) (fun hb => ?_) (fun hb => ?_)
  · refine Jl_iconst (nx := 2381) (v := 0) (by decide) dL_law_2380 rfl ?_
    refine Jl_aload_n (nx := 2382) dL_law_2381 rfl rfl ?_
    refine Jl_callX (R' := rm 3 2 12) (As := [.ref 0, .int (xs (i + 1)), .int (xs (i + 2)), .int (xs (i + 3)), .int (xs (i + 4)), .int (bI false), .ref 82]) (nx := 2385) dL_law_2382 rfl wl_leans lk_L_258 ws_leans rfl ⟨(Nat.le_of_ble_eq_true rfl), (Nat.le_of_ble_eq_true rfl)⟩ (Nat.le_of_ble_eq_true rfl) ⟨(show k + 2 ≤ 601024 by omega), (show ks + 12 ≤ 7293034 by omega)⟩ (cw_leans _ _ _ _ _ (al_leans h _ _ _ _ _)) (fun E es' z => by obtain ⟨_, _, z1, -⟩ := z; cases z1) (fun v es' hq => ?_)
    obtain ⟨kk, g3, z1, z2, vv, g1, w, z3, hw, hC⟩ := hq
    cases z1
    subst z2
    subst z3
    refine Jl.widen (k + 5) (ks + 463) (Nat.add_le_add_left (Nat.le_of_ble_eq_true rfl) k) (Nat.add_le_add_left (Nat.le_of_ble_eq_true rfl) ks) ?_
    refine Jl_istore (nx := 2387) dL_law_2385 rfl rfl (Nat.le_of_ble_eq_true rfl) ?_
    refine Jl_aload_n (nx := 2388) dL_law_2387 rfl rfl ?_
    refine Jl_arg (nx := 2394) (i := i) (j := 1) dL_law_2388 dL_law_2389 dL_law_2391 dL_law_2392 dL_law_2393 rfl rfl rfl rfl hLs (by omega) ?_
    refine Jl_arg (nx := 2400) (i := i) (j := 2) dL_law_2394 dL_law_2395 dL_law_2397 dL_law_2398 dL_law_2399 rfl rfl rfl rfl hLs (by omega) ?_
    refine Jl_arg (nx := 2406) (i := i) (j := 3) dL_law_2400 dL_law_2401 dL_law_2403 dL_law_2404 dL_law_2405 rfl rfl rfl rfl hLs (by omega) ?_
    refine Jl_arg (nx := 2412) (i := i) (j := 4) dL_law_2406 dL_law_2407 dL_law_2409 dL_law_2410 dL_law_2411 rfl rfl rfl rfl hLs (by omega) ?_
    refine Jl_arg (nx := 2418) (i := i) (j := 5) dL_law_2412 dL_law_2413 dL_law_2415 dL_law_2416 dL_law_2417 rfl rfl rfl rfl hLs (by omega) ?_
    refine Jl_if_eq (nx := 2421) (tgt := 2425) dL_law_2418 rfl (by decide) (fun _ => ?_) (fun z => absurd hb z)
    refine Jl_iconst (nx := 2426) (v := 0) (by decide) dL_law_2425 rfl ?_
    refine Jl_callV (M' := mX12_leans) (R' := rm 2 0 0) (As := [.int (xs (i + 1)), .int (xs (i + 2)), .int (xs (i + 3)), .int (xs (i + 4)), .int (bI false)]) (nx := 2429) dL_law_2426 rfl ml_X12_leans lk_L_261 iv_X12_leans rfl rfl rfl ⟨(Nat.le_of_ble_eq_true rfl), (Nat.le_of_ble_eq_true rfl)⟩ (Nat.le_of_ble_eq_true rfl) ⟨hk, hks⟩ (hC w) (fun E es' z => by obtain ⟨_, _, z1, -⟩ := z; cases z1) (fun v es' hq => ?_)
    obtain ⟨x, g2, z1, z2, hth, hval, hR, hB⟩ := hq
    cases z1
    subst z2
    refine Jl_lstore (nx := 2431) dL_law_2429 rfl rfl (Nat.le_of_ble_eq_true rfl) ?_
    refine Jl_aload_n (nx := 2432) dL_law_2431 rfl rfl ?_
    refine Jl_callV (M' := mX12_thrown) (R' := rm 0 0 0) (As := []) (nx := 2435) dL_law_2432 rfl ml_X12_thrown lk_L_159 iv_X12_thrown rfl rfl rfl ⟨(Nat.le_of_ble_eq_true rfl), (Nat.le_of_ble_eq_true rfl)⟩ (Nat.le_of_ble_eq_true rfl) ⟨hk, hks⟩ (ct_m_thrown _) (fun E es' z => by cases z.1) (fun v es' hq => ?_)
    obtain ⟨z1, z2⟩ := hq
    cases z1
    subst z2
    refine Jl_iload (nx := 2437) dL_law_2435 rfl rfl ?_
    refine Jl_icmp_eq (nx := 2440) (tgt := 2442) dL_law_2437 rfl (by decide) (fun _ => ?_) (fun z => absurd hth z)
    refine Jl_iload (nx := 2444) dL_law_2442 rfl rfl ?_
    refine Jl_if_ne (nx := 2447) (tgt := 2458) dL_law_2444 rfl (by decide) (fun hne => ?_) (fun he => ?_)
    · refine Jl_goto (nx := 3168) dL_law_2458 (by decide) ?_
      exact Jl_kill (nx := 0) 5 (Jl_kill (nx := 0) 6 (hgo g2 (hR.up (by omega))))
    · refine Jl_aload_n (nx := 2448) dL_law_2447 rfl rfl ?_
      refine Jl_iconst (nx := 2449) (v := 0) (by decide) dL_law_2448 rfl ?_
      refine Jl_lald (nx := 2450) (es := Wd g2) (a := 82) (n := 1) (f := gB g2 82) dL_law_2449 rfl rfl (fun z => z.elim (by decide) (by decide)) ?_
      refine Jl_lload (nx := 2452) dL_law_2450 rfl rfl ?_
      refine Jl_lcmp (nx := 2453) dL_law_2452 rfl ?_
      have hc0 : lg_cmp (gB g2 82 (0 : Int32).toNatClampNeg) x = 0 := by
        rw [hB]; show lg_cmp (w 0) x = 0; rw [hw he, hval he]; exact lg_cmp_self _
      refine Jl_if_eq (nx := 2456) (tgt := 2458) dL_law_2453 rfl (by decide) (fun _ => ?_) (fun z => absurd hc0 z)
      refine Jl_goto (nx := 3168) dL_law_2458 (by decide) ?_
      exact Jl_kill (nx := 0) 5 (Jl_kill (nx := 0) 6 (hgo g2 (hR.up (by omega))))
  · refine Jl_iconst (nx := 2377) (v := 1) (by decide) dL_law_2376 rfl ?_
    refine Jl_goto (nx := 2381) dL_law_2377 (by decide) ?_
    refine Jl_aload_n (nx := 2382) dL_law_2381 rfl rfl ?_
    refine Jl_callX (R' := rm 3 2 12) (As := [.ref 0, .int (xs (i + 1)), .int (xs (i + 2)), .int (xs (i + 3)), .int (xs (i + 4)), .int (bI true), .ref 82]) (nx := 2385) dL_law_2382 rfl wl_leans lk_L_258 ws_leans rfl ⟨(Nat.le_of_ble_eq_true rfl), (Nat.le_of_ble_eq_true rfl)⟩ (Nat.le_of_ble_eq_true rfl) ⟨(show k + 2 ≤ 601024 by omega), (show ks + 12 ≤ 7293034 by omega)⟩ (cw_leans _ _ _ _ _ (al_leans h _ _ _ _ _)) (fun E es' z => by obtain ⟨_, _, z1, -⟩ := z; cases z1) (fun v es' hq => ?_)
    obtain ⟨kk, g3, z1, z2, vv, g1, w, z3, hw, hC⟩ := hq
    cases z1
    subst z2
    subst z3
    refine Jl.widen (k + 5) (ks + 463) (Nat.add_le_add_left (Nat.le_of_ble_eq_true rfl) k) (Nat.add_le_add_left (Nat.le_of_ble_eq_true rfl) ks) ?_
    refine Jl_istore (nx := 2387) dL_law_2385 rfl rfl (Nat.le_of_ble_eq_true rfl) ?_
    refine Jl_aload_n (nx := 2388) dL_law_2387 rfl rfl ?_
    refine Jl_arg (nx := 2394) (i := i) (j := 1) dL_law_2388 dL_law_2389 dL_law_2391 dL_law_2392 dL_law_2393 rfl rfl rfl rfl hLs (by omega) ?_
    refine Jl_arg (nx := 2400) (i := i) (j := 2) dL_law_2394 dL_law_2395 dL_law_2397 dL_law_2398 dL_law_2399 rfl rfl rfl rfl hLs (by omega) ?_
    refine Jl_arg (nx := 2406) (i := i) (j := 3) dL_law_2400 dL_law_2401 dL_law_2403 dL_law_2404 dL_law_2405 rfl rfl rfl rfl hLs (by omega) ?_
    refine Jl_arg (nx := 2412) (i := i) (j := 4) dL_law_2406 dL_law_2407 dL_law_2409 dL_law_2410 dL_law_2411 rfl rfl rfl rfl hLs (by omega) ?_
    refine Jl_arg (nx := 2418) (i := i) (j := 5) dL_law_2412 dL_law_2413 dL_law_2415 dL_law_2416 dL_law_2417 rfl rfl rfl rfl hLs (by omega) ?_
    refine Jl_if_eq (nx := 2421) (tgt := 2425) dL_law_2418 rfl (by decide) (fun z => absurd z hb) (fun _ => ?_)
    refine Jl_iconst (nx := 2422) (v := 1) (by decide) dL_law_2421 rfl ?_
    refine Jl_goto (nx := 2426) dL_law_2422 (by decide) ?_
    refine Jl_callV (M' := mX12_leans) (R' := rm 2 0 0) (As := [.int (xs (i + 1)), .int (xs (i + 2)), .int (xs (i + 3)), .int (xs (i + 4)), .int (bI true)]) (nx := 2429) dL_law_2426 rfl ml_X12_leans lk_L_261 iv_X12_leans rfl rfl rfl ⟨(Nat.le_of_ble_eq_true rfl), (Nat.le_of_ble_eq_true rfl)⟩ (Nat.le_of_ble_eq_true rfl) ⟨hk, hks⟩ (hC w) (fun E es' z => by obtain ⟨_, _, z1, -⟩ := z; cases z1) (fun v es' hq => ?_)
    obtain ⟨x, g2, z1, z2, hth, hval, hR, hB⟩ := hq
    cases z1
    subst z2
    refine Jl_lstore (nx := 2431) dL_law_2429 rfl rfl (Nat.le_of_ble_eq_true rfl) ?_
    refine Jl_aload_n (nx := 2432) dL_law_2431 rfl rfl ?_
    refine Jl_callV (M' := mX12_thrown) (R' := rm 0 0 0) (As := []) (nx := 2435) dL_law_2432 rfl ml_X12_thrown lk_L_159 iv_X12_thrown rfl rfl rfl ⟨(Nat.le_of_ble_eq_true rfl), (Nat.le_of_ble_eq_true rfl)⟩ (Nat.le_of_ble_eq_true rfl) ⟨hk, hks⟩ (ct_m_thrown _) (fun E es' z => by cases z.1) (fun v es' hq => ?_)
    obtain ⟨z1, z2⟩ := hq
    cases z1
    subst z2
    refine Jl_iload (nx := 2437) dL_law_2435 rfl rfl ?_
    refine Jl_icmp_eq (nx := 2440) (tgt := 2442) dL_law_2437 rfl (by decide) (fun _ => ?_) (fun z => absurd hth z)
    refine Jl_iload (nx := 2444) dL_law_2442 rfl rfl ?_
    refine Jl_if_ne (nx := 2447) (tgt := 2458) dL_law_2444 rfl (by decide) (fun hne => ?_) (fun he => ?_)
    · refine Jl_goto (nx := 3168) dL_law_2458 (by decide) ?_
      exact Jl_kill (nx := 0) 5 (Jl_kill (nx := 0) 6 (hgo g2 (hR.up (by omega))))
    · refine Jl_aload_n (nx := 2448) dL_law_2447 rfl rfl ?_
      refine Jl_iconst (nx := 2449) (v := 0) (by decide) dL_law_2448 rfl ?_
      refine Jl_lald (nx := 2450) (es := Wd g2) (a := 82) (n := 1) (f := gB g2 82) dL_law_2449 rfl rfl (fun z => z.elim (by decide) (by decide)) ?_
      refine Jl_lload (nx := 2452) dL_law_2450 rfl rfl ?_
      refine Jl_lcmp (nx := 2453) dL_law_2452 rfl ?_
      have hc0 : lg_cmp (gB g2 82 (0 : Int32).toNatClampNeg) x = 0 := by
        rw [hB]; show lg_cmp (w 0) x = 0; rw [hw he, hval he]; exact lg_cmp_self _
      refine Jl_if_eq (nx := 2456) (tgt := 2458) dL_law_2453 rfl (by decide) (fun _ => ?_) (fun z => absurd hc0 z)
      refine Jl_goto (nx := 3168) dL_law_2458 (by decide) ?_
      exact Jl_kill (nx := 0) 5 (Jl_kill (nx := 0) 6 (hgo g2 (hR.up (by omega))))
