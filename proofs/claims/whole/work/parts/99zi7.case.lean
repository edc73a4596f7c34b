/-! the law's cases -/
set_option maxRecDepth 100000 in
set_option maxHeartbeats 4000000 in
theorem lc_37 {Ls : Nat} {xs : Nat → Int32} {i K k ks : Nat} {g : GS} (hLs : Ls ≤ 3584) (hi : i + 7 ≤ Ls) (hK : K < 100000) (hk : k + 5 ≤ 601024) (hks : ks + 463 ≤ 7293034) (h : Rel K g) (hgo : ∀ g', Rel (K + 3) g' → JG Ls xs 3168 i g' (k + 5) (ks + 463)) : JG Ls xs 2936 i g k ks := by
  refine Jl_aload_n (nx := 2937) dL_law_2936 rfl rfl ?_
  refine Jl_arg (nx := 2943) (i := i) (j := 1) dL_law_2937 dL_law_2938 dL_law_2940 dL_law_2941 dL_law_2942 rfl rfl rfl rfl hLs (by omega) ?_
  refine Jl_arg (nx := 2949) (i := i) (j := 2) dL_law_2943 dL_law_2944 dL_law_2946 dL_law_2947 dL_law_2948 rfl rfl rfl rfl hLs (by omega) ?_
  refine Jl_arg (nx := 2955) (i := i) (j := 3) dL_law_2949 dL_law_2950 dL_law_2952 dL_law_2953 dL_law_2954 rfl rfl rfl rfl hLs (by omega) ?_
  refine Jl_aload_n (nx := 2956) dL_law_2955 rfl rfl ?_
  refine Jl_callX (R' := rm 11 3 18) (As := [.ref 0, .int (xs (i + 1)), .int (xs (i + 2)), .int (xs (i + 3)), .ref 82]) (nx := 2959) dL_law_2956 rfl wl_rest lk_L_277 ws_rest rfl ⟨(Nat.le_of_ble_eq_true rfl), (Nat.le_of_ble_eq_true rfl)⟩ (Nat.le_of_ble_eq_true rfl) ⟨(show k + 3 ≤ 601024 by omega), (show ks + 18 ≤ 7293034 by omega)⟩ (cw_rest _ _ _ (al_rest h _ _ _)) (fun E es' z => by obtain ⟨_, _, z1, -⟩ := z; cases z1) (fun v es' hq => ?_)
  obtain ⟨kk, g3, z1, z2, vv, g1, w, z3, hw, hC⟩ := hq
  cases z1
  subst z2
  subst z3
  refine Jl.widen (k + 5) (ks + 463) (Nat.add_le_add_left (Nat.le_of_ble_eq_true rfl) k) (Nat.add_le_add_left (Nat.le_of_ble_eq_true rfl) ks) ?_
  refine Jl_istore (nx := 2961) dL_law_2959 rfl rfl (Nat.le_of_ble_eq_true rfl) ?_
  refine Jl_aload_n (nx := 2962) dL_law_2961 rfl rfl ?_
  refine Jl_arg (nx := 2968) (i := i) (j := 1) dL_law_2962 dL_law_2963 dL_law_2965 dL_law_2966 dL_law_2967 rfl rfl rfl rfl hLs (by omega) ?_
  refine Jl_arg (nx := 2974) (i := i) (j := 2) dL_law_2968 dL_law_2969 dL_law_2971 dL_law_2972 dL_law_2973 rfl rfl rfl rfl hLs (by omega) ?_
  refine Jl_arg (nx := 2980) (i := i) (j := 3) dL_law_2974 dL_law_2975 dL_law_2977 dL_law_2978 dL_law_2979 rfl rfl rfl rfl hLs (by omega) ?_
  refine Jl_callV (M' := mX12_rest) (R' := rm 6 0 0) (As := [.int (xs (i + 1)), .int (xs (i + 2)), .int (xs (i + 3))]) (nx := 2983) dL_law_2980 rfl ml_X12_rest lk_L_279 iv_X12_rest rfl rfl rfl ⟨(Nat.le_of_ble_eq_true rfl), (Nat.le_of_ble_eq_true rfl)⟩ (Nat.le_of_ble_eq_true rfl) ⟨hk, hks⟩ (hC w) (fun E es' z => by obtain ⟨_, _, z1, -⟩ := z; cases z1) (fun v es' hq => ?_)
  obtain ⟨x, g2, z1, z2, hth, hval, hR, hB⟩ := hq
  cases z1
  subst z2
  refine Jl_lstore (nx := 2985) dL_law_2983 rfl rfl (Nat.le_of_ble_eq_true rfl) ?_
  refine Jl_aload_n (nx := 2986) dL_law_2985 rfl rfl ?_
  refine Jl_callV (M' := mX12_thrown) (R' := rm 0 0 0) (As := []) (nx := 2989) dL_law_2986 rfl ml_X12_thrown lk_L_159 iv_X12_thrown rfl rfl rfl ⟨(Nat.le_of_ble_eq_true rfl), (Nat.le_of_ble_eq_true rfl)⟩ (Nat.le_of_ble_eq_true rfl) ⟨hk, hks⟩ (ct_m_thrown _) (fun E es' z => by cases z.1) (fun v es' hq => ?_)
  obtain ⟨z1, z2⟩ := hq
  cases z1
  subst z2
  refine Jl_iload (nx := 2991) dL_law_2989 rfl rfl ?_
  refine Jl_icmp_eq (nx := 2994) (tgt := 2996) dL_law_2991 rfl (by decide) (fun _ => ?_) (fun z => absurd hth z)
  refine Jl_iload (nx := 2998) dL_law_2996 rfl rfl ?_
  refine Jl_if_ne (nx := 3001) (tgt := 3012) dL_law_2998 rfl (by decide) (fun hne => ?_) (fun he => ?_)
  · refine Jl_goto (nx := 3168) dL_law_3012 (by decide) ?_
    exact Jl_kill (nx := 0) 5 (Jl_kill (nx := 0) 6 (hgo g2 (hR.up (by omega))))
  · refine Jl_aload_n (nx := 3002) dL_law_3001 rfl rfl ?_
    refine Jl_iconst (nx := 3003) (v := 0) (by decide) dL_law_3002 rfl ?_
    refine Jl_lald (nx := 3004) (es := Wd g2) (a := 82) (n := 1) (f := gB g2 82) dL_law_3003 rfl rfl (fun z => z.elim (by decide) (by decide)) ?_
    refine Jl_lload (nx := 3006) dL_law_3004 rfl rfl ?_
    refine Jl_lcmp (nx := 3007) dL_law_3006 rfl ?_
    have hc0 : lg_cmp (gB g2 82 (0 : Int32).toNatClampNeg) x = 0 := by
      rw [hB]; show lg_cmp (w 0) x = 0; rw [hw he, hval he]; exact lg_cmp_self _
    refine Jl_if_eq (nx := 3010) (tgt := 3012) dL_law_3007 rfl (by decide) (fun _ => ?_) (fun z => absurd hc0 z)
    refine Jl_goto (nx := 3168) dL_law_3012 (by decide) ?_
    exact Jl_kill (nx := 0) 5 (Jl_kill (nx := 0) 6 (hgo g2 (hR.up (by omega))))
set_option maxRecDepth 100000 in
set_option maxHeartbeats 4000000 in
theorem lc_38 {Ls : Nat} {xs : Nat → Int32} {i K k ks : Nat} {g : GS} (hLs : Ls ≤ 3584) (hi : i + 7 ≤ Ls) (hK : K < 100000) (hk : k + 5 ≤ 601024) (hks : ks + 463 ≤ 7293034) (h : Rel K g) (hgo : ∀ g', Rel (K + 3) g' → JG Ls xs 3168 i g' (k + 5) (ks + 463)) : JG Ls xs 3015 i g k ks := by
  refine Jl_aload_n (nx := 3016) dL_law_3015 rfl rfl ?_
  refine Jl_arg (nx := 3022) (i := i) (j := 1) dL_law_3016 dL_law_3017 dL_law_3019 dL_law_3020 dL_law_3021 rfl rfl rfl rfl hLs (by omega) ?_
  refine Jl_arg (nx := 3028) (i := i) (j := 2) dL_law_3022 dL_law_3023 dL_law_3025 dL_law_3026 dL_law_3027 rfl rfl rfl rfl hLs (by omega) ?_
  refine Jl_arg (nx := 3034) (i := i) (j := 3) dL_law_3028 dL_law_3029 dL_law_3031 dL_law_3032 dL_law_3033 rfl rfl rfl rfl hLs (by omega) ?_
  refine Jl_arg (nx := 3040) (i := i) (j := 4) dL_law_3034 dL_law_3035 dL_law_3037 dL_law_3038 dL_law_3039 rfl rfl rfl rfl hLs (by omega) ?_
  refine Jl_arg (nx := 3046) (i := i) (j := 5) dL_law_3040 dL_law_3041 dL_law_3043 dL_law_3044 dL_law_3045 rfl rfl rfl rfl hLs (by omega) ?_
  refine Jl_aload_n (nx := 3047) dL_law_3046 rfl rfl ?_
  refine Jl_callX (R' := rm 11 3 18) (As := [.ref 0, .int (xs (i + 1)), .int (xs (i + 2)), .int (xs (i + 3)), .int (xs (i + 4)), .int (xs (i + 5)), .ref 82]) (nx := 3050) dL_law_3047 rfl wl_season lk_L_280 ws_season rfl ⟨(Nat.le_of_ble_eq_true rfl), (Nat.le_of_ble_eq_true rfl)⟩ (Nat.le_of_ble_eq_true rfl) ⟨(show k + 3 ≤ 601024 by omega), (show ks + 18 ≤ 7293034 by omega)⟩ (cw_season _ _ _ _ _ (al_season h _ _ _ _ _)) (fun E es' z => by obtain ⟨_, _, z1, -⟩ := z; cases z1) (fun v es' hq => ?_)
  obtain ⟨kk, g3, z1, z2, vv, g1, w, z3, hw, hC⟩ := hq
  cases z1
  subst z2
  subst z3
  refine Jl.widen (k + 5) (ks + 463) (Nat.add_le_add_left (Nat.le_of_ble_eq_true rfl) k) (Nat.add_le_add_left (Nat.le_of_ble_eq_true rfl) ks) ?_
  refine Jl_istore (nx := 3052) dL_law_3050 rfl rfl (Nat.le_of_ble_eq_true rfl) ?_
  refine Jl_aload_n (nx := 3053) dL_law_3052 rfl rfl ?_
  refine Jl_arg (nx := 3059) (i := i) (j := 1) dL_law_3053 dL_law_3054 dL_law_3056 dL_law_3057 dL_law_3058 rfl rfl rfl rfl hLs (by omega) ?_
  refine Jl_arg (nx := 3065) (i := i) (j := 2) dL_law_3059 dL_law_3060 dL_law_3062 dL_law_3063 dL_law_3064 rfl rfl rfl rfl hLs (by omega) ?_
  refine Jl_arg (nx := 3071) (i := i) (j := 3) dL_law_3065 dL_law_3066 dL_law_3068 dL_law_3069 dL_law_3070 rfl rfl rfl rfl hLs (by omega) ?_
  refine Jl_arg (nx := 3077) (i := i) (j := 4) dL_law_3071 dL_law_3072 dL_law_3074 dL_law_3075 dL_law_3076 rfl rfl rfl rfl hLs (by omega) ?_
  refine Jl_arg (nx := 3083) (i := i) (j := 5) dL_law_3077 dL_law_3078 dL_law_3080 dL_law_3081 dL_law_3082 rfl rfl rfl rfl hLs (by omega) ?_
  refine Jl_callV (M' := mX12_season) (R' := rm 6 0 0) (As := [.int (xs (i + 1)), .int (xs (i + 2)), .int (xs (i + 3)), .int (xs (i + 4)), .int (xs (i + 5))]) (nx := 3086) dL_law_3083 rfl ml_X12_season lk_L_282 iv_X12_season rfl rfl rfl ⟨(Nat.le_of_ble_eq_true rfl), (Nat.le_of_ble_eq_true rfl)⟩ (Nat.le_of_ble_eq_true rfl) ⟨hk, hks⟩ (hC w) (fun E es' z => by obtain ⟨_, _, z1, -⟩ := z; cases z1) (fun v es' hq => ?_)
  obtain ⟨x, g2, z1, z2, hth, hval, hR, hB⟩ := hq
  cases z1
  subst z2
  refine Jl_istore (nx := 3088) dL_law_3086 rfl rfl (Nat.le_of_ble_eq_true rfl) ?_
  refine Jl_aload_n (nx := 3089) dL_law_3088 rfl rfl ?_
  refine Jl_callV (M' := mX12_thrown) (R' := rm 0 0 0) (As := []) (nx := 3092) dL_law_3089 rfl ml_X12_thrown lk_L_159 iv_X12_thrown rfl rfl rfl ⟨(Nat.le_of_ble_eq_true rfl), (Nat.le_of_ble_eq_true rfl)⟩ (Nat.le_of_ble_eq_true rfl) ⟨hk, hks⟩ (ct_m_thrown _) (fun E es' z => by cases z.1) (fun v es' hq => ?_)
  obtain ⟨z1, z2⟩ := hq
  cases z1
  subst z2
  refine Jl_iload (nx := 3094) dL_law_3092 rfl rfl ?_
  refine Jl_icmp_eq (nx := 3097) (tgt := 3099) dL_law_3094 rfl (by decide) (fun _ => ?_) (fun z => absurd hth z)
  refine Jl_iload (nx := 3101) dL_law_3099 rfl rfl ?_
  refine Jl_if_ne (nx := 3104) (tgt := 3116) dL_law_3101 rfl (by decide) (fun hne => ?_) (fun he => ?_)
  · refine Jl_goto (nx := 3168) dL_law_3116 (by decide) ?_
    exact Jl_kill (nx := 0) 5 (Jl_kill (nx := 0) 6 (hgo g2 (hR.up (by omega))))
  · refine Jl_aload_n (nx := 3105) dL_law_3104 rfl rfl ?_
    refine Jl_iconst (nx := 3106) (v := 0) (by decide) dL_law_3105 rfl ?_
    refine Jl_lald (nx := 3107) (es := Wd g2) (a := 82) (n := 1) (f := gB g2 82) dL_law_3106 rfl rfl (fun z => z.elim (by decide) (by decide)) ?_
    refine Jl_iload (nx := 3109) dL_law_3107 rfl rfl ?_
    refine Jl_i2l (nx := 3110) dL_law_3109 rfl ?_
    refine Jl_lcmp (nx := 3111) dL_law_3110 rfl ?_
    have hc0 : lg_cmp (gB g2 82 (0 : Int32).toNatClampNeg) x.toInt64 = 0 := by
      rw [hB]; show lg_cmp (w 0) x.toInt64 = 0; rw [hw he, hval he]; exact lg_cmp_self _
    refine Jl_if_eq (nx := 3114) (tgt := 3116) dL_law_3111 rfl (by decide) (fun _ => ?_) (fun z => absurd hc0 z)
    refine Jl_goto (nx := 3168) dL_law_3116 (by decide) ?_
    exact Jl_kill (nx := 0) 5 (Jl_kill (nx := 0) 6 (hgo g2 (hR.up (by omega))))
set_option maxRecDepth 100000 in
set_option maxHeartbeats 4000000 in
theorem lc_39 {Ls : Nat} {xs : Nat → Int32} {i K k ks : Nat} {g : GS} (hLs : Ls ≤ 3584) (hi : i + 7 ≤ Ls) (hK : K < 100000) (hk : k + 5 ≤ 601024) (hks : ks + 463 ≤ 7293034) (h : Rel K g) (hgo : ∀ g', Rel (K + 3) g' → JG Ls xs 3168 i g' (k + 5) (ks + 463)) : JG Ls xs 3119 i g k ks := by
  refine Jl_aload_n (nx := 3120) dL_law_3119 rfl rfl ?_
  refine Jl_callV (M' := mX11_image) (R' := rm 2 0 0) (As := []) (nx := 3123) dL_law_3120 rfl ml_X11_image lk_L_283 iv_X11_image rfl rfl rfl ⟨(Nat.le_of_ble_eq_true rfl), (Nat.le_of_ble_eq_true rfl)⟩ (Nat.le_of_ble_eq_true rfl) ⟨Nat.le_trans (Nat.le_add_right k 5) hk, Nat.le_trans (Nat.le_add_right ks 463) hks⟩ (al_image h ) (fun E es' z => by obtain ⟨_, z1, -⟩ := z; cases z1) (fun v es' hq => ?_)
  obtain ⟨g1, z1, z2, hC⟩ := hq
  cases z1
  subst z2
  refine Jl.widen (k + 5) (ks + 463) (Nat.add_le_add_left (Nat.le_of_ble_eq_true rfl) k) (Nat.add_le_add_left (Nat.le_of_ble_eq_true rfl) ks) ?_
  refine Jl_aload_n (nx := 3124) dL_law_3123 rfl rfl ?_
  refine Jl_callV (M' := mX12_image) (R' := rm 1 0 0) (As := []) (nx := 3127) dL_law_3124 rfl ml_X12_image lk_L_286 iv_X12_image rfl rfl rfl ⟨(Nat.le_of_ble_eq_true rfl), (Nat.le_of_ble_eq_true rfl)⟩ (Nat.le_of_ble_eq_true rfl) ⟨hk, hks⟩ hC (fun E es' z => by obtain ⟨_, z1, -⟩ := z; cases z1) (fun v es' hq => ?_)
  obtain ⟨g2, z1, z2, hR⟩ := hq
  cases z1
  subst z2
  refine Jl_goto (nx := 3168) dL_law_3127 (by decide) ?_
  exact hgo g2 (hR.up (by omega))
set_option maxRecDepth 100000 in
set_option maxHeartbeats 4000000 in
theorem lc_40 {Ls : Nat} {xs : Nat → Int32} {i K k ks : Nat} {g : GS} (hLs : Ls ≤ 3584) (hi : i + 7 ≤ Ls) (hK : K < 100000) (hk : k + 5 ≤ 601024) (hks : ks + 463 ≤ 7293034) (h : Rel K g) (hgo : ∀ g', Rel (K + 3) g' → JG Ls xs 3168 i g' (k + 5) (ks + 463)) : JG Ls xs 3130 i g k ks := by
  refine Jl_aload_n (nx := 3131) dL_law_3130 rfl rfl ?_
  refine Jl_callV (M' := mX11_back) (R' := rm 2 0 0) (As := []) (nx := 3134) dL_law_3131 rfl ml_X11_back lk_L_287 iv_X11_back rfl rfl rfl ⟨(Nat.le_of_ble_eq_true rfl), (Nat.le_of_ble_eq_true rfl)⟩ (Nat.le_of_ble_eq_true rfl) ⟨Nat.le_trans (Nat.le_add_right k 5) hk, Nat.le_trans (Nat.le_add_right ks 463) hks⟩ (al_back h ) (fun E es' z => by obtain ⟨_, _, z1, -⟩ := z; cases z1) (fun v es' hq => ?_)
  obtain ⟨v1, g1, z1, z2, hC⟩ := hq
  cases z1
  subst z2
  refine Jl.widen (k + 5) (ks + 463) (Nat.add_le_add_left (Nat.le_of_ble_eq_true rfl) k) (Nat.add_le_add_left (Nat.le_of_ble_eq_true rfl) ks) ?_
  refine Jl_aload_n (nx := 3135) dL_law_3134 rfl rfl ?_
  refine Jl_callV (M' := mX12_back) (R' := rm 1 0 0) (As := []) (nx := 3138) dL_law_3135 rfl ml_X12_back lk_L_291 iv_X12_back rfl rfl rfl ⟨(Nat.le_of_ble_eq_true rfl), (Nat.le_of_ble_eq_true rfl)⟩ (Nat.le_of_ble_eq_true rfl) ⟨hk, hks⟩ hC (fun E es' z => by obtain ⟨_, _, z1, -⟩ := z; cases z1) (fun v es' hq => ?_)
  obtain ⟨x, g2, z1, z2, hv, hR⟩ := hq
  cases z1
  subst z2
  refine Jl_icmp_eq (nx := 3141) (tgt := 3168) dL_law_3138 rfl (by decide) (fun _ => ?_) (fun z => absurd hv z)
  exact hgo g2 (hR.up (by omega))
set_option maxRecDepth 100000 in
set_option maxHeartbeats 4000000 in
theorem lc_41 {Ls : Nat} {xs : Nat → Int32} {i K k ks : Nat} {g : GS} (hLs : Ls ≤ 3584) (hi : i + 7 ≤ Ls) (hK : K < 100000) (hk : k + 5 ≤ 601024) (hks : ks + 463 ≤ 7293034) (h : Rel K g) (hgo : ∀ g', Rel (K + 3) g' → JG Ls xs 3168 i g' (k + 5) (ks + 463)) : JG Ls xs 3143 i g k ks := by
  refine Jl_aload_n (nx := 3144) dL_law_3143 rfl rfl ?_
  refine Jl_arg (nx := 3150) (i := i) (j := 1) dL_law_3144 dL_law_3145 dL_law_3147 dL_law_3148 dL_law_3149 rfl rfl rfl rfl hLs (by omega) ?_
  refine Jl_callV (M' := mX11_count) (R' := rm 4 0 0) (As := [.int (xs (i + 1))]) (nx := 3153) dL_law_3150 rfl ml_X11_count lk_L_292 iv_X11_count rfl rfl rfl ⟨(Nat.le_of_ble_eq_true rfl), (Nat.le_of_ble_eq_true rfl)⟩ (Nat.le_of_ble_eq_true rfl) ⟨Nat.le_trans (Nat.le_add_right k 5) hk, Nat.le_trans (Nat.le_add_right ks 463) hks⟩ (al_count h _) (fun E es' z => by obtain ⟨_, _, z1, -⟩ := z; cases z1) (fun v es' hq => ?_)
  obtain ⟨v1, g1, z1, z2, hC⟩ := hq
  cases z1
  subst z2
  refine Jl.widen (k + 5) (ks + 463) (Nat.add_le_add_left (Nat.le_of_ble_eq_true rfl) k) (Nat.add_le_add_left (Nat.le_of_ble_eq_true rfl) ks) ?_
  refine Jl_aload_n (nx := 3154) dL_law_3153 rfl rfl ?_
  refine Jl_arg (nx := 3160) (i := i) (j := 1) dL_law_3154 dL_law_3155 dL_law_3157 dL_law_3158 dL_law_3159 rfl rfl rfl rfl hLs (by omega) ?_
  refine Jl_callV (M' := mX12_count) (R' := rm 2 0 0) (As := [.int (xs (i + 1))]) (nx := 3163) dL_law_3160 rfl ml_X12_count lk_L_295 iv_X12_count rfl rfl rfl ⟨(Nat.le_of_ble_eq_true rfl), (Nat.le_of_ble_eq_true rfl)⟩ (Nat.le_of_ble_eq_true rfl) ⟨hk, hks⟩ hC (fun E es' z => by obtain ⟨_, _, z1, -⟩ := z; cases z1) (fun v es' hq => ?_)
  obtain ⟨x, g2, z1, z2, hv, hR⟩ := hq
  cases z1
  subst z2
  refine Jl_icmp_eq (nx := 3166) (tgt := 3168) dL_law_3163 rfl (by decide) (fun _ => ?_) (fun z => absurd hv z)
  exact hgo g2 (hR.up (by omega))
