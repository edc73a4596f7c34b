/-! the law's loop -/
set_option maxRecDepth 100000 in
set_option maxHeartbeats 4000000 in
theorem law_call {Ls : Nat} {xs : Nat → Int32} {i K k ks : Nat} {g : GS} (hLs : Ls ≤ 3584) (hi : i + 7 ≤ Ls) (hK : K < 100000) (hk : k + 5 ≤ 601024) (hks : ks + 463 ≤ 7293034) (h : Rel K g) (hgo : ∀ g', Rel (K + 3) g' → JG Ls xs 3168 i g' (k + 5) (ks + 463)) : JG Ls xs 33 i g k ks := by
  refine Jl_aload_n (nx := 34) dL_law_33 rfl rfl ?_
  refine Jl_iload (nx := 36) dL_law_34 rfl rfl ?_
  refine Jl_sld (nx := 37) dL_law_36 rfl (vp_in_nI (n := i) (by omega) (by omega)) ?_
  rw [nI_clamp (by omega)]
  refine Jl_bipush (nx := 39) (v := 63) (by decide) dL_law_37 rfl ?_
  refine Jl_iand (nx := 40) dL_law_39 rfl ?_
  obtain ⟨n, hn, e⟩ := and63 (xs i)
  rw [e]
  rcases (show n = 0 ∨ n = 1 ∨ n = 2 ∨ n = 3 ∨ n = 4 ∨ n = 5 ∨ n = 6 ∨ n = 7 ∨ n = 8 ∨ n = 9 ∨ n = 10 ∨ n = 11 ∨ n = 12 ∨ n = 13 ∨ n = 14 ∨ n = 15 ∨ n = 16 ∨ n = 17 ∨ n = 18 ∨ n = 19 ∨ n = 20 ∨ n = 21 ∨ n = 22 ∨ n = 23 ∨ n = 24 ∨ n = 25 ∨ n = 26 ∨ n = 27 ∨ n = 28 ∨ n = 29 ∨ n = 30 ∨ n = 31 ∨ n = 32 ∨ n = 33 ∨ n = 34 ∨ n = 35 ∨ n = 36 ∨ n = 37 ∨ n = 38 ∨ n = 39 ∨ n = 40 ∨ n = 41 ∨ 42 ≤ n by omega) with rfl | rfl | rfl | rfl | rfl | rfl | rfl | rfl | rfl | rfl | rfl | rfl | rfl | rfl | rfl | rfl | rfl | rfl | rfl | rfl | rfl | rfl | rfl | rfl | rfl | rfl | rfl | rfl | rfl | rfl | rfl | rfl | rfl | rfl | rfl | rfl | rfl | rfl | rfl | rfl | rfl | rfl | h42
  · exact Jl_tabIn (nx := 0) (tgt := 224) (off := 184) dL_law_40 (by decide +kernel) (by decide +kernel) (by decide +kernel) (by decide) (lc_0 hLs hi hK hk hks h hgo)
  · exact Jl_tabIn (nx := 0) (tgt := 297) (off := 257) dL_law_40 (by decide +kernel) (by decide +kernel) (by decide +kernel) (by decide) (lc_1 hLs hi hK hk hks h hgo)
  · exact Jl_tabIn (nx := 0) (tgt := 322) (off := 282) dL_law_40 (by decide +kernel) (by decide +kernel) (by decide +kernel) (by decide) (lc_2 hLs hi hK hk hks h hgo)
  · exact Jl_tabIn (nx := 0) (tgt := 366) (off := 326) dL_law_40 (by decide +kernel) (by decide +kernel) (by decide +kernel) (by decide) (lc_3 hLs hi hK hk hks h hgo)
  · exact Jl_tabIn (nx := 0) (tgt := 410) (off := 370) dL_law_40 (by decide +kernel) (by decide +kernel) (by decide +kernel) (by decide) (lc_4 hLs hi hK hk hks h hgo)
  · exact Jl_tabIn (nx := 0) (tgt := 454) (off := 414) dL_law_40 (by decide +kernel) (by decide +kernel) (by decide +kernel) (by decide) (lc_5 hLs hi hK hk hks h hgo)
  · exact Jl_tabIn (nx := 0) (tgt := 467) (off := 427) dL_law_40 (by decide +kernel) (by decide +kernel) (by decide +kernel) (by decide) (lc_6 hLs hi hK hk hks h hgo)
  · exact Jl_tabIn (nx := 0) (tgt := 535) (off := 495) dL_law_40 (by decide +kernel) (by decide +kernel) (by decide +kernel) (by decide) (lc_7 hLs hi hK hk hks h hgo)
  · exact Jl_tabIn (nx := 0) (tgt := 591) (off := 551) dL_law_40 (by decide +kernel) (by decide +kernel) (by decide +kernel) (by decide) (lc_8 hLs hi hK hk hks h hgo)
  · exact Jl_tabIn (nx := 0) (tgt := 639) (off := 599) dL_law_40 (by decide +kernel) (by decide +kernel) (by decide +kernel) (by decide) (lc_9 hLs hi hK hk hks h hgo)
  · exact Jl_tabIn (nx := 0) (tgt := 652) (off := 612) dL_law_40 (by decide +kernel) (by decide +kernel) (by decide +kernel) (by decide) (lc_10 hLs hi hK hk hks h hgo)
  · exact Jl_tabIn (nx := 0) (tgt := 688) (off := 648) dL_law_40 (by decide +kernel) (by decide +kernel) (by decide +kernel) (by decide) (lc_11 hLs hi hK hk hks h hgo)
  · exact Jl_tabIn (nx := 0) (tgt := 724) (off := 684) dL_law_40 (by decide +kernel) (by decide +kernel) (by decide +kernel) (by decide) (lc_12 hLs hi hK hk hks h hgo)
  · exact Jl_tabIn (nx := 0) (tgt := 760) (off := 720) dL_law_40 (by decide +kernel) (by decide +kernel) (by decide +kernel) (by decide) (lc_13 hLs hi hK hk hks h hgo)
  · exact Jl_tabIn (nx := 0) (tgt := 828) (off := 788) dL_law_40 (by decide +kernel) (by decide +kernel) (by decide +kernel) (by decide) (lc_14 hLs hi hK hk hks h hgo)
  · exact Jl_tabIn (nx := 0) (tgt := 864) (off := 824) dL_law_40 (by decide +kernel) (by decide +kernel) (by decide +kernel) (by decide) (lc_15 hLs hi hK hk hks h hgo)
  · exact Jl_tabIn (nx := 0) (tgt := 931) (off := 891) dL_law_40 (by decide +kernel) (by decide +kernel) (by decide +kernel) (by decide) (lc_16 hLs hi hK hk hks h hgo)
  · exact Jl_tabIn (nx := 0) (tgt := 1027) (off := 987) dL_law_40 (by decide +kernel) (by decide +kernel) (by decide +kernel) (by decide) (lc_17 hLs hi hK hk hks h hgo)
  · exact Jl_tabIn (nx := 0) (tgt := 1144) (off := 1104) dL_law_40 (by decide +kernel) (by decide +kernel) (by decide +kernel) (by decide) (lc_18 hLs hi hK hk hks h hgo)
  · exact Jl_tabIn (nx := 0) (tgt := 1262) (off := 1222) dL_law_40 (by decide +kernel) (by decide +kernel) (by decide +kernel) (by decide) (lc_19 hLs hi hK hk hks h hgo)
  · exact Jl_tabIn (nx := 0) (tgt := 1341) (off := 1301) dL_law_40 (by decide +kernel) (by decide +kernel) (by decide +kernel) (by decide) (lc_20 hLs hi hK hk hks h hgo)
  · exact Jl_tabIn (nx := 0) (tgt := 1421) (off := 1381) dL_law_40 (by decide +kernel) (by decide +kernel) (by decide +kernel) (by decide) (lc_21 hLs hi hK hk hks h hgo)
  · exact Jl_tabIn (nx := 0) (tgt := 1524) (off := 1484) dL_law_40 (by decide +kernel) (by decide +kernel) (by decide +kernel) (by decide) (lc_22 hLs hi hK hk hks h hgo)
  · exact Jl_tabIn (nx := 0) (tgt := 1658) (off := 1618) dL_law_40 (by decide +kernel) (by decide +kernel) (by decide +kernel) (by decide) (lc_23 hLs hi hK hk hks h hgo)
  · exact Jl_tabIn (nx := 0) (tgt := 1726) (off := 1686) dL_law_40 (by decide +kernel) (by decide +kernel) (by decide +kernel) (by decide) (lc_24 hLs hi hK hk hks h hgo)
  · exact Jl_tabIn (nx := 0) (tgt := 1806) (off := 1766) dL_law_40 (by decide +kernel) (by decide +kernel) (by decide +kernel) (by decide) (lc_25 hLs hi hK hk hks h hgo)
  · exact Jl_tabIn (nx := 0) (tgt := 1898) (off := 1858) dL_law_40 (by decide +kernel) (by decide +kernel) (by decide +kernel) (by decide) (lc_26 hLs hi hK hk hks h hgo)
  · exact Jl_tabIn (nx := 0) (tgt := 1978) (off := 1938) dL_law_40 (by decide +kernel) (by decide +kernel) (by decide +kernel) (by decide) (lc_27 hLs hi hK hk hks h hgo)
  · exact Jl_tabIn (nx := 0) (tgt := 2046) (off := 2006) dL_law_40 (by decide +kernel) (by decide +kernel) (by decide +kernel) (by decide) (lc_28 hLs hi hK hk hks h hgo)
  · exact Jl_tabIn (nx := 0) (tgt := 2141) (off := 2101) dL_law_40 (by decide +kernel) (by decide +kernel) (by decide +kernel) (by decide) (lc_29 hLs hi hK hk hks h hgo)
  · exact Jl_tabIn (nx := 0) (tgt := 2209) (off := 2169) dL_law_40 (by decide +kernel) (by decide +kernel) (by decide +kernel) (by decide) (lc_30 hLs hi hK hk hks h hgo)
  · exact Jl_tabIn (nx := 0) (tgt := 2342) (off := 2302) dL_law_40 (by decide +kernel) (by decide +kernel) (by decide +kernel) (by decide) (lc_31 hLs hi hK hk hks h hgo)
  · exact Jl_tabIn (nx := 0) (tgt := 2461) (off := 2421) dL_law_40 (by decide +kernel) (by decide +kernel) (by decide +kernel) (by decide) (lc_32 hLs hi hK hk hks h hgo)
  · exact Jl_tabIn (nx := 0) (tgt := 2579) (off := 2539) dL_law_40 (by decide +kernel) (by decide +kernel) (by decide +kernel) (by decide) (lc_33 hLs hi hK hk hks h hgo)
  · exact Jl_tabIn (nx := 0) (tgt := 2697) (off := 2657) dL_law_40 (by decide +kernel) (by decide +kernel) (by decide +kernel) (by decide) (lc_34 hLs hi hK hk hks h hgo)
  · exact Jl_tabIn (nx := 0) (tgt := 2776) (off := 2736) dL_law_40 (by decide +kernel) (by decide +kernel) (by decide +kernel) (by decide) (lc_35 hLs hi hK hk hks h hgo)
  · exact Jl_tabIn (nx := 0) (tgt := 2844) (off := 2804) dL_law_40 (by decide +kernel) (by decide +kernel) (by decide +kernel) (by decide) (lc_36 hLs hi hK hk hks h hgo)
  · exact Jl_tabIn (nx := 0) (tgt := 2936) (off := 2896) dL_law_40 (by decide +kernel) (by decide +kernel) (by decide +kernel) (by decide) (lc_37 hLs hi hK hk hks h hgo)
  · exact Jl_tabIn (nx := 0) (tgt := 3015) (off := 2975) dL_law_40 (by decide +kernel) (by decide +kernel) (by decide +kernel) (by decide) (lc_38 hLs hi hK hk hks h hgo)
  · exact Jl_tabIn (nx := 0) (tgt := 3119) (off := 3079) dL_law_40 (by decide +kernel) (by decide +kernel) (by decide +kernel) (by decide) (lc_39 hLs hi hK hk hks h hgo)
  · exact Jl_tabIn (nx := 0) (tgt := 3130) (off := 3090) dL_law_40 (by decide +kernel) (by decide +kernel) (by decide +kernel) (by decide) (lc_40 hLs hi hK hk hks h hgo)
  · exact Jl_tabIn (nx := 0) (tgt := 3143) (off := 3103) dL_law_40 (by decide +kernel) (by decide +kernel) (by decide +kernel) (by decide) (lc_41 hLs hi hK hk hks h hgo)
  · refine Jl_tabOut (nx := 0) (tgt := 3168) dL_law_40 (Or.inr (by rw [nI_toInt (by omega)]; omega)) (by decide) ?_
    exact Jl.widen (k + 5) (ks + 463) (by omega) (by omega) (hgo g (h.up (by omega)))
theorem law_hi {Ls q : Nat} (hLs : Ls ≤ 3584) (hq : 7 * q ≤ Ls) (c : ¬ (Int32.ofNat Ls - 7 < nI (7 * q))) : 7 * q + 7 ≤ Ls := by
  have e1 : Int32.ofNat Ls - 7 = zI ((Ls : Int) - 7) := by
    rw [zI_sub, ← zI_n]; rfl
  rw [e1, zI_n, zI_lt (by omega) (by omega) (by omega) (by omega)] at c
  omega
set_option maxRecDepth 100000 in
set_option maxHeartbeats 4000000 in
theorem law_loop {Ls : Nat} {xs : Nat → Int32} (hLs : Ls ≤ 3584) : ∀ (n q : Nat) (g : GS) (k ks : Nat), q + n = 513 → 7 * q ≤ Ls → Rel (3 * q) g → k + 5 * n ≤ 601024 → ks + 463 * n ≤ 7293034 → JG Ls xs 23 (7 * q) g k ks := by
  intro n
  induction n with
  | zero => intro q g k ks h1 h2; omega
  | succ n ih =>
    intro q g k ks h1 h2 h hk hks
    refine Jl_iload (nx := 25) dL_law_23 rfl rfl ?_
    refine Jl_aload_n (nx := 26) dL_law_25 rfl rfl ?_
    refine Jl_slen (nx := 27) dL_law_26 rfl ?_
    refine Jl_bipush (nx := 29) (v := 7) (by decide) dL_law_27 rfl ?_
    refine Jl_isub (nx := 30) dL_law_29 rfl ?_
    refine Jl_icmp_gt (nx := 33) (tgt := 3174) dL_law_30 rfl (by decide) (fun _ => ?_) (fun c => ?_)
    · refine Jl_iconst (nx := 3175) (v := 1) (by decide) dL_law_3174 rfl ?_
      exact Jlrz dL_law_3175 rfl rfl (show k ≤ 601024 by omega) (show ks ≤ 7293034 by omega) rfl
    · have hi := law_hi hLs h2 c
      refine law_call hLs hi (by omega) (by omega) (by omega) h (fun g' h' => ?_)
      refine Jl_iinc (nx := 3171) dL_law_3168 rfl rfl rfl (Nat.le_of_ble_eq_true rfl) ?_
      refine Jl_goto (nx := 23) dL_law_3171 (by decide) ?_
      have e : nI (7 * q) + Int32.ofInt 7 = nI (7 * (q + 1)) := by
        rw [show 7 * (q + 1) = 7 * q + 7 by omega]; exact nI_add (7 * q) 7
      rw [e]
      exact ih (q + 1) g' (k + 5) (ks + 463) (by omega) (by omega) (h'.up (by omega)) (by omega) (by omega)
