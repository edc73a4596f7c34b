/-! the law's cases -/
set_option maxRecDepth 100000 in
set_option maxHeartbeats 4000000 in
theorem lc_32 {Ls : Nat} {xs : Nat → Int32} {i K k ks : Nat} {g : GS} (hLs : Ls ≤ 3584) (hi : i + 7 ≤ Ls) (hK : K < 100000) (hk : k + 5 ≤ 601024) (hks : ks + 463 ≤ 7293034) (h : Rel K g) (hgo : ∀ g', Rel (K + 3) g' → JG Ls xs 3168 i g' (k + 5) (ks + 463)) : JG Ls xs 2461 i g k ks := by
  refine Jl_aload_n (nx := 2462) dL_law_2461 rfl rfl ?_
  refine Jl_arg (nx := 2468) (i := i) (j := 1) dL_law_2462 dL_law_2463 dL_law_2465 dL_law_2466 dL_law_2467 rfl rfl rfl rfl hLs (by omega) ?_
  refine Jl_arg (nx := 2474) (i := i) (j := 2) dL_law_2468 dL_law_2469 dL_law_2471 dL_law_2472 dL_law_2473 rfl rfl rfl rfl hLs (by omega) ?_
  refine Jl_arg (nx := 2480) (i := i) (j := 3) dL_law_2474 dL_law_2475 dL_law_2477 dL_law_2478 dL_law_2479 rfl rfl rfl rfl hLs (by omega) ?_
  refine Jl_arg (nx := 2486) (i := i) (j := 4) dL_law_2480 dL_law_2481 dL_law_2483 dL_law_2484 dL_law_2485 rfl rfl rfl rfl hLs (by omega) ?_
  refine Jl_arg (nx := 2492) (i := i) (j := 5) dL_law_2486 dL_law_2487 dL_law_2489 dL_law_2490 dL_law_2491 rfl rfl rfl rfl hLs (by omega) ?_
  refine Jl_arg6 (nx := 2499) (i := i) (j := 6) dL_law_2492 dL_law_2493 dL_law_2495 dL_law_2497 dL_law_2498 rfl rfl rfl rfl hLs (by omega) ?_
  refine Jl_aload_n (nx := 2500) dL_law_2499 rfl rfl ?_
  refine Jl_callX (R' := rm 11 4 24) (As := [.ref 0, .int (xs (i + 1)), .int (xs (i + 2)), .int (xs (i + 3)), .int (xs (i + 4)), .int (xs (i + 5)), .int (xs (i + 6)), .ref 82]) (nx := 2503) dL_law_2500 rfl wl_played lk_L_262 ws_played rfl ⟨(Nat.le_of_ble_eq_true rfl), (Nat.le_of_ble_eq_true rfl)⟩ (Nat.le_of_ble_eq_true rfl) ⟨(show k + 4 ≤ 601024 by omega), (show ks + 24 ≤ 7293034 by omega)⟩ (cw_played _ _ _ _ _ _ (al_played h _ _ _ _ _ _)) (fun E es' z => by obtain ⟨_, _, z1, -⟩ := z; cases z1) (fun v es' hq => ?_)
  obtain ⟨kk, g3, z1, z2, vv, g1, w, z3, hw, hC⟩ := hq
  cases z1
  subst z2
  subst z3
  refine Jl.widen (k + 5) (ks + 463) (Nat.add_le_add_left (Nat.le_of_ble_eq_true rfl) k) (Nat.add_le_add_left (Nat.le_of_ble_eq_true rfl) ks) ?_
  refine Jl_istore (nx := 2505) dL_law_2503 rfl rfl (Nat.le_of_ble_eq_true rfl) ?_
  refine Jl_aload_n (nx := 2506) dL_law_2505 rfl rfl ?_
  refine Jl_arg (nx := 2512) (i := i) (j := 1) dL_law_2506 dL_law_2507 dL_law_2509 dL_law_2510 dL_law_2511 rfl rfl rfl rfl hLs (by omega) ?_
  refine Jl_arg (nx := 2518) (i := i) (j := 2) dL_law_2512 dL_law_2513 dL_law_2515 dL_law_2516 dL_law_2517 rfl rfl rfl rfl hLs (by omega) ?_
  refine Jl_arg (nx := 2524) (i := i) (j := 3) dL_law_2518 dL_law_2519 dL_law_2521 dL_law_2522 dL_law_2523 rfl rfl rfl rfl hLs (by omega) ?_
  refine Jl_arg (nx := 2530) (i := i) (j := 4) dL_law_2524 dL_law_2525 dL_law_2527 dL_law_2528 dL_law_2529 rfl rfl rfl rfl hLs (by omega) ?_
  refine Jl_arg (nx := 2536) (i := i) (j := 5) dL_law_2530 dL_law_2531 dL_law_2533 dL_law_2534 dL_law_2535 rfl rfl rfl rfl hLs (by omega) ?_
  refine Jl_arg6 (nx := 2543) (i := i) (j := 6) dL_law_2536 dL_law_2537 dL_law_2539 dL_law_2541 dL_law_2542 rfl rfl rfl rfl hLs (by omega) ?_
  refine Jl_callV (M' := mX12_played) (R' := rm 6 0 0) (As := [.int (xs (i + 1)), .int (xs (i + 2)), .int (xs (i + 3)), .int (xs (i + 4)), .int (xs (i + 5)), .int (xs (i + 6))]) (nx := 2546) dL_law_2543 rfl ml_X12_played lk_L_264 iv_X12_played rfl rfl rfl ⟨(Nat.le_of_ble_eq_true rfl), (Nat.le_of_ble_eq_true rfl)⟩ (Nat.le_of_ble_eq_true rfl) ⟨hk, hks⟩ (hC w) (fun E es' z => by obtain ⟨_, _, z1, -⟩ := z; cases z1) (fun v es' hq => ?_)
  obtain ⟨x, g2, z1, z2, hth, hval, hR, hB⟩ := hq
  cases z1
  subst z2
  refine Jl_istore (nx := 2548) dL_law_2546 rfl rfl (Nat.le_of_ble_eq_true rfl) ?_
  refine Jl_aload_n (nx := 2549) dL_law_2548 rfl rfl ?_
  refine Jl_callV (M' := mX12_thrown) (R' := rm 0 0 0) (As := []) (nx := 2552) dL_law_2549 rfl ml_X12_thrown lk_L_159 iv_X12_thrown rfl rfl rfl ⟨(Nat.le_of_ble_eq_true rfl), (Nat.le_of_ble_eq_true rfl)⟩ (Nat.le_of_ble_eq_true rfl) ⟨hk, hks⟩ (ct_m_thrown _) (fun E es' z => by cases z.1) (fun v es' hq => ?_)
  obtain ⟨z1, z2⟩ := hq
  cases z1
  subst z2
  refine Jl_iload (nx := 2554) dL_law_2552 rfl rfl ?_
  refine Jl_icmp_eq (nx := 2557) (tgt := 2559) dL_law_2554 rfl (by decide) (fun _ => ?_) (fun z => absurd hth z)
  refine Jl_iload (nx := 2561) dL_law_2559 rfl rfl ?_
  refine Jl_if_ne (nx := 2564) (tgt := 2576) dL_law_2561 rfl (by decide) (fun hne => ?_) (fun he => ?_)
  · refine Jl_goto (nx := 3168) dL_law_2576 (by decide) ?_
    exact Jl_kill (nx := 0) 5 (Jl_kill (nx := 0) 6 (hgo g2 (hR.up (by omega))))
  · refine Jl_aload_n (nx := 2565) dL_law_2564 rfl rfl ?_
    refine Jl_iconst (nx := 2566) (v := 0) (by decide) dL_law_2565 rfl ?_
    refine Jl_lald (nx := 2567) (es := Wd g2) (a := 82) (n := 1) (f := gB g2 82) dL_law_2566 rfl rfl (fun z => z.elim (by decide) (by decide)) ?_
    refine Jl_iload (nx := 2569) dL_law_2567 rfl rfl ?_
    refine Jl_i2l (nx := 2570) dL_law_2569 rfl ?_
    refine Jl_lcmp (nx := 2571) dL_law_2570 rfl ?_
    have hc0 : lg_cmp (gB g2 82 (0 : Int32).toNatClampNeg) x.toInt64 = 0 := by
      rw [hB]; show lg_cmp (w 0) x.toInt64 = 0; rw [hw he, hval he]; exact lg_cmp_self _
    refine Jl_if_eq (nx := 2574) (tgt := 2576) dL_law_2571 rfl (by decide) (fun _ => ?_) (fun z => absurd hc0 z)
    refine Jl_goto (nx := 3168) dL_law_2576 (by decide) ?_
    exact Jl_kill (nx := 0) 5 (Jl_kill (nx := 0) 6 (hgo g2 (hR.up (by omega))))
set_option maxRecDepth 100000 in
set_option maxHeartbeats 4000000 in
theorem lc_33 {Ls : Nat} {xs : Nat → Int32} {i K k ks : Nat} {g : GS} (hLs : Ls ≤ 3584) (hi : i + 7 ≤ Ls) (hK : K < 100000) (hk : k + 5 ≤ 601024) (hks : ks + 463 ≤ 7293034) (h : Rel K g) (hgo : ∀ g', Rel (K + 3) g' → JG Ls xs 3168 i g' (k + 5) (ks + 463)) : JG Ls xs 2579 i g k ks := by
  refine Jl_aload_n (nx := 2580) dL_law_2579 rfl rfl ?_
  refine Jl_arg (nx := 2586) (i := i) (j := 1) dL_law_2580 dL_law_2581 dL_law_2583 dL_law_2584 dL_law_2585 rfl rfl rfl rfl hLs (by omega) ?_
  refine Jl_arg (nx := 2592) (i := i) (j := 2) dL_law_2586 dL_law_2587 dL_law_2589 dL_law_2590 dL_law_2591 rfl rfl rfl rfl hLs (by omega) ?_
  refine Jl_arg (nx := 2598) (i := i) (j := 3) dL_law_2592 dL_law_2593 dL_law_2595 dL_law_2596 dL_law_2597 rfl rfl rfl rfl hLs (by omega) ?_
  refine Jl_arg (nx := 2604) (i := i) (j := 4) dL_law_2598 dL_law_2599 dL_law_2601 dL_law_2602 dL_law_2603 rfl rfl rfl rfl hLs (by omega) ?_
  refine Jl_arg (nx := 2610) (i := i) (j := 5) dL_law_2604 dL_law_2605 dL_law_2607 dL_law_2608 dL_law_2609 rfl rfl rfl rfl hLs (by omega) ?_
  refine Jl_arg6 (nx := 2617) (i := i) (j := 6) dL_law_2610 dL_law_2611 dL_law_2613 dL_law_2615 dL_law_2616 rfl rfl rfl rfl hLs (by omega) ?_
  refine Jl_aload_n (nx := 2618) dL_law_2617 rfl rfl ?_
  refine Jl_callX (R' := rm 11 5 30) (As := [.ref 0, .int (xs (i + 1)), .int (xs (i + 2)), .int (xs (i + 3)), .int (xs (i + 4)), .int (xs (i + 5)), .int (xs (i + 6)), .ref 82]) (nx := 2621) dL_law_2618 rfl wl_ends lk_L_265 ws_ends rfl ⟨(Nat.le_of_ble_eq_true rfl), (Nat.le_of_ble_eq_true rfl)⟩ (Nat.le_of_ble_eq_true rfl) ⟨(show k + 5 ≤ 601024 by omega), (show ks + 30 ≤ 7293034 by omega)⟩ (cw_ends _ _ _ _ _ _ (al_ends h _ _ _ _ _ _)) (fun E es' z => by obtain ⟨_, _, z1, -⟩ := z; cases z1) (fun v es' hq => ?_)
  obtain ⟨kk, g3, z1, z2, vv, g1, w, z3, hw, hC⟩ := hq
  cases z1
  subst z2
  subst z3
  refine Jl.widen (k + 5) (ks + 463) (Nat.add_le_add_left (Nat.le_of_ble_eq_true rfl) k) (Nat.add_le_add_left (Nat.le_of_ble_eq_true rfl) ks) ?_
  refine Jl_istore (nx := 2623) dL_law_2621 rfl rfl (Nat.le_of_ble_eq_true rfl) ?_
  refine Jl_aload_n (nx := 2624) dL_law_2623 rfl rfl ?_
  refine Jl_arg (nx := 2630) (i := i) (j := 1) dL_law_2624 dL_law_2625 dL_law_2627 dL_law_2628 dL_law_2629 rfl rfl rfl rfl hLs (by omega) ?_
  refine Jl_arg (nx := 2636) (i := i) (j := 2) dL_law_2630 dL_law_2631 dL_law_2633 dL_law_2634 dL_law_2635 rfl rfl rfl rfl hLs (by omega) ?_
  refine Jl_arg (nx := 2642) (i := i) (j := 3) dL_law_2636 dL_law_2637 dL_law_2639 dL_law_2640 dL_law_2641 rfl rfl rfl rfl hLs (by omega) ?_
  refine Jl_arg (nx := 2648) (i := i) (j := 4) dL_law_2642 dL_law_2643 dL_law_2645 dL_law_2646 dL_law_2647 rfl rfl rfl rfl hLs (by omega) ?_
  refine Jl_arg (nx := 2654) (i := i) (j := 5) dL_law_2648 dL_law_2649 dL_law_2651 dL_law_2652 dL_law_2653 rfl rfl rfl rfl hLs (by omega) ?_
  refine Jl_arg6 (nx := 2661) (i := i) (j := 6) dL_law_2654 dL_law_2655 dL_law_2657 dL_law_2659 dL_law_2660 rfl rfl rfl rfl hLs (by omega) ?_
  refine Jl_callV (M' := mX12_ends) (R' := rm 6 0 0) (As := [.int (xs (i + 1)), .int (xs (i + 2)), .int (xs (i + 3)), .int (xs (i + 4)), .int (xs (i + 5)), .int (xs (i + 6))]) (nx := 2664) dL_law_2661 rfl ml_X12_ends lk_L_267 iv_X12_ends rfl rfl rfl ⟨(Nat.le_of_ble_eq_true rfl), (Nat.le_of_ble_eq_true rfl)⟩ (Nat.le_of_ble_eq_true rfl) ⟨hk, hks⟩ (hC w) (fun E es' z => by obtain ⟨_, _, z1, -⟩ := z; cases z1) (fun v es' hq => ?_)
  obtain ⟨x, g2, z1, z2, hth, hval, hR, hB⟩ := hq
  cases z1
  subst z2
  refine Jl_istore (nx := 2666) dL_law_2664 rfl rfl (Nat.le_of_ble_eq_true rfl) ?_
  refine Jl_aload_n (nx := 2667) dL_law_2666 rfl rfl ?_
  refine Jl_callV (M' := mX12_thrown) (R' := rm 0 0 0) (As := []) (nx := 2670) dL_law_2667 rfl ml_X12_thrown lk_L_159 iv_X12_thrown rfl rfl rfl ⟨(Nat.le_of_ble_eq_true rfl), (Nat.le_of_ble_eq_true rfl)⟩ (Nat.le_of_ble_eq_true rfl) ⟨hk, hks⟩ (ct_m_thrown _) (fun E es' z => by cases z.1) (fun v es' hq => ?_)
  obtain ⟨z1, z2⟩ := hq
  cases z1
  subst z2
  refine Jl_iload (nx := 2672) dL_law_2670 rfl rfl ?_
  refine Jl_icmp_eq (nx := 2675) (tgt := 2677) dL_law_2672 rfl (by decide) (fun _ => ?_) (fun z => absurd hth z)
  refine Jl_iload (nx := 2679) dL_law_2677 rfl rfl ?_
  refine Jl_if_ne (nx := 2682) (tgt := 2694) dL_law_2679 rfl (by decide) (fun hne => ?_) (fun he => ?_)
  · refine Jl_goto (nx := 3168) dL_law_2694 (by decide) ?_
    exact Jl_kill (nx := 0) 5 (Jl_kill (nx := 0) 6 (hgo g2 (hR.up (by omega))))
  · refine Jl_aload_n (nx := 2683) dL_law_2682 rfl rfl ?_
    refine Jl_iconst (nx := 2684) (v := 0) (by decide) dL_law_2683 rfl ?_
    refine Jl_lald (nx := 2685) (es := Wd g2) (a := 82) (n := 1) (f := gB g2 82) dL_law_2684 rfl rfl (fun z => z.elim (by decide) (by decide)) ?_
    refine Jl_iload (nx := 2687) dL_law_2685 rfl rfl ?_
    refine Jl_i2l (nx := 2688) dL_law_2687 rfl ?_
    refine Jl_lcmp (nx := 2689) dL_law_2688 rfl ?_
    have hc0 : lg_cmp (gB g2 82 (0 : Int32).toNatClampNeg) x.toInt64 = 0 := by
      rw [hB]; show lg_cmp (w 0) x.toInt64 = 0; rw [hw he, hval he]; exact lg_cmp_self _
    refine Jl_if_eq (nx := 2692) (tgt := 2694) dL_law_2689 rfl (by decide) (fun _ => ?_) (fun z => absurd hc0 z)
    refine Jl_goto (nx := 3168) dL_law_2694 (by decide) ?_
    exact Jl_kill (nx := 0) 5 (Jl_kill (nx := 0) 6 (hgo g2 (hR.up (by omega))))
set_option maxRecDepth 100000 in
set_option maxHeartbeats 4000000 in
theorem lc_34 {Ls : Nat} {xs : Nat → Int32} {i K k ks : Nat} {g : GS} (hLs : Ls ≤ 3584) (hi : i + 7 ≤ Ls) (hK : K < 100000) (hk : k + 5 ≤ 601024) (hks : ks + 463 ≤ 7293034) (h : Rel K g) (hgo : ∀ g', Rel (K + 3) g' → JG Ls xs 3168 i g' (k + 5) (ks + 463)) : JG Ls xs 2697 i g k ks := by
  refine Jl_aload_n (nx := 2698) dL_law_2697 rfl rfl ?_
  refine Jl_arg (nx := 2704) (i := i) (j := 1) dL_law_2698 dL_law_2699 dL_law_2701 dL_law_2702 dL_law_2703 rfl rfl rfl rfl hLs (by omega) ?_
  refine Jl_arg (nx := 2710) (i := i) (j := 2) dL_law_2704 dL_law_2705 dL_law_2707 dL_law_2708 dL_law_2709 rfl rfl rfl rfl hLs (by omega) ?_
  refine Jl_arg (nx := 2716) (i := i) (j := 3) dL_law_2710 dL_law_2711 dL_law_2713 dL_law_2714 dL_law_2715 rfl rfl rfl rfl hLs (by omega) ?_
  refine Jl_aload_n (nx := 2717) dL_law_2716 rfl rfl ?_
  refine Jl_callX (R' := rm 9 3 18) (As := [.ref 0, .int (xs (i + 1)), .int (xs (i + 2)), .int (xs (i + 3)), .ref 82]) (nx := 2720) dL_law_2717 rfl wl_mean lk_L_268 ws_mean rfl ⟨(Nat.le_of_ble_eq_true rfl), (Nat.le_of_ble_eq_true rfl)⟩ (Nat.le_of_ble_eq_true rfl) ⟨(show k + 3 ≤ 601024 by omega), (show ks + 18 ≤ 7293034 by omega)⟩ (cw_mean _ _ _ (al_mean h _ _ _)) (fun E es' z => by obtain ⟨_, _, z1, -⟩ := z; cases z1) (fun v es' hq => ?_)
  obtain ⟨kk, g3, z1, z2, vv, g1, w, z3, hw, hC⟩ := hq
  cases z1
  subst z2
  subst z3
  refine Jl.widen (k + 5) (ks + 463) (Nat.add_le_add_left (Nat.le_of_ble_eq_true rfl) k) (Nat.add_le_add_left (Nat.le_of_ble_eq_true rfl) ks) ?_
  refine Jl_istore (nx := 2722) dL_law_2720 rfl rfl (Nat.le_of_ble_eq_true rfl) ?_
  refine Jl_aload_n (nx := 2723) dL_law_2722 rfl rfl ?_
  refine Jl_arg (nx := 2729) (i := i) (j := 1) dL_law_2723 dL_law_2724 dL_law_2726 dL_law_2727 dL_law_2728 rfl rfl rfl rfl hLs (by omega) ?_
  refine Jl_arg (nx := 2735) (i := i) (j := 2) dL_law_2729 dL_law_2730 dL_law_2732 dL_law_2733 dL_law_2734 rfl rfl rfl rfl hLs (by omega) ?_
  refine Jl_arg (nx := 2741) (i := i) (j := 3) dL_law_2735 dL_law_2736 dL_law_2738 dL_law_2739 dL_law_2740 rfl rfl rfl rfl hLs (by omega) ?_
  refine Jl_callV (M' := mX12_mean) (R' := rm 6 0 0) (As := [.int (xs (i + 1)), .int (xs (i + 2)), .int (xs (i + 3))]) (nx := 2744) dL_law_2741 rfl ml_X12_mean lk_L_270 iv_X12_mean rfl rfl rfl ⟨(Nat.le_of_ble_eq_true rfl), (Nat.le_of_ble_eq_true rfl)⟩ (Nat.le_of_ble_eq_true rfl) ⟨hk, hks⟩ (hC w) (fun E es' z => by obtain ⟨_, _, z1, -⟩ := z; cases z1) (fun v es' hq => ?_)
  obtain ⟨x, g2, z1, z2, hth, hval, hR, hB⟩ := hq
  cases z1
  subst z2
  refine Jl_lstore (nx := 2746) dL_law_2744 rfl rfl (Nat.le_of_ble_eq_true rfl) ?_
  refine Jl_aload_n (nx := 2747) dL_law_2746 rfl rfl ?_
  refine Jl_callV (M' := mX12_thrown) (R' := rm 0 0 0) (As := []) (nx := 2750) dL_law_2747 rfl ml_X12_thrown lk_L_159 iv_X12_thrown rfl rfl rfl ⟨(Nat.le_of_ble_eq_true rfl), (Nat.le_of_ble_eq_true rfl)⟩ (Nat.le_of_ble_eq_true rfl) ⟨hk, hks⟩ (ct_m_thrown _) (fun E es' z => by cases z.1) (fun v es' hq => ?_)
  obtain ⟨z1, z2⟩ := hq
  cases z1
  subst z2
  refine Jl_iload (nx := 2752) dL_law_2750 rfl rfl ?_
  refine Jl_icmp_eq (nx := 2755) (tgt := 2757) dL_law_2752 rfl (by decide) (fun _ => ?_) (fun z => absurd hth z)
  refine Jl_iload (nx := 2759) dL_law_2757 rfl rfl ?_
  refine Jl_if_ne (nx := 2762) (tgt := 2773) dL_law_2759 rfl (by decide) (fun hne => ?_) (fun he => ?_)
  · refine Jl_goto (nx := 3168) dL_law_2773 (by decide) ?_
    exact Jl_kill (nx := 0) 5 (Jl_kill (nx := 0) 6 (hgo g2 (hR.up (by omega))))
  · refine Jl_aload_n (nx := 2763) dL_law_2762 rfl rfl ?_
    refine Jl_iconst (nx := 2764) (v := 0) (by decide) dL_law_2763 rfl ?_
    refine Jl_lald (nx := 2765) (es := Wd g2) (a := 82) (n := 1) (f := gB g2 82) dL_law_2764 rfl rfl (fun z => z.elim (by decide) (by decide)) ?_
    refine Jl_lload (nx := 2767) dL_law_2765 rfl rfl ?_
    refine Jl_lcmp (nx := 2768) dL_law_2767 rfl ?_
    have hc0 : lg_cmp (gB g2 82 (0 : Int32).toNatClampNeg) x = 0 := by
      rw [hB]; show lg_cmp (w 0) x = 0; rw [hw he, hval he]; exact lg_cmp_self _
    refine Jl_if_eq (nx := 2771) (tgt := 2773) dL_law_2768 rfl (by decide) (fun _ => ?_) (fun z => absurd hc0 z)
    refine Jl_goto (nx := 3168) dL_law_2773 (by decide) ?_
    exact Jl_kill (nx := 0) 5 (Jl_kill (nx := 0) 6 (hgo g2 (hR.up (by omega))))
set_option maxRecDepth 100000 in
set_option maxHeartbeats 4000000 in
theorem lc_35 {Ls : Nat} {xs : Nat → Int32} {i K k ks : Nat} {g : GS} (hLs : Ls ≤ 3584) (hi : i + 7 ≤ Ls) (hK : K < 100000) (hk : k + 5 ≤ 601024) (hks : ks + 463 ≤ 7293034) (h : Rel K g) (hgo : ∀ g', Rel (K + 3) g' → JG Ls xs 3168 i g' (k + 5) (ks + 463)) : JG Ls xs 2776 i g k ks := by
  refine Jl_aload_n (nx := 2777) dL_law_2776 rfl rfl ?_
  refine Jl_arg (nx := 2783) (i := i) (j := 1) dL_law_2777 dL_law_2778 dL_law_2780 dL_law_2781 dL_law_2782 rfl rfl rfl rfl hLs (by omega) ?_
  refine Jl_arg (nx := 2789) (i := i) (j := 2) dL_law_2783 dL_law_2784 dL_law_2786 dL_law_2787 dL_law_2788 rfl rfl rfl rfl hLs (by omega) ?_
  refine Jl_aload_n (nx := 2790) dL_law_2789 rfl rfl ?_
  refine Jl_callX (R' := rm 9 1 6) (As := [.ref 0, .int (xs (i + 1)), .int (xs (i + 2)), .ref 82]) (nx := 2793) dL_law_2790 rfl wl_plain lk_L_271 ws_plain rfl ⟨(Nat.le_of_ble_eq_true rfl), (Nat.le_of_ble_eq_true rfl)⟩ (Nat.le_of_ble_eq_true rfl) ⟨(show k + 1 ≤ 601024 by omega), (show ks + 6 ≤ 7293034 by omega)⟩ (cw_plain _ _ (al_plain h _ _)) (fun E es' z => by obtain ⟨_, _, z1, -⟩ := z; cases z1) (fun v es' hq => ?_)
  obtain ⟨kk, g3, z1, z2, vv, g1, w, z3, hw, hC⟩ := hq
  cases z1
  subst z2
  subst z3
  refine Jl.widen (k + 5) (ks + 463) (Nat.add_le_add_left (Nat.le_of_ble_eq_true rfl) k) (Nat.add_le_add_left (Nat.le_of_ble_eq_true rfl) ks) ?_
  refine Jl_istore (nx := 2795) dL_law_2793 rfl rfl (Nat.le_of_ble_eq_true rfl) ?_
  refine Jl_aload_n (nx := 2796) dL_law_2795 rfl rfl ?_
  refine Jl_arg (nx := 2802) (i := i) (j := 1) dL_law_2796 dL_law_2797 dL_law_2799 dL_law_2800 dL_law_2801 rfl rfl rfl rfl hLs (by omega) ?_
  refine Jl_arg (nx := 2808) (i := i) (j := 2) dL_law_2802 dL_law_2803 dL_law_2805 dL_law_2806 dL_law_2807 rfl rfl rfl rfl hLs (by omega) ?_
  refine Jl_callV (M' := mX12_plain) (R' := rm 6 0 0) (As := [.int (xs (i + 1)), .int (xs (i + 2))]) (nx := 2811) dL_law_2808 rfl ml_X12_plain lk_L_273 iv_X12_plain rfl rfl rfl ⟨(Nat.le_of_ble_eq_true rfl), (Nat.le_of_ble_eq_true rfl)⟩ (Nat.le_of_ble_eq_true rfl) ⟨hk, hks⟩ (hC w) (fun E es' z => by obtain ⟨_, _, z1, -⟩ := z; cases z1) (fun v es' hq => ?_)
  obtain ⟨x, g2, z1, z2, hth, hval, hR, hB⟩ := hq
  cases z1
  subst z2
  refine Jl_istore (nx := 2813) dL_law_2811 rfl rfl (Nat.le_of_ble_eq_true rfl) ?_
  refine Jl_aload_n (nx := 2814) dL_law_2813 rfl rfl ?_
  refine Jl_callV (M' := mX12_thrown) (R' := rm 0 0 0) (As := []) (nx := 2817) dL_law_2814 rfl ml_X12_thrown lk_L_159 iv_X12_thrown rfl rfl rfl ⟨(Nat.le_of_ble_eq_true rfl), (Nat.le_of_ble_eq_true rfl)⟩ (Nat.le_of_ble_eq_true rfl) ⟨hk, hks⟩ (ct_m_thrown _) (fun E es' z => by cases z.1) (fun v es' hq => ?_)
  obtain ⟨z1, z2⟩ := hq
  cases z1
  subst z2
  refine Jl_iload (nx := 2819) dL_law_2817 rfl rfl ?_
  refine Jl_icmp_eq (nx := 2822) (tgt := 2824) dL_law_2819 rfl (by decide) (fun _ => ?_) (fun z => absurd hth z)
  refine Jl_iload (nx := 2826) dL_law_2824 rfl rfl ?_
  refine Jl_if_ne (nx := 2829) (tgt := 2841) dL_law_2826 rfl (by decide) (fun hne => ?_) (fun he => ?_)
  · refine Jl_goto (nx := 3168) dL_law_2841 (by decide) ?_
    exact Jl_kill (nx := 0) 5 (Jl_kill (nx := 0) 6 (hgo g2 (hR.up (by omega))))
  · refine Jl_aload_n (nx := 2830) dL_law_2829 rfl rfl ?_
    refine Jl_iconst (nx := 2831) (v := 0) (by decide) dL_law_2830 rfl ?_
    refine Jl_lald (nx := 2832) (es := Wd g2) (a := 82) (n := 1) (f := gB g2 82) dL_law_2831 rfl rfl (fun z => z.elim (by decide) (by decide)) ?_
    refine Jl_iload (nx := 2834) dL_law_2832 rfl rfl ?_
    refine Jl_i2l (nx := 2835) dL_law_2834 rfl ?_
    refine Jl_lcmp (nx := 2836) dL_law_2835 rfl ?_
    have hc0 : lg_cmp (gB g2 82 (0 : Int32).toNatClampNeg) x.toInt64 = 0 := by
      rw [hB]; show lg_cmp (w 0) x.toInt64 = 0; rw [hw he, hval he]; exact lg_cmp_self _
    refine Jl_if_eq (nx := 2839) (tgt := 2841) dL_law_2836 rfl (by decide) (fun _ => ?_) (fun z => absurd hc0 z)
    refine Jl_goto (nx := 3168) dL_law_2841 (by decide) ?_
    exact Jl_kill (nx := 0) 5 (Jl_kill (nx := 0) 6 (hgo g2 (hR.up (by omega))))
set_option maxRecDepth 100000 in
set_option maxHeartbeats 4000000 in
theorem lc_36 {Ls : Nat} {xs : Nat → Int32} {i K k ks : Nat} {g : GS} (hLs : Ls ≤ 3584) (hi : i + 7 ≤ Ls) (hK : K < 100000) (hk : k + 5 ≤ 601024) (hks : ks + 463 ≤ 7293034) (h : Rel K g) (hgo : ∀ g', Rel (K + 3) g' → JG Ls xs 3168 i g' (k + 5) (ks + 463)) : JG Ls xs 2844 i g k ks := by
  refine Jl_aload_n (nx := 2845) dL_law_2844 rfl rfl ?_
  refine Jl_arg (nx := 2851) (i := i) (j := 1) dL_law_2845 dL_law_2846 dL_law_2848 dL_law_2849 dL_law_2850 rfl rfl rfl rfl hLs (by omega) ?_
  refine Jl_arg (nx := 2857) (i := i) (j := 2) dL_law_2851 dL_law_2852 dL_law_2854 dL_law_2855 dL_law_2856 rfl rfl rfl rfl hLs (by omega) ?_
  refine Jl_arg (nx := 2863) (i := i) (j := 3) dL_law_2857 dL_law_2858 dL_law_2860 dL_law_2861 dL_law_2862 rfl rfl rfl rfl hLs (by omega) ?_
  refine Jl_arg (nx := 2869) (i := i) (j := 4) dL_law_2863 dL_law_2864 dL_law_2866 dL_law_2867 dL_law_2868 rfl rfl rfl rfl hLs (by omega) ?_
  refine Jl_aload_n (nx := 2870) dL_law_2869 rfl rfl ?_
  refine Jl_callX (R' := rm 11 3 18) (As := [.ref 0, .int (xs (i + 1)), .int (xs (i + 2)), .int (xs (i + 3)), .int (xs (i + 4)), .ref 82]) (nx := 2873) dL_law_2870 rfl wl_right lk_L_274 ws_right rfl ⟨(Nat.le_of_ble_eq_true rfl), (Nat.le_of_ble_eq_true rfl)⟩ (Nat.le_of_ble_eq_true rfl) ⟨(show k + 3 ≤ 601024 by omega), (show ks + 18 ≤ 7293034 by omega)⟩ (cw_right _ _ _ _ (al_right h _ _ _ _)) (fun E es' z => by obtain ⟨_, _, z1, -⟩ := z; cases z1) (fun v es' hq => ?_)
  obtain ⟨kk, g3, z1, z2, vv, g1, w, z3, hw, hC⟩ := hq
  cases z1
  subst z2
  subst z3
  refine Jl.widen (k + 5) (ks + 463) (Nat.add_le_add_left (Nat.le_of_ble_eq_true rfl) k) (Nat.add_le_add_left (Nat.le_of_ble_eq_true rfl) ks) ?_
  refine Jl_istore (nx := 2875) dL_law_2873 rfl rfl (Nat.le_of_ble_eq_true rfl) ?_
  refine Jl_aload_n (nx := 2876) dL_law_2875 rfl rfl ?_
  refine Jl_arg (nx := 2882) (i := i) (j := 1) dL_law_2876 dL_law_2877 dL_law_2879 dL_law_2880 dL_law_2881 rfl rfl rfl rfl hLs (by omega) ?_
  refine Jl_arg (nx := 2888) (i := i) (j := 2) dL_law_2882 dL_law_2883 dL_law_2885 dL_law_2886 dL_law_2887 rfl rfl rfl rfl hLs (by omega) ?_
  refine Jl_arg (nx := 2894) (i := i) (j := 3) dL_law_2888 dL_law_2889 dL_law_2891 dL_law_2892 dL_law_2893 rfl rfl rfl rfl hLs (by omega) ?_
  refine Jl_arg (nx := 2900) (i := i) (j := 4) dL_law_2894 dL_law_2895 dL_law_2897 dL_law_2898 dL_law_2899 rfl rfl rfl rfl hLs (by omega) ?_
  refine Jl_callV (M' := mX12_right) (R' := rm 6 0 0) (As := [.int (xs (i + 1)), .int (xs (i + 2)), .int (xs (i + 3)), .int (xs (i + 4))]) (nx := 2903) dL_law_2900 rfl ml_X12_right lk_L_276 iv_X12_right rfl rfl rfl ⟨(Nat.le_of_ble_eq_true rfl), (Nat.le_of_ble_eq_true rfl)⟩ (Nat.le_of_ble_eq_true rfl) ⟨hk, hks⟩ (hC w) (fun E es' z => by obtain ⟨_, _, z1, -⟩ := z; cases z1) (fun v es' hq => ?_)
  obtain ⟨x, g2, z1, z2, hth, hval, hR, hB⟩ := hq
  cases z1
  subst z2
  refine Jl_istore (nx := 2905) dL_law_2903 rfl rfl (Nat.le_of_ble_eq_true rfl) ?_
  refine Jl_aload_n (nx := 2906) dL_law_2905 rfl rfl ?_
  refine Jl_callV (M' := mX12_thrown) (R' := rm 0 0 0) (As := []) (nx := 2909) dL_law_2906 rfl ml_X12_thrown lk_L_159 iv_X12_thrown rfl rfl rfl ⟨(Nat.le_of_ble_eq_true rfl), (Nat.le_of_ble_eq_true rfl)⟩ (Nat.le_of_ble_eq_true rfl) ⟨hk, hks⟩ (ct_m_thrown _) (fun E es' z => by cases z.1) (fun v es' hq => ?_)
  obtain ⟨z1, z2⟩ := hq
  cases z1
  subst z2
  refine Jl_iload (nx := 2911) dL_law_2909 rfl rfl ?_
  refine Jl_icmp_eq (nx := 2914) (tgt := 2916) dL_law_2911 rfl (by decide) (fun _ => ?_) (fun z => absurd hth z)
  refine Jl_iload (nx := 2918) dL_law_2916 rfl rfl ?_
  refine Jl_if_ne (nx := 2921) (tgt := 2933) dL_law_2918 rfl (by decide) (fun hne => ?_) (fun he => ?_)
  · refine Jl_goto (nx := 3168) dL_law_2933 (by decide) ?_
    exact Jl_kill (nx := 0) 5 (Jl_kill (nx := 0) 6 (hgo g2 (hR.up (by omega))))
  · refine Jl_aload_n (nx := 2922) dL_law_2921 rfl rfl ?_
    refine Jl_iconst (nx := 2923) (v := 0) (by decide) dL_law_2922 rfl ?_
    refine Jl_lald (nx := 2924) (es := Wd g2) (a := 82) (n := 1) (f := gB g2 82) dL_law_2923 rfl rfl (fun z => z.elim (by decide) (by decide)) ?_
    refine Jl_iload (nx := 2926) dL_law_2924 rfl rfl ?_
    refine Jl_i2l (nx := 2927) dL_law_2926 rfl ?_
    refine Jl_lcmp (nx := 2928) dL_law_2927 rfl ?_
    have hc0 : lg_cmp (gB g2 82 (0 : Int32).toNatClampNeg) x.toInt64 = 0 := by
      rw [hB]; show lg_cmp (w 0) x.toInt64 = 0; rw [hw he, hval he]; exact lg_cmp_self _
    refine Jl_if_eq (nx := 2931) (tgt := 2933) dL_law_2928 rfl (by decide) (fun _ => ?_) (fun z => absurd hc0 z)
    refine Jl_goto (nx := 3168) dL_law_2933 (by decide) ?_
    exact Jl_kill (nx := 0) 5 (Jl_kill (nx := 0) 6 (hgo g2 (hR.up (by omega))))
