/-! the law's cases -/
set_option maxRecDepth 100000 in
set_option maxHeartbeats 4000000 in
theorem lc_6 {Ls : Nat} {xs : Nat → Int32} {i K k ks : Nat} {g : GS} (hLs : Ls ≤ 3584) (hi : i + 7 ≤ Ls) (hK : K < 100000) (hk : k + 5 ≤ 601024) (hks : ks + 463 ≤ 7293034) (h : Rel K g) (hgo : ∀ g', Rel (K + 3) g' → JG Ls xs 3168 i g' (k + 5) (ks + 463)) : JG Ls xs 467 i g k ks := by
  refine Jl_aload_n (nx := 468) dL_law_467 rfl rfl ?_
  refine Jl_arg (nx := 474) (i := i) (j := 1) dL_law_468 dL_law_469 dL_law_471 dL_law_472 dL_law_473 rfl rfl rfl rfl hLs (by omega) ?_
  refine Jl_arg (nx := 480) (i := i) (j := 2) dL_law_474 dL_law_475 dL_law_477 dL_law_478 dL_law_479 rfl rfl rfl rfl hLs (by omega) ?_
  refine Jl_aload_n (nx := 481) dL_law_480 rfl rfl ?_
  refine Jl_callX (R' := rm 11 2 12) (As := [.ref 0, .int (xs (i + 1)), .int (xs (i + 2)), .ref 82]) (nx := 484) dL_law_481 rfl wl_follows lk_L_172 ws_follows rfl ⟨(Nat.le_of_ble_eq_true rfl), (Nat.le_of_ble_eq_true rfl)⟩ (Nat.le_of_ble_eq_true rfl) ⟨(show k + 2 ≤ 601024 by omega), (show ks + 12 ≤ 7293034 by omega)⟩ (cw_follows _ _ (al_follows h _ _)) (fun E es' z => by obtain ⟨_, _, z1, -⟩ := z; cases z1) (fun v es' hq => ?_)
  obtain ⟨kk, g3, z1, z2, vv, g1, w, z3, hw, hC⟩ := hq
  cases z1
  subst z2
  subst z3
  refine Jl.widen (k + 5) (ks + 463) (Nat.add_le_add_left (Nat.le_of_ble_eq_true rfl) k) (Nat.add_le_add_left (Nat.le_of_ble_eq_true rfl) ks) ?_
  refine Jl_istore (nx := 486) dL_law_484 rfl rfl (Nat.le_of_ble_eq_true rfl) ?_
  refine Jl_aload_n (nx := 487) dL_law_486 rfl rfl ?_
  refine Jl_arg (nx := 493) (i := i) (j := 1) dL_law_487 dL_law_488 dL_law_490 dL_law_491 dL_law_492 rfl rfl rfl rfl hLs (by omega) ?_
  refine Jl_arg (nx := 499) (i := i) (j := 2) dL_law_493 dL_law_494 dL_law_496 dL_law_497 dL_law_498 rfl rfl rfl rfl hLs (by omega) ?_
  refine Jl_callV (M' := mX12_follows) (R' := rm 2 0 0) (As := [.int (xs (i + 1)), .int (xs (i + 2))]) (nx := 502) dL_law_499 rfl ml_X12_follows lk_L_175 iv_X12_follows rfl rfl rfl ⟨(Nat.le_of_ble_eq_true rfl), (Nat.le_of_ble_eq_true rfl)⟩ (Nat.le_of_ble_eq_true rfl) ⟨hk, hks⟩ (hC w) (fun E es' z => by obtain ⟨_, _, z1, -⟩ := z; cases z1) (fun v es' hq => ?_)
  obtain ⟨x, g2, z1, z2, hth, hval, hR, hB⟩ := hq
  cases z1
  subst z2
  refine Jl_istore (nx := 504) dL_law_502 rfl rfl (Nat.le_of_ble_eq_true rfl) ?_
  refine Jl_aload_n (nx := 505) dL_law_504 rfl rfl ?_
  refine Jl_callV (M' := mX12_thrown) (R' := rm 0 0 0) (As := []) (nx := 508) dL_law_505 rfl ml_X12_thrown lk_L_159 iv_X12_thrown rfl rfl rfl ⟨(Nat.le_of_ble_eq_true rfl), (Nat.le_of_ble_eq_true rfl)⟩ (Nat.le_of_ble_eq_true rfl) ⟨hk, hks⟩ (ct_m_thrown _) (fun E es' z => by cases z.1) (fun v es' hq => ?_)
  obtain ⟨z1, z2⟩ := hq
  cases z1
  subst z2
  refine Jl_iload (nx := 510) dL_law_508 rfl rfl ?_
  refine Jl_icmp_eq (nx := 513) (tgt := 515) dL_law_510 rfl (by decide) (fun _ => ?_) (fun z => absurd hth z)
  refine Jl_iload (nx := 517) dL_law_515 rfl rfl ?_
  refine Jl_if_ne (nx := 520) (tgt := 532) dL_law_517 rfl (by decide) (fun hne => ?_) (fun he => ?_)
  · refine Jl_goto (nx := 3168) dL_law_532 (by decide) ?_
    exact Jl_kill (nx := 0) 5 (Jl_kill (nx := 0) 6 (hgo g2 (hR.up (by omega))))
  · refine Jl_aload_n (nx := 521) dL_law_520 rfl rfl ?_
    refine Jl_iconst (nx := 522) (v := 0) (by decide) dL_law_521 rfl ?_
    refine Jl_lald (nx := 523) (es := Wd g2) (a := 82) (n := 1) (f := gB g2 82) dL_law_522 rfl rfl (fun z => z.elim (by decide) (by decide)) ?_
    refine Jl_iload (nx := 525) dL_law_523 rfl rfl ?_
    refine Jl_i2l (nx := 526) dL_law_525 rfl ?_
    refine Jl_lcmp (nx := 527) dL_law_526 rfl ?_
    have hc0 : lg_cmp (gB g2 82 (0 : Int32).toNatClampNeg) x.toInt64 = 0 := by
      rw [hB]; show lg_cmp (w 0) x.toInt64 = 0; rw [hw he, hval he]; exact lg_cmp_self _
    refine Jl_if_eq (nx := 530) (tgt := 532) dL_law_527 rfl (by decide) (fun _ => ?_) (fun z => absurd hc0 z)
    refine Jl_goto (nx := 3168) dL_law_532 (by decide) ?_
    exact Jl_kill (nx := 0) 5 (Jl_kill (nx := 0) 6 (hgo g2 (hR.up (by omega))))
set_option maxRecDepth 100000 in
set_option maxHeartbeats 4000000 in
theorem lc_7 {Ls : Nat} {xs : Nat → Int32} {i K k ks : Nat} {g : GS} (hLs : Ls ≤ 3584) (hi : i + 7 ≤ Ls) (hK : K < 100000) (hk : k + 5 ≤ 601024) (hks : ks + 463 ≤ 7293034) (h : Rel K g) (hgo : ∀ g', Rel (K + 3) g' → JG Ls xs 3168 i g' (k + 5) (ks + 463)) : JG Ls xs 535 i g k ks := by
  refine Jl_aload_n (nx := 536) dL_law_535 rfl rfl ?_
  refine Jl_arg (nx := 542) (i := i) (j := 1) dL_law_536 dL_law_537 dL_law_539 dL_law_540 dL_law_541 rfl rfl rfl rfl hLs (by omega) ?_
  refine Jl_aload_n (nx := 543) dL_law_542 rfl rfl ?_
  refine Jl_callX (R' := rm 11 1 6) (As := [.ref 0, .int (xs (i + 1)), .ref 82]) (nx := 546) dL_law_543 rfl wl_kick lk_L_176 ws_kick rfl ⟨(Nat.le_of_ble_eq_true rfl), (Nat.le_of_ble_eq_true rfl)⟩ (Nat.le_of_ble_eq_true rfl) ⟨(show k + 1 ≤ 601024 by omega), (show ks + 6 ≤ 7293034 by omega)⟩ (cw_kick _ (al_kick h _)) (fun E es' z => by obtain ⟨_, _, z1, -⟩ := z; cases z1) (fun v es' hq => ?_)
  obtain ⟨kk, g3, z1, z2, vv, g1, w, z3, hw, hC⟩ := hq
  cases z1
  subst z2
  subst z3
  refine Jl.widen (k + 5) (ks + 463) (Nat.add_le_add_left (Nat.le_of_ble_eq_true rfl) k) (Nat.add_le_add_left (Nat.le_of_ble_eq_true rfl) ks) ?_
  refine Jl_istore (nx := 548) dL_law_546 rfl rfl (Nat.le_of_ble_eq_true rfl) ?_
  refine Jl_aload_n (nx := 549) dL_law_548 rfl rfl ?_
  refine Jl_arg (nx := 555) (i := i) (j := 1) dL_law_549 dL_law_550 dL_law_552 dL_law_553 dL_law_554 rfl rfl rfl rfl hLs (by omega) ?_
  refine Jl_callV (M' := mX12_kick) (R' := rm 2 0 0) (As := [.int (xs (i + 1))]) (nx := 558) dL_law_555 rfl ml_X12_kick lk_L_179 iv_X12_kick rfl rfl rfl ⟨(Nat.le_of_ble_eq_true rfl), (Nat.le_of_ble_eq_true rfl)⟩ (Nat.le_of_ble_eq_true rfl) ⟨hk, hks⟩ (hC w) (fun E es' z => by obtain ⟨_, _, z1, -⟩ := z; cases z1) (fun v es' hq => ?_)
  obtain ⟨x, g2, z1, z2, hth, hval, hR, hB⟩ := hq
  cases z1
  subst z2
  refine Jl_istore (nx := 560) dL_law_558 rfl rfl (Nat.le_of_ble_eq_true rfl) ?_
  refine Jl_aload_n (nx := 561) dL_law_560 rfl rfl ?_
  refine Jl_callV (M' := mX12_thrown) (R' := rm 0 0 0) (As := []) (nx := 564) dL_law_561 rfl ml_X12_thrown lk_L_159 iv_X12_thrown rfl rfl rfl ⟨(Nat.le_of_ble_eq_true rfl), (Nat.le_of_ble_eq_true rfl)⟩ (Nat.le_of_ble_eq_true rfl) ⟨hk, hks⟩ (ct_m_thrown _) (fun E es' z => by cases z.1) (fun v es' hq => ?_)
  obtain ⟨z1, z2⟩ := hq
  cases z1
  subst z2
  refine Jl_iload (nx := 566) dL_law_564 rfl rfl ?_
  refine Jl_icmp_eq (nx := 569) (tgt := 571) dL_law_566 rfl (by decide) (fun _ => ?_) (fun z => absurd hth z)
  refine Jl_iload (nx := 573) dL_law_571 rfl rfl ?_
  refine Jl_if_ne (nx := 576) (tgt := 588) dL_law_573 rfl (by decide) (fun hne => ?_) (fun he => ?_)
  · refine Jl_goto (nx := 3168) dL_law_588 (by decide) ?_
    exact Jl_kill (nx := 0) 5 (Jl_kill (nx := 0) 6 (hgo g2 (hR.up (by omega))))
  · refine Jl_aload_n (nx := 577) dL_law_576 rfl rfl ?_
    refine Jl_iconst (nx := 578) (v := 0) (by decide) dL_law_577 rfl ?_
    refine Jl_lald (nx := 579) (es := Wd g2) (a := 82) (n := 1) (f := gB g2 82) dL_law_578 rfl rfl (fun z => z.elim (by decide) (by decide)) ?_
    refine Jl_iload (nx := 581) dL_law_579 rfl rfl ?_
    refine Jl_i2l (nx := 582) dL_law_581 rfl ?_
    refine Jl_lcmp (nx := 583) dL_law_582 rfl ?_
    have hc0 : lg_cmp (gB g2 82 (0 : Int32).toNatClampNeg) x.toInt64 = 0 := by
      rw [hB]; show lg_cmp (w 0) x.toInt64 = 0; rw [hw he, hval he]; exact lg_cmp_self _
    refine Jl_if_eq (nx := 586) (tgt := 588) dL_law_583 rfl (by decide) (fun _ => ?_) (fun z => absurd hc0 z)
    refine Jl_goto (nx := 3168) dL_law_588 (by decide) ?_
    exact Jl_kill (nx := 0) 5 (Jl_kill (nx := 0) 6 (hgo g2 (hR.up (by omega))))
set_option maxRecDepth 100000 in
set_option maxHeartbeats 4000000 in
theorem lc_8 {Ls : Nat} {xs : Nat → Int32} {i K k ks : Nat} {g : GS} (hLs : Ls ≤ 3584) (hi : i + 7 ≤ Ls) (hK : K < 100000) (hk : k + 5 ≤ 601024) (hks : ks + 463 ≤ 7293034) (h : Rel K g) (hgo : ∀ g', Rel (K + 3) g' → JG Ls xs 3168 i g' (k + 5) (ks + 463)) : JG Ls xs 591 i g k ks := by
  refine Jl_aload_n (nx := 592) dL_law_591 rfl rfl ?_
  refine Jl_arg (nx := 598) (i := i) (j := 1) dL_law_592 dL_law_593 dL_law_595 dL_law_596 dL_law_597 rfl rfl rfl rfl hLs (by omega) ?_
  refine Jl_arg (nx := 604) (i := i) (j := 2) dL_law_598 dL_law_599 dL_law_601 dL_law_602 dL_law_603 rfl rfl rfl rfl hLs (by omega) ?_
  refine Jl_callX (R' := rm 11 1 6) (As := [.ref 0, .int (xs (i + 1)), .int (xs (i + 2))]) (nx := 607) dL_law_604 rfl wl_now lk_L_180 ws_now rfl ⟨(Nat.le_of_ble_eq_true rfl), (Nat.le_of_ble_eq_true rfl)⟩ (Nat.le_of_ble_eq_true rfl) ⟨(show k + 1 ≤ 601024 by omega), (show ks + 6 ≤ 7293034 by omega)⟩ (cw_now _ _ (al_now h _ _)) (fun E es' z => by obtain ⟨_, _, z1, -⟩ := z; cases z1) (fun v es' hq => ?_)
  obtain ⟨kk, g1, z1, z2, hC⟩ := hq
  cases z1
  subst z2
  refine Jl.widen (k + 5) (ks + 463) (Nat.add_le_add_left (Nat.le_of_ble_eq_true rfl) k) (Nat.add_le_add_left (Nat.le_of_ble_eq_true rfl) ks) ?_
  refine Jl_istore (nx := 609) dL_law_607 rfl rfl (Nat.le_of_ble_eq_true rfl) ?_
  refine Jl_aload_n (nx := 610) dL_law_609 rfl rfl ?_
  refine Jl_arg (nx := 616) (i := i) (j := 1) dL_law_610 dL_law_611 dL_law_613 dL_law_614 dL_law_615 rfl rfl rfl rfl hLs (by omega) ?_
  refine Jl_arg (nx := 622) (i := i) (j := 2) dL_law_616 dL_law_617 dL_law_619 dL_law_620 dL_law_621 rfl rfl rfl rfl hLs (by omega) ?_
  refine Jl_callV (M' := mX12_now) (R' := rm 2 0 0) (As := [.int (xs (i + 1)), .int (xs (i + 2))]) (nx := 625) dL_law_622 rfl ml_X12_now lk_L_183 iv_X12_now rfl rfl rfl ⟨(Nat.le_of_ble_eq_true rfl), (Nat.le_of_ble_eq_true rfl)⟩ (Nat.le_of_ble_eq_true rfl) ⟨hk, hks⟩ hC (fun E es' z => by obtain ⟨_, z1, -⟩ := z; cases z1) (fun v es' hq => ?_)
  obtain ⟨g2, z1, z2, hth, hR⟩ := hq
  cases z1
  subst z2
  refine Jl_aload_n (nx := 626) dL_law_625 rfl rfl ?_
  refine Jl_callV (M' := mX12_thrown) (R' := rm 0 0 0) (As := []) (nx := 629) dL_law_626 rfl ml_X12_thrown lk_L_159 iv_X12_thrown rfl rfl rfl ⟨(Nat.le_of_ble_eq_true rfl), (Nat.le_of_ble_eq_true rfl)⟩ (Nat.le_of_ble_eq_true rfl) ⟨hk, hks⟩ (ct_m_thrown _) (fun E es' z => by cases z.1) (fun v es' hq => ?_)
  obtain ⟨z1, z2⟩ := hq
  cases z1
  subst z2
  refine Jl_iload (nx := 631) dL_law_629 rfl rfl ?_
  refine Jl_icmp_eq (nx := 634) (tgt := 636) dL_law_631 rfl (by decide) (fun _ => ?_) (fun z => absurd hth z)
  refine Jl_goto (nx := 3168) dL_law_636 (by decide) ?_
  exact Jl_kill (nx := 0) 5 (Jl_kill (nx := 0) 6 (hgo g2 (hR.up (by omega))))
set_option maxRecDepth 100000 in
set_option maxHeartbeats 4000000 in
theorem lc_9 {Ls : Nat} {xs : Nat → Int32} {i K k ks : Nat} {g : GS} (hLs : Ls ≤ 3584) (hi : i + 7 ≤ Ls) (hK : K < 100000) (hk : k + 5 ≤ 601024) (hks : ks + 463 ≤ 7293034) (h : Rel K g) (hgo : ∀ g', Rel (K + 3) g' → JG Ls xs 3168 i g' (k + 5) (ks + 463)) : JG Ls xs 639 i g k ks := by
  refine Jl_aload_n (nx := 640) dL_law_639 rfl rfl ?_
  refine Jl_callV (M' := mX11_goal) (R' := rm 4 0 0) (As := []) (nx := 643) dL_law_640 rfl ml_X11_goal lk_L_184 iv_X11_goal rfl rfl rfl ⟨(Nat.le_of_ble_eq_true rfl), (Nat.le_of_ble_eq_true rfl)⟩ (Nat.le_of_ble_eq_true rfl) ⟨Nat.le_trans (Nat.le_add_right k 5) hk, Nat.le_trans (Nat.le_add_right ks 463) hks⟩ (al_goal h ) (fun E es' z => by obtain ⟨_, _, z1, -⟩ := z; cases z1) (fun v es' hq => ?_)
  obtain ⟨v1, g1, z1, z2, hC⟩ := hq
  cases z1
  subst z2
  refine Jl.widen (k + 5) (ks + 463) (Nat.add_le_add_left (Nat.le_of_ble_eq_true rfl) k) (Nat.add_le_add_left (Nat.le_of_ble_eq_true rfl) ks) ?_
  refine Jl_aload_n (nx := 644) dL_law_643 rfl rfl ?_
  refine Jl_callV (M' := mX12_goal) (R' := rm 4 0 0) (As := []) (nx := 647) dL_law_644 rfl ml_X12_goal lk_L_187 iv_X12_goal rfl rfl rfl ⟨(Nat.le_of_ble_eq_true rfl), (Nat.le_of_ble_eq_true rfl)⟩ (Nat.le_of_ble_eq_true rfl) ⟨hk, hks⟩ hC (fun E es' z => by obtain ⟨_, _, z1, -⟩ := z; cases z1) (fun v es' hq => ?_)
  obtain ⟨x, g2, z1, z2, hv, hR⟩ := hq
  cases z1
  subst z2
  refine Jl_icmp_eq (nx := 650) (tgt := 3168) dL_law_647 rfl (by decide) (fun _ => ?_) (fun z => absurd hv z)
  exact hgo g2 (hR.up (by omega))
set_option maxRecDepth 100000 in
set_option maxHeartbeats 4000000 in
theorem lc_10 {Ls : Nat} {xs : Nat → Int32} {i K k ks : Nat} {g : GS} (hLs : Ls ≤ 3584) (hi : i + 7 ≤ Ls) (hK : K < 100000) (hk : k + 5 ≤ 601024) (hks : ks + 463 ≤ 7293034) (h : Rel K g) (hgo : ∀ g', Rel (K + 3) g' → JG Ls xs 3168 i g' (k + 5) (ks + 463)) : JG Ls xs 652 i g k ks := by
  refine Jl_aload_n (nx := 653) dL_law_652 rfl rfl ?_
  refine Jl_arg (nx := 659) (i := i) (j := 1) dL_law_653 dL_law_654 dL_law_656 dL_law_657 dL_law_658 rfl rfl rfl rfl hLs (by omega) ?_
  refine Jl_callX (R' := rm 11 1 6) (As := [.ref 0, .int (xs (i + 1))]) (nx := 662) dL_law_659 rfl wl_lost lk_L_188 ws_lost rfl ⟨(Nat.le_of_ble_eq_true rfl), (Nat.le_of_ble_eq_true rfl)⟩ (Nat.le_of_ble_eq_true rfl) ⟨(show k + 1 ≤ 601024 by omega), (show ks + 6 ≤ 7293034 by omega)⟩ (cw_lost _ (al_lost h _)) (fun E es' z => by obtain ⟨_, _, z1, -⟩ := z; cases z1) (fun v es' hq => ?_)
  obtain ⟨kk, g1, z1, z2, hC⟩ := hq
  cases z1
  subst z2
  refine Jl.widen (k + 5) (ks + 463) (Nat.add_le_add_left (Nat.le_of_ble_eq_true rfl) k) (Nat.add_le_add_left (Nat.le_of_ble_eq_true rfl) ks) ?_
  refine Jl_istore (nx := 664) dL_law_662 rfl rfl (Nat.le_of_ble_eq_true rfl) ?_
  refine Jl_aload_n (nx := 665) dL_law_664 rfl rfl ?_
  refine Jl_arg (nx := 671) (i := i) (j := 1) dL_law_665 dL_law_666 dL_law_668 dL_law_669 dL_law_670 rfl rfl rfl rfl hLs (by omega) ?_
  refine Jl_callV (M' := mX12_lost) (R' := rm 2 0 0) (As := [.int (xs (i + 1))]) (nx := 674) dL_law_671 rfl ml_X12_lost lk_L_191 iv_X12_lost rfl rfl rfl ⟨(Nat.le_of_ble_eq_true rfl), (Nat.le_of_ble_eq_true rfl)⟩ (Nat.le_of_ble_eq_true rfl) ⟨hk, hks⟩ hC (fun E es' z => by obtain ⟨_, z1, -⟩ := z; cases z1) (fun v es' hq => ?_)
  obtain ⟨g2, z1, z2, hth, hR⟩ := hq
  cases z1
  subst z2
  refine Jl_aload_n (nx := 675) dL_law_674 rfl rfl ?_
  refine Jl_callV (M' := mX12_thrown) (R' := rm 0 0 0) (As := []) (nx := 678) dL_law_675 rfl ml_X12_thrown lk_L_159 iv_X12_thrown rfl rfl rfl ⟨(Nat.le_of_ble_eq_true rfl), (Nat.le_of_ble_eq_true rfl)⟩ (Nat.le_of_ble_eq_true rfl) ⟨hk, hks⟩ (ct_m_thrown _) (fun E es' z => by cases z.1) (fun v es' hq => ?_)
  obtain ⟨z1, z2⟩ := hq
  cases z1
  subst z2
  refine Jl_iload (nx := 680) dL_law_678 rfl rfl ?_
  refine Jl_icmp_eq (nx := 683) (tgt := 685) dL_law_680 rfl (by decide) (fun _ => ?_) (fun z => absurd hth z)
  refine Jl_goto (nx := 3168) dL_law_685 (by decide) ?_
  exact Jl_kill (nx := 0) 5 (Jl_kill (nx := 0) 6 (hgo g2 (hR.up (by omega))))
set_option maxRecDepth 100000 in
set_option maxHeartbeats 4000000 in
theorem lc_11 {Ls : Nat} {xs : Nat → Int32} {i K k ks : Nat} {g : GS} (hLs : Ls ≤ 3584) (hi : i + 7 ≤ Ls) (hK : K < 100000) (hk : k + 5 ≤ 601024) (hks : ks + 463 ≤ 7293034) (h : Rel K g) (hgo : ∀ g', Rel (K + 3) g' → JG Ls xs 3168 i g' (k + 5) (ks + 463)) : JG Ls xs 688 i g k ks := by
  refine Jl_aload_n (nx := 689) dL_law_688 rfl rfl ?_
  refine Jl_arg (nx := 695) (i := i) (j := 1) dL_law_689 dL_law_690 dL_law_692 dL_law_693 dL_law_694 rfl rfl rfl rfl hLs (by omega) ?_
  refine Jl_callX (R' := rm 11 1 6) (As := [.ref 0, .int (xs (i + 1))]) (nx := 698) dL_law_695 rfl wl_horizon lk_L_192 ws_horizon rfl ⟨(Nat.le_of_ble_eq_true rfl), (Nat.le_of_ble_eq_true rfl)⟩ (Nat.le_of_ble_eq_true rfl) ⟨(show k + 1 ≤ 601024 by omega), (show ks + 6 ≤ 7293034 by omega)⟩ (cw_horizon _ (al_horizon h _)) (fun E es' z => by obtain ⟨_, _, z1, -⟩ := z; cases z1) (fun v es' hq => ?_)
  obtain ⟨kk, g1, z1, z2, hC⟩ := hq
  cases z1
  subst z2
  refine Jl.widen (k + 5) (ks + 463) (Nat.add_le_add_left (Nat.le_of_ble_eq_true rfl) k) (Nat.add_le_add_left (Nat.le_of_ble_eq_true rfl) ks) ?_
  refine Jl_istore (nx := 700) dL_law_698 rfl rfl (Nat.le_of_ble_eq_true rfl) ?_
  refine Jl_aload_n (nx := 701) dL_law_700 rfl rfl ?_
  refine Jl_arg (nx := 707) (i := i) (j := 1) dL_law_701 dL_law_702 dL_law_704 dL_law_705 dL_law_706 rfl rfl rfl rfl hLs (by omega) ?_
  refine Jl_callV (M' := mX12_horizon) (R' := rm 2 0 0) (As := [.int (xs (i + 1))]) (nx := 710) dL_law_707 rfl ml_X12_horizon lk_L_194 iv_X12_horizon rfl rfl rfl ⟨(Nat.le_of_ble_eq_true rfl), (Nat.le_of_ble_eq_true rfl)⟩ (Nat.le_of_ble_eq_true rfl) ⟨hk, hks⟩ hC (fun E es' z => by obtain ⟨_, z1, -⟩ := z; cases z1) (fun v es' hq => ?_)
  obtain ⟨g2, z1, z2, hth, hR⟩ := hq
  cases z1
  subst z2
  refine Jl_aload_n (nx := 711) dL_law_710 rfl rfl ?_
  refine Jl_callV (M' := mX12_thrown) (R' := rm 0 0 0) (As := []) (nx := 714) dL_law_711 rfl ml_X12_thrown lk_L_159 iv_X12_thrown rfl rfl rfl ⟨(Nat.le_of_ble_eq_true rfl), (Nat.le_of_ble_eq_true rfl)⟩ (Nat.le_of_ble_eq_true rfl) ⟨hk, hks⟩ (ct_m_thrown _) (fun E es' z => by cases z.1) (fun v es' hq => ?_)
  obtain ⟨z1, z2⟩ := hq
  cases z1
  subst z2
  refine Jl_iload (nx := 716) dL_law_714 rfl rfl ?_
  refine Jl_icmp_eq (nx := 719) (tgt := 721) dL_law_716 rfl (by decide) (fun _ => ?_) (fun z => absurd hth z)
  refine Jl_goto (nx := 3168) dL_law_721 (by decide) ?_
  exact Jl_kill (nx := 0) 5 (Jl_kill (nx := 0) 6 (hgo g2 (hR.up (by omega))))
set_option maxRecDepth 100000 in
set_option maxHeartbeats 4000000 in
theorem lc_12 {Ls : Nat} {xs : Nat → Int32} {i K k ks : Nat} {g : GS} (hLs : Ls ≤ 3584) (hi : i + 7 ≤ Ls) (hK : K < 100000) (hk : k + 5 ≤ 601024) (hks : ks + 463 ≤ 7293034) (h : Rel K g) (hgo : ∀ g', Rel (K + 3) g' → JG Ls xs 3168 i g' (k + 5) (ks + 463)) : JG Ls xs 724 i g k ks := by
  refine Jl_aload_n (nx := 725) dL_law_724 rfl rfl ?_
  refine Jl_arg (nx := 731) (i := i) (j := 1) dL_law_725 dL_law_726 dL_law_728 dL_law_729 dL_law_730 rfl rfl rfl rfl hLs (by omega) ?_
  refine Jl_callX (R' := rm 11 1 6) (As := [.ref 0, .int (xs (i + 1))]) (nx := 734) dL_law_731 rfl wl_grace lk_L_195 ws_grace rfl ⟨(Nat.le_of_ble_eq_true rfl), (Nat.le_of_ble_eq_true rfl)⟩ (Nat.le_of_ble_eq_true rfl) ⟨(show k + 1 ≤ 601024 by omega), (show ks + 6 ≤ 7293034 by omega)⟩ (cw_grace _ (al_grace h _)) (fun E es' z => by obtain ⟨_, _, z1, -⟩ := z; cases z1) (fun v es' hq => ?_)
  obtain ⟨kk, g1, z1, z2, hC⟩ := hq
  cases z1
  subst z2
  refine Jl.widen (k + 5) (ks + 463) (Nat.add_le_add_left (Nat.le_of_ble_eq_true rfl) k) (Nat.add_le_add_left (Nat.le_of_ble_eq_true rfl) ks) ?_
  refine Jl_istore (nx := 736) dL_law_734 rfl rfl (Nat.le_of_ble_eq_true rfl) ?_
  refine Jl_aload_n (nx := 737) dL_law_736 rfl rfl ?_
  refine Jl_arg (nx := 743) (i := i) (j := 1) dL_law_737 dL_law_738 dL_law_740 dL_law_741 dL_law_742 rfl rfl rfl rfl hLs (by omega) ?_
  refine Jl_callV (M' := mX12_grace) (R' := rm 2 0 0) (As := [.int (xs (i + 1))]) (nx := 746) dL_law_743 rfl ml_X12_grace lk_L_197 iv_X12_grace rfl rfl rfl ⟨(Nat.le_of_ble_eq_true rfl), (Nat.le_of_ble_eq_true rfl)⟩ (Nat.le_of_ble_eq_true rfl) ⟨hk, hks⟩ hC (fun E es' z => by obtain ⟨_, z1, -⟩ := z; cases z1) (fun v es' hq => ?_)
  obtain ⟨g2, z1, z2, hth, hR⟩ := hq
  cases z1
  subst z2
  refine Jl_aload_n (nx := 747) dL_law_746 rfl rfl ?_
  refine Jl_callV (M' := mX12_thrown) (R' := rm 0 0 0) (As := []) (nx := 750) dL_law_747 rfl ml_X12_thrown lk_L_159 iv_X12_thrown rfl rfl rfl ⟨(Nat.le_of_ble_eq_true rfl), (Nat.le_of_ble_eq_true rfl)⟩ (Nat.le_of_ble_eq_true rfl) ⟨hk, hks⟩ (ct_m_thrown _) (fun E es' z => by cases z.1) (fun v es' hq => ?_)
  obtain ⟨z1, z2⟩ := hq
  cases z1
  subst z2
  refine Jl_iload (nx := 752) dL_law_750 rfl rfl ?_
  refine Jl_icmp_eq (nx := 755) (tgt := 757) dL_law_752 rfl (by decide) (fun _ => ?_) (fun z => absurd hth z)
  refine Jl_goto (nx := 3168) dL_law_757 (by decide) ?_
  exact Jl_kill (nx := 0) 5 (Jl_kill (nx := 0) 6 (hgo g2 (hR.up (by omega))))
