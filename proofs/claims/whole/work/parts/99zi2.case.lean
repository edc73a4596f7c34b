/-! the law's cases -/
set_option maxRecDepth 100000 in
set_option maxHeartbeats 4000000 in
theorem lc_13 {Ls : Nat} {xs : Nat → Int32} {i K k ks : Nat} {g : GS} (hLs : Ls ≤ 3584) (hi : i + 7 ≤ Ls) (hK : K < 100000) (hk : k + 5 ≤ 601024) (hks : ks + 463 ≤ 7293034) (h : Rel K g) (hgo : ∀ g', Rel (K + 3) g' → JG Ls xs 3168 i g' (k + 5) (ks + 463)) : JG Ls xs 760 i g k ks := by
  refine Jl_aload_n (nx := 761) dL_law_760 rfl rfl ?_
  refine Jl_arg (nx := 767) (i := i) (j := 1) dL_law_761 dL_law_762 dL_law_764 dL_law_765 dL_law_766 rfl rfl rfl rfl hLs (by omega) ?_
  refine Jl_arg (nx := 773) (i := i) (j := 2) dL_law_767 dL_law_768 dL_law_770 dL_law_771 dL_law_772 rfl rfl rfl rfl hLs (by omega) ?_
  refine Jl_aload_n (nx := 774) dL_law_773 rfl rfl ?_
  refine Jl_callX (R' := rm 11 2 12) (As := [.ref 0, .int (xs (i + 1)), .int (xs (i + 2)), .ref 82]) (nx := 777) dL_law_774 rfl wl_sort lk_L_198 ws_sort rfl ⟨(Nat.le_of_ble_eq_true rfl), (Nat.le_of_ble_eq_true rfl)⟩ (Nat.le_of_ble_eq_true rfl) ⟨(show k + 2 ≤ 601024 by omega), (show ks + 12 ≤ 7293034 by omega)⟩ (cw_sort _ _ (al_sort h _ _)) (fun E es' z => by obtain ⟨_, _, z1, -⟩ := z; cases z1) (fun v es' hq => ?_)
  obtain ⟨kk, g3, z1, z2, vv, g1, w, z3, hw, hC⟩ := hq
  cases z1
  subst z2
  subst z3
  refine Jl.widen (k + 5) (ks + 463) (Nat.add_le_add_left (Nat.le_of_ble_eq_true rfl) k) (Nat.add_le_add_left (Nat.le_of_ble_eq_true rfl) ks) ?_
  refine Jl_istore (nx := 779) dL_law_777 rfl rfl (Nat.le_of_ble_eq_true rfl) ?_
  refine Jl_aload_n (nx := 780) dL_law_779 rfl rfl ?_
  refine Jl_arg (nx := 786) (i := i) (j := 1) dL_law_780 dL_law_781 dL_law_783 dL_law_784 dL_law_785 rfl rfl rfl rfl hLs (by omega) ?_
  refine Jl_arg (nx := 792) (i := i) (j := 2) dL_law_786 dL_law_787 dL_law_789 dL_law_790 dL_law_791 rfl rfl rfl rfl hLs (by omega) ?_
  refine Jl_callV (M' := mX12_sort) (R' := rm 2 0 0) (As := [.int (xs (i + 1)), .int (xs (i + 2))]) (nx := 795) dL_law_792 rfl ml_X12_sort lk_L_200 iv_X12_sort rfl rfl rfl ⟨(Nat.le_of_ble_eq_true rfl), (Nat.le_of_ble_eq_true rfl)⟩ (Nat.le_of_ble_eq_true rfl) ⟨hk, hks⟩ (hC w) (fun E es' z => by obtain ⟨_, _, z1, -⟩ := z; cases z1) (fun v es' hq => ?_)
  obtain ⟨x, g2, z1, z2, hth, hval, hR, hB⟩ := hq
  cases z1
  subst z2
  refine Jl_istore (nx := 797) dL_law_795 rfl rfl (Nat.le_of_ble_eq_true rfl) ?_
  refine Jl_aload_n (nx := 798) dL_law_797 rfl rfl ?_
  refine Jl_callV (M' := mX12_thrown) (R' := rm 0 0 0) (As := []) (nx := 801) dL_law_798 rfl ml_X12_thrown lk_L_159 iv_X12_thrown rfl rfl rfl ⟨(Nat.le_of_ble_eq_true rfl), (Nat.le_of_ble_eq_true rfl)⟩ (Nat.le_of_ble_eq_true rfl) ⟨hk, hks⟩ (ct_m_thrown _) (fun E es' z => by cases z.1) (fun v es' hq => ?_)
  obtain ⟨z1, z2⟩ := hq
  cases z1
  subst z2
  refine Jl_iload (nx := 803) dL_law_801 rfl rfl ?_
  refine Jl_icmp_eq (nx := 806) (tgt := 808) dL_law_803 rfl (by decide) (fun _ => ?_) (fun z => absurd hth z)
  refine Jl_iload (nx := 810) dL_law_808 rfl rfl ?_
  refine Jl_if_ne (nx := 813) (tgt := 825) dL_law_810 rfl (by decide) (fun hne => ?_) (fun he => ?_)
  · refine Jl_goto (nx := 3168) dL_law_825 (by decide) ?_
    exact Jl_kill (nx := 0) 5 (Jl_kill (nx := 0) 6 (hgo g2 (hR.up (by omega))))
  · refine Jl_aload_n (nx := 814) dL_law_813 rfl rfl ?_
    refine Jl_iconst (nx := 815) (v := 0) (by decide) dL_law_814 rfl ?_
    refine Jl_lald (nx := 816) (es := Wd g2) (a := 82) (n := 1) (f := gB g2 82) dL_law_815 rfl rfl (fun z => z.elim (by decide) (by decide)) ?_
    refine Jl_iload (nx := 818) dL_law_816 rfl rfl ?_
    refine Jl_i2l (nx := 819) dL_law_818 rfl ?_
    refine Jl_lcmp (nx := 820) dL_law_819 rfl ?_
    have hc0 : lg_cmp (gB g2 82 (0 : Int32).toNatClampNeg) x.toInt64 = 0 := by
      rw [hB]; show lg_cmp (w 0) x.toInt64 = 0; rw [hw he, hval he]; exact lg_cmp_self _
    refine Jl_if_eq (nx := 823) (tgt := 825) dL_law_820 rfl (by decide) (fun _ => ?_) (fun z => absurd hc0 z)
    refine Jl_goto (nx := 3168) dL_law_825 (by decide) ?_
    exact Jl_kill (nx := 0) 5 (Jl_kill (nx := 0) 6 (hgo g2 (hR.up (by omega))))
set_option maxRecDepth 100000 in
set_option maxHeartbeats 4000000 in
theorem lc_14 {Ls : Nat} {xs : Nat → Int32} {i K k ks : Nat} {g : GS} (hLs : Ls ≤ 3584) (hi : i + 7 ≤ Ls) (hK : K < 100000) (hk : k + 5 ≤ 601024) (hks : ks + 463 ≤ 7293034) (h : Rel K g) (hgo : ∀ g', Rel (K + 3) g' → JG Ls xs 3168 i g' (k + 5) (ks + 463)) : JG Ls xs 828 i g k ks := by
  refine Jl_aload_n (nx := 829) dL_law_828 rfl rfl ?_
  refine Jl_arg (nx := 835) (i := i) (j := 1) dL_law_829 dL_law_830 dL_law_832 dL_law_833 dL_law_834 rfl rfl rfl rfl hLs (by omega) ?_
  refine Jl_callX (R' := rm 11 1 6) (As := [.ref 0, .int (xs (i + 1))]) (nx := 838) dL_law_835 rfl wl_patience lk_L_201 ws_patience rfl ⟨(Nat.le_of_ble_eq_true rfl), (Nat.le_of_ble_eq_true rfl)⟩ (Nat.le_of_ble_eq_true rfl) ⟨(show k + 1 ≤ 601024 by omega), (show ks + 6 ≤ 7293034 by omega)⟩ (cw_patience _ (al_patience h _)) (fun E es' z => by obtain ⟨_, _, z1, -⟩ := z; cases z1) (fun v es' hq => ?_)
  obtain ⟨kk, g1, z1, z2, hC⟩ := hq
  cases z1
  subst z2
  refine Jl.widen (k + 5) (ks + 463) (Nat.add_le_add_left (Nat.le_of_ble_eq_true rfl) k) (Nat.add_le_add_left (Nat.le_of_ble_eq_true rfl) ks) ?_
  refine Jl_istore (nx := 840) dL_law_838 rfl rfl (Nat.le_of_ble_eq_true rfl) ?_
  refine Jl_aload_n (nx := 841) dL_law_840 rfl rfl ?_
  refine Jl_arg (nx := 847) (i := i) (j := 1) dL_law_841 dL_law_842 dL_law_844 dL_law_845 dL_law_846 rfl rfl rfl rfl hLs (by omega) ?_
  refine Jl_callV (M' := mX12_patience) (R' := rm 2 0 0) (As := [.int (xs (i + 1))]) (nx := 850) dL_law_847 rfl ml_X12_patience lk_L_203 iv_X12_patience rfl rfl rfl ⟨(Nat.le_of_ble_eq_true rfl), (Nat.le_of_ble_eq_true rfl)⟩ (Nat.le_of_ble_eq_true rfl) ⟨hk, hks⟩ hC (fun E es' z => by obtain ⟨_, z1, -⟩ := z; cases z1) (fun v es' hq => ?_)
  obtain ⟨g2, z1, z2, hth, hR⟩ := hq
  cases z1
  subst z2
  refine Jl_aload_n (nx := 851) dL_law_850 rfl rfl ?_
  refine Jl_callV (M' := mX12_thrown) (R' := rm 0 0 0) (As := []) (nx := 854) dL_law_851 rfl ml_X12_thrown lk_L_159 iv_X12_thrown rfl rfl rfl ⟨(Nat.le_of_ble_eq_true rfl), (Nat.le_of_ble_eq_true rfl)⟩ (Nat.le_of_ble_eq_true rfl) ⟨hk, hks⟩ (ct_m_thrown _) (fun E es' z => by cases z.1) (fun v es' hq => ?_)
  obtain ⟨z1, z2⟩ := hq
  cases z1
  subst z2
  refine Jl_iload (nx := 856) dL_law_854 rfl rfl ?_
  refine Jl_icmp_eq (nx := 859) (tgt := 861) dL_law_856 rfl (by decide) (fun _ => ?_) (fun z => absurd hth z)
  refine Jl_goto (nx := 3168) dL_law_861 (by decide) ?_
  exact Jl_kill (nx := 0) 5 (Jl_kill (nx := 0) 6 (hgo g2 (hR.up (by omega))))
set_option maxRecDepth 100000 in
set_option maxHeartbeats 4000000 in
theorem lc_15 {Ls : Nat} {xs : Nat → Int32} {i K k ks : Nat} {g : GS} (hLs : Ls ≤ 3584) (hi : i + 7 ≤ Ls) (hK : K < 100000) (hk : k + 5 ≤ 601024) (hks : ks + 463 ≤ 7293034) (h : Rel K g) (hgo : ∀ g', Rel (K + 3) g' → JG Ls xs 3168 i g' (k + 5) (ks + 463)) : JG Ls xs 864 i g k ks := by
  refine Jl_aload_n (nx := 865) dL_law_864 rfl rfl ?_
  refine Jl_arg (nx := 871) (i := i) (j := 1) dL_law_865 dL_law_866 dL_law_868 dL_law_869 dL_law_870 rfl rfl rfl rfl hLs (by omega) ?_
  refine Jl_arg (nx := 877) (i := i) (j := 2) dL_law_871 dL_law_872 dL_law_874 dL_law_875 dL_law_876 rfl rfl rfl rfl hLs (by omega) ?_
  refine Jl_aload_n (nx := 878) dL_law_877 rfl rfl ?_
  refine Jl_callX (R' := rm 11 2 12) (As := [.ref 0, .int (xs (i + 1)), .int (xs (i + 2)), .ref 82]) (nx := 881) dL_law_878 rfl wl_worth lk_L_204 ws_worth rfl ⟨(Nat.le_of_ble_eq_true rfl), (Nat.le_of_ble_eq_true rfl)⟩ (Nat.le_of_ble_eq_true rfl) ⟨(show k + 2 ≤ 601024 by omega), (show ks + 12 ≤ 7293034 by omega)⟩ (cw_worth _ _ (al_worth h _ _)) (fun E es' z => by obtain ⟨_, _, z1, -⟩ := z; cases z1) (fun v es' hq => ?_)
  obtain ⟨kk, g3, z1, z2, vv, g1, w, z3, hw, hC⟩ := hq
  cases z1
  subst z2
  subst z3
  refine Jl.widen (k + 5) (ks + 463) (Nat.add_le_add_left (Nat.le_of_ble_eq_true rfl) k) (Nat.add_le_add_left (Nat.le_of_ble_eq_true rfl) ks) ?_
  refine Jl_istore (nx := 883) dL_law_881 rfl rfl (Nat.le_of_ble_eq_true rfl) ?_
  refine Jl_aload_n (nx := 884) dL_law_883 rfl rfl ?_
  refine Jl_arg (nx := 890) (i := i) (j := 1) dL_law_884 dL_law_885 dL_law_887 dL_law_888 dL_law_889 rfl rfl rfl rfl hLs (by omega) ?_
  refine Jl_arg (nx := 896) (i := i) (j := 2) dL_law_890 dL_law_891 dL_law_893 dL_law_894 dL_law_895 rfl rfl rfl rfl hLs (by omega) ?_
  refine Jl_callV (M' := mX12_worth) (R' := rm 5 0 0) (As := [.int (xs (i + 1)), .int (xs (i + 2))]) (nx := 899) dL_law_896 rfl ml_X12_worth lk_L_206 iv_X12_worth rfl rfl rfl ⟨(Nat.le_of_ble_eq_true rfl), (Nat.le_of_ble_eq_true rfl)⟩ (Nat.le_of_ble_eq_true rfl) ⟨hk, hks⟩ (hC w) (fun E es' z => by obtain ⟨_, _, z1, -⟩ := z; cases z1) (fun v es' hq => ?_)
  obtain ⟨x, g2, z1, z2, hth, hval, hR, hB⟩ := hq
  cases z1
  subst z2
  refine Jl_lstore (nx := 901) dL_law_899 rfl rfl (Nat.le_of_ble_eq_true rfl) ?_
  refine Jl_aload_n (nx := 902) dL_law_901 rfl rfl ?_
  refine Jl_callV (M' := mX12_thrown) (R' := rm 0 0 0) (As := []) (nx := 905) dL_law_902 rfl ml_X12_thrown lk_L_159 iv_X12_thrown rfl rfl rfl ⟨(Nat.le_of_ble_eq_true rfl), (Nat.le_of_ble_eq_true rfl)⟩ (Nat.le_of_ble_eq_true rfl) ⟨hk, hks⟩ (ct_m_thrown _) (fun E es' z => by cases z.1) (fun v es' hq => ?_)
  obtain ⟨z1, z2⟩ := hq
  cases z1
  subst z2
  refine Jl_iload (nx := 907) dL_law_905 rfl rfl ?_
  refine Jl_icmp_eq (nx := 910) (tgt := 912) dL_law_907 rfl (by decide) (fun _ => ?_) (fun z => absurd hth z)
  refine Jl_iload (nx := 914) dL_law_912 rfl rfl ?_
  refine Jl_if_ne (nx := 917) (tgt := 928) dL_law_914 rfl (by decide) (fun hne => ?_) (fun he => ?_)
  · refine Jl_goto (nx := 3168) dL_law_928 (by decide) ?_
    exact Jl_kill (nx := 0) 5 (Jl_kill (nx := 0) 6 (hgo g2 (hR.up (by omega))))
  · refine Jl_aload_n (nx := 918) dL_law_917 rfl rfl ?_
    refine Jl_iconst (nx := 919) (v := 0) (by decide) dL_law_918 rfl ?_
    refine Jl_lald (nx := 920) (es := Wd g2) (a := 82) (n := 1) (f := gB g2 82) dL_law_919 rfl rfl (fun z => z.elim (by decide) (by decide)) ?_
    refine Jl_lload (nx := 922) dL_law_920 rfl rfl ?_
    refine Jl_lcmp (nx := 923) dL_law_922 rfl ?_
    have hc0 : lg_cmp (gB g2 82 (0 : Int32).toNatClampNeg) x = 0 := by
      rw [hB]; show lg_cmp (w 0) x = 0; rw [hw he, hval he]; exact lg_cmp_self _
    refine Jl_if_eq (nx := 926) (tgt := 928) dL_law_923 rfl (by decide) (fun _ => ?_) (fun z => absurd hc0 z)
    refine Jl_goto (nx := 3168) dL_law_928 (by decide) ?_
    exact Jl_kill (nx := 0) 5 (Jl_kill (nx := 0) 6 (hgo g2 (hR.up (by omega))))
set_option maxRecDepth 100000 in
set_option maxHeartbeats 4000000 in
theorem lc_16 {Ls : Nat} {xs : Nat → Int32} {i K k ks : Nat} {g : GS} (hLs : Ls ≤ 3584) (hi : i + 7 ≤ Ls) (hK : K < 100000) (hk : k + 5 ≤ 601024) (hks : ks + 463 ≤ 7293034) (h : Rel K g) (hgo : ∀ g', Rel (K + 3) g' → JG Ls xs 3168 i g' (k + 5) (ks + 463)) : JG Ls xs 931 i g k ks := by
  refine Jl_aload_n (nx := 932) dL_law_931 rfl rfl ?_
  refine Jl_arg (nx := 938) (i := i) (j := 1) dL_law_932 dL_law_933 dL_law_935 dL_law_936 dL_law_937 rfl rfl rfl rfl hLs (by omega) ?_
  refine Jl_arg (nx := 944) (i := i) (j := 2) dL_law_938 dL_law_939 dL_law_941 dL_law_942 dL_law_943 rfl rfl rfl rfl hLs (by omega) ?_
  refine Jl_arg (nx := 950) (i := i) (j := 3) dL_law_944 dL_law_945 dL_law_947 dL_law_948 dL_law_949 rfl rfl rfl rfl hLs (by omega) ?_
  refine Jl_if_eq (nx := 953) (tgt := 957) dL_law_950 rfl (by decide) (fun hb => ?_) (fun hb => ?_)
  · refine Jl_iconst (nx := 958) (v := 0) (by decide) dL_law_957 rfl ?_
    refine Jl_aload_n (nx := 959) dL_law_958 rfl rfl ?_
    refine Jl_callX (R' := rm 11 1 6) (As := [.ref 0, .int (xs (i + 1)), .int (xs (i + 2)), .int (bI false), .ref 82]) (nx := 962) dL_law_959 rfl wl_stop lk_L_207 ws_stop rfl ⟨(Nat.le_of_ble_eq_true rfl), (Nat.le_of_ble_eq_true rfl)⟩ (Nat.le_of_ble_eq_true rfl) ⟨(show k + 1 ≤ 601024 by omega), (show ks + 6 ≤ 7293034 by omega)⟩ (cw_stop _ _ _ (al_stop h _ _ _)) (fun E es' z => by obtain ⟨_, _, z1, -⟩ := z; cases z1) (fun v es' hq => ?_)
    obtain ⟨kk, g3, z1, z2, vv, g1, w, z3, hw, hC⟩ := hq
    cases z1
    subst z2
    subst z3
    refine Jl.widen (k + 5) (ks + 463) (Nat.add_le_add_left (Nat.le_of_ble_eq_true rfl) k) (Nat.add_le_add_left (Nat.le_of_ble_eq_true rfl) ks) ?_
    refine Jl_istore (nx := 964) dL_law_962 rfl rfl (Nat.le_of_ble_eq_true rfl) ?_
    refine Jl_aload_n (nx := 965) dL_law_964 rfl rfl ?_
    refine Jl_arg (nx := 971) (i := i) (j := 1) dL_law_965 dL_law_966 dL_law_968 dL_law_969 dL_law_970 rfl rfl rfl rfl hLs (by omega) ?_
    refine Jl_arg (nx := 977) (i := i) (j := 2) dL_law_971 dL_law_972 dL_law_974 dL_law_975 dL_law_976 rfl rfl rfl rfl hLs (by omega) ?_
    refine Jl_arg (nx := 983) (i := i) (j := 3) dL_law_977 dL_law_978 dL_law_980 dL_law_981 dL_law_982 rfl rfl rfl rfl hLs (by omega) ?_
    refine Jl_if_eq (nx := 986) (tgt := 990) dL_law_983 rfl (by decide) (fun _ => ?_) (fun z => absurd hb z)
    refine Jl_iconst (nx := 991) (v := 0) (by decide) dL_law_990 rfl ?_
    refine Jl_callV (M' := mX12_stop) (R' := rm 4 0 0) (As := [.int (xs (i + 1)), .int (xs (i + 2)), .int (bI false)]) (nx := 994) dL_law_991 rfl ml_X12_stop lk_L_210 iv_X12_stop rfl rfl rfl ⟨(Nat.le_of_ble_eq_true rfl), (Nat.le_of_ble_eq_true rfl)⟩ (Nat.le_of_ble_eq_true rfl) ⟨hk, hks⟩ (hC w) (fun E es' z => by obtain ⟨_, _, z1, -⟩ := z; cases z1) (fun v es' hq => ?_)
    obtain ⟨x, g2, z1, z2, hth, hval, hR, hB⟩ := hq
    cases z1
    subst z2
    refine Jl_istore (nx := 996) dL_law_994 rfl rfl (Nat.le_of_ble_eq_true rfl) ?_
    refine Jl_aload_n (nx := 997) dL_law_996 rfl rfl ?_
    refine Jl_callV (M' := mX12_thrown) (R' := rm 0 0 0) (As := []) (nx := 1000) dL_law_997 rfl ml_X12_thrown lk_L_159 iv_X12_thrown rfl rfl rfl ⟨(Nat.le_of_ble_eq_true rfl), (Nat.le_of_ble_eq_true rfl)⟩ (Nat.le_of_ble_eq_true rfl) ⟨hk, hks⟩ (ct_m_thrown _) (fun E es' z => by cases z.1) (fun v es' hq => ?_)
    obtain ⟨z1, z2⟩ := hq
    cases z1
    subst z2
    refine Jl_iload (nx := 1002) dL_law_1000 rfl rfl ?_
    refine Jl_icmp_eq (nx := 1005) (tgt := 1007) dL_law_1002 rfl (by decide) (fun _ => ?_) (fun z => absurd hth z)
    refine Jl_iload (nx := 1009) dL_law_1007 rfl rfl ?_
    refine Jl_if_ne (nx := 1012) (tgt := 1024) dL_law_1009 rfl (by decide) (fun hne => ?_) (fun he => ?_)
    · refine Jl_goto (nx := 3168) dL_law_1024 (by decide) ?_
      exact Jl_kill (nx := 0) 5 (Jl_kill (nx := 0) 6 (hgo g2 (hR.up (by omega))))
    · refine Jl_aload_n (nx := 1013) dL_law_1012 rfl rfl ?_
      refine Jl_iconst (nx := 1014) (v := 0) (by decide) dL_law_1013 rfl ?_
      refine Jl_lald (nx := 1015) (es := Wd g2) (a := 82) (n := 1) (f := gB g2 82) dL_law_1014 rfl rfl (fun z => z.elim (by decide) (by decide)) ?_
      refine Jl_iload (nx := 1017) dL_law_1015 rfl rfl ?_
      refine Jl_i2l (nx := 1018) dL_law_1017 rfl ?_
      refine Jl_lcmp (nx := 1019) dL_law_1018 rfl ?_
      have hc0 : lg_cmp (gB g2 82 (0 : Int32).toNatClampNeg) x.toInt64 = 0 := by
        rw [hB]; show lg_cmp (w 0) x.toInt64 = 0; rw [hw he, hval he]; exact lg_cmp_self _
      refine Jl_if_eq (nx := 1022) (tgt := 1024) dL_law_1019 rfl (by decide) (fun _ => ?_) (fun z => absurd hc0 z)
      refine Jl_goto (nx := 3168) dL_law_1024 (by decide) ?_
      exact Jl_kill (nx := 0) 5 (Jl_kill (nx := 0) 6 (hgo g2 (hR.up (by omega))))
  · refine Jl_iconst (nx := 954) (v := 1) (by decide) dL_law_953 rfl ?_
    refine Jl_goto (nx := 958) dL_law_954 (by decide) ?_
    refine Jl_aload_n (nx := 959) dL_law_958 rfl rfl ?_
    refine Jl_callX (R' := rm 11 1 6) (As := [.ref 0, .int (xs (i + 1)), .int (xs (i + 2)), .int (bI true), .ref 82]) (nx := 962) dL_law_959 rfl wl_stop lk_L_207 ws_stop rfl ⟨(Nat.le_of_ble_eq_true rfl), (Nat.le_of_ble_eq_true rfl)⟩ (Nat.le_of_ble_eq_true rfl) ⟨(show k + 1 ≤ 601024 by omega), (show ks + 6 ≤ 7293034 by omega)⟩ (cw_stop _ _ _ (al_stop h _ _ _)) (fun E es' z => by obtain ⟨_, _, z1, -⟩ := z; cases z1) (fun v es' hq => ?_)
    obtain ⟨kk, g3, z1, z2, vv, g1, w, z3, hw, hC⟩ := hq
    cases z1
    subst z2
    subst z3
    refine Jl.widen (k + 5) (ks + 463) (Nat.add_le_add_left (Nat.le_of_ble_eq_true rfl) k) (Nat.add_le_add_left (Nat.le_of_ble_eq_true rfl) ks) ?_
    refine Jl_istore (nx := 964) dL_law_962 rfl rfl (Nat.le_of_ble_eq_true rfl) ?_
    refine Jl_aload_n (nx := 965) dL_law_964 rfl rfl ?_
    refine Jl_arg (nx := 971) (i := i) (j := 1) dL_law_965 dL_law_966 dL_law_968 dL_law_969 dL_law_970 rfl rfl rfl rfl hLs (by omega) ?_
    refine Jl_arg (nx := 977) (i := i) (j := 2) dL_law_971 dL_law_972 dL_law_974 dL_law_975 dL_law_976 rfl rfl rfl rfl hLs (by omega) ?_
    refine Jl_arg (nx := 983) (i := i) (j := 3) dL_law_977 dL_law_978 dL_law_980 dL_law_981 dL_law_982 rfl rfl rfl rfl hLs (by omega) ?_
    refine Jl_if_eq (nx := 986) (tgt := 990) dL_law_983 rfl (by decide) (fun z => absurd z hb) (fun _ => ?_)
    refine Jl_iconst (nx := 987) (v := 1) (by decide) dL_law_986 rfl ?_
    refine Jl_goto (nx := 991) dL_law_987 (by decide) ?_
    refine Jl_callV (M' := mX12_stop) (R' := rm 4 0 0) (As := [.int (xs (i + 1)), .int (xs (i + 2)), .int (bI true)]) (nx := 994) dL_law_991 rfl ml_X12_stop lk_L_210 iv_X12_stop rfl rfl rfl ⟨(Nat.le_of_ble_eq_true rfl), (Nat.le_of_ble_eq_true rfl)⟩ (Nat.le_of_ble_eq_true rfl) ⟨hk, hks⟩ (hC w) (fun E es' z => by obtain ⟨_, _, z1, -⟩ := z; cases z1) (fun v es' hq => ?_)
    obtain ⟨x, g2, z1, z2, hth, hval, hR, hB⟩ := hq
    cases z1
    subst z2
    refine Jl_istore (nx := 996) dL_law_994 rfl rfl (Nat.le_of_ble_eq_true rfl) ?_
    refine Jl_aload_n (nx := 997) dL_law_996 rfl rfl ?_
    refine Jl_callV (M' := mX12_thrown) (R' := rm 0 0 0) (As := []) (nx := 1000) dL_law_997 rfl ml_X12_thrown lk_L_159 iv_X12_thrown rfl rfl rfl ⟨(Nat.le_of_ble_eq_true rfl), (Nat.le_of_ble_eq_true rfl)⟩ (Nat.le_of_ble_eq_true rfl) ⟨hk, hks⟩ (ct_m_thrown _) (fun E es' z => by cases z.1) (fun v es' hq => ?_)
    obtain ⟨z1, z2⟩ := hq
    cases z1
    subst z2
    refine Jl_iload (nx := 1002) dL_law_1000 rfl rfl ?_
    refine Jl_icmp_eq (nx := 1005) (tgt := 1007) dL_law_1002 rfl (by decide) (fun _ => ?_) (fun z => absurd hth z)
    refine Jl_iload (nx := 1009) dL_law_1007 rfl rfl ?_
    refine Jl_if_ne (nx := 1012) (tgt := 1024) dL_law_1009 rfl (by decide) (fun hne => ?_) (fun he => ?_)
    · refine Jl_goto (nx := 3168) dL_law_1024 (by decide) ?_
      exact Jl_kill (nx := 0) 5 (Jl_kill (nx := 0) 6 (hgo g2 (hR.up (by omega))))
    · refine Jl_aload_n (nx := 1013) dL_law_1012 rfl rfl ?_
      refine Jl_iconst (nx := 1014) (v := 0) (by decide) dL_law_1013 rfl ?_
      refine Jl_lald (nx := 1015) (es := Wd g2) (a := 82) (n := 1) (f := gB g2 82) dL_law_1014 rfl rfl (fun z => z.elim (by decide) (by decide)) ?_
      refine Jl_iload (nx := 1017) dL_law_1015 rfl rfl ?_
      refine Jl_i2l (nx := 1018) dL_law_1017 rfl ?_
      refine Jl_lcmp (nx := 1019) dL_law_1018 rfl ?_
      have hc0 : lg_cmp (gB g2 82 (0 : Int32).toNatClampNeg) x.toInt64 = 0 := by
        rw [hB]; show lg_cmp (w 0) x.toInt64 = 0; rw [hw he, hval he]; exact lg_cmp_self _
      refine Jl_if_eq (nx := 1022) (tgt := 1024) dL_law_1019 rfl (by decide) (fun _ => ?_) (fun z => absurd hc0 z)
      refine Jl_goto (nx := 3168) dL_law_1024 (by decide) ?_
      exact Jl_kill (nx := 0) 5 (Jl_kill (nx := 0) 6 (hgo g2 (hR.up (by omega))))
set_option maxRecDepth 100000 in
set_option maxHeartbeats 4000000 in
theorem lc_17 {Ls : Nat} {xs : Nat → Int32} {i K k ks : Nat} {g : GS} (hLs : Ls ≤ 3584) (hi : i + 7 ≤ Ls) (hK : K < 100000) (hk : k + 5 ≤ 601024) (hks : ks + 463 ≤ 7293034) (h : Rel K g) (hgo : ∀ g', Rel (K + 3) g' → JG Ls xs 3168 i g' (k + 5) (ks + 463)) : JG Ls xs 1027 i g k ks := by
  refine Jl_aload_n (nx := 1028) dL_law_1027 rfl rfl ?_
  refine Jl_arg (nx := 1034) (i := i) (j := 1) dL_law_1028 dL_law_1029 dL_law_1031 dL_law_1032 dL_law_1033 rfl rfl rfl rfl hLs (by omega) ?_
  refine Jl_arg (nx := 1040) (i := i) (j := 2) dL_law_1034 dL_law_1035 dL_law_1037 dL_law_1038 dL_law_1039 rfl rfl rfl rfl hLs (by omega) ?_
  refine Jl_arg (nx := 1046) (i := i) (j := 3) dL_law_1040 dL_law_1041 dL_law_1043 dL_law_1044 dL_law_1045 rfl rfl rfl rfl hLs (by omega) ?_
  refine Jl_arg (nx := 1052) (i := i) (j := 4) dL_law_1046 dL_law_1047 dL_law_1049 dL_law_1050 dL_law_1051 rfl rfl rfl rfl hLs (by omega) ?_
  refine Jl_arg (nx := 1058) (i := i) (j := 5) dL_law_1052 dL_law_1053 dL_law_1055 dL_law_1056 dL_law_1057 rfl rfl rfl rfl hLs (by omega) ?_
  refine Jl_arg6 (nx := 1065) (i := i) (j := 6) dL_law_1058 dL_law_1059 dL_law_1061 dL_law_1063 dL_law_1064 rfl rfl rfl rfl hLs (by omega) ?_
  refine Jl_aload_n (nx := 1066) dL_law_1065 rfl rfl ?_
  refine Jl_callX (R' := rm 11 4 24) (As := [.ref 0, .int (xs (i + 1)), .int (xs (i + 2)), .int (xs (i + 3)), .int (xs (i + 4)), .int (xs (i + 5)), .int (xs (i + 6)), .ref 82]) (nx := 1069) dL_law_1066 rfl wl_judge lk_L_211 ws_judge rfl ⟨(Nat.le_of_ble_eq_true rfl), (Nat.le_of_ble_eq_true rfl)⟩ (Nat.le_of_ble_eq_true rfl) ⟨(show k + 4 ≤ 601024 by omega), (show ks + 24 ≤ 7293034 by omega)⟩ (cw_judge _ _ _ _ _ _ (al_judge h _ _ _ _ _ _)) (fun E es' z => by obtain ⟨_, _, z1, -⟩ := z; cases z1) (fun v es' hq => ?_)
  obtain ⟨kk, g3, z1, z2, vv, g1, w, z3, hw, hC⟩ := hq
  cases z1
  subst z2
  subst z3
  refine Jl.widen (k + 5) (ks + 463) (Nat.add_le_add_left (Nat.le_of_ble_eq_true rfl) k) (Nat.add_le_add_left (Nat.le_of_ble_eq_true rfl) ks) ?_
  refine Jl_istore (nx := 1071) dL_law_1069 rfl rfl (Nat.le_of_ble_eq_true rfl) ?_
  refine Jl_aload_n (nx := 1072) dL_law_1071 rfl rfl ?_
  refine Jl_arg (nx := 1078) (i := i) (j := 1) dL_law_1072 dL_law_1073 dL_law_1075 dL_law_1076 dL_law_1077 rfl rfl rfl rfl hLs (by omega) ?_
  refine Jl_arg (nx := 1084) (i := i) (j := 2) dL_law_1078 dL_law_1079 dL_law_1081 dL_law_1082 dL_law_1083 rfl rfl rfl rfl hLs (by omega) ?_
  refine Jl_arg (nx := 1090) (i := i) (j := 3) dL_law_1084 dL_law_1085 dL_law_1087 dL_law_1088 dL_law_1089 rfl rfl rfl rfl hLs (by omega) ?_
  refine Jl_arg (nx := 1096) (i := i) (j := 4) dL_law_1090 dL_law_1091 dL_law_1093 dL_law_1094 dL_law_1095 rfl rfl rfl rfl hLs (by omega) ?_
  refine Jl_arg (nx := 1102) (i := i) (j := 5) dL_law_1096 dL_law_1097 dL_law_1099 dL_law_1100 dL_law_1101 rfl rfl rfl rfl hLs (by omega) ?_
  refine Jl_arg6 (nx := 1109) (i := i) (j := 6) dL_law_1102 dL_law_1103 dL_law_1105 dL_law_1107 dL_law_1108 rfl rfl rfl rfl hLs (by omega) ?_
  refine Jl_callV (M' := mX12_judge) (R' := rm 6 0 0) (As := [.int (xs (i + 1)), .int (xs (i + 2)), .int (xs (i + 3)), .int (xs (i + 4)), .int (xs (i + 5)), .int (xs (i + 6))]) (nx := 1112) dL_law_1109 rfl ml_X12_judge lk_L_214 iv_X12_judge rfl rfl rfl ⟨(Nat.le_of_ble_eq_true rfl), (Nat.le_of_ble_eq_true rfl)⟩ (Nat.le_of_ble_eq_true rfl) ⟨hk, hks⟩ (hC w) (fun E es' z => by obtain ⟨_, _, z1, -⟩ := z; cases z1) (fun v es' hq => ?_)
  obtain ⟨x, g2, z1, z2, hth, hval, hR, hB⟩ := hq
  cases z1
  subst z2
  refine Jl_lstore (nx := 1114) dL_law_1112 rfl rfl (Nat.le_of_ble_eq_true rfl) ?_
  refine Jl_aload_n (nx := 1115) dL_law_1114 rfl rfl ?_
  refine Jl_callV (M' := mX12_thrown) (R' := rm 0 0 0) (As := []) (nx := 1118) dL_law_1115 rfl ml_X12_thrown lk_L_159 iv_X12_thrown rfl rfl rfl ⟨(Nat.le_of_ble_eq_true rfl), (Nat.le_of_ble_eq_true rfl)⟩ (Nat.le_of_ble_eq_true rfl) ⟨hk, hks⟩ (ct_m_thrown _) (fun E es' z => by cases z.1) (fun v es' hq => ?_)
  obtain ⟨z1, z2⟩ := hq
  cases z1
  subst z2
  refine Jl_iload (nx := 1120) dL_law_1118 rfl rfl ?_
  refine Jl_icmp_eq (nx := 1123) (tgt := 1125) dL_law_1120 rfl (by decide) (fun _ => ?_) (fun z => absurd hth z)
  refine Jl_iload (nx := 1127) dL_law_1125 rfl rfl ?_
  refine Jl_if_ne (nx := 1130) (tgt := 1141) dL_law_1127 rfl (by decide) (fun hne => ?_) (fun he => ?_)
  · refine Jl_goto (nx := 3168) dL_law_1141 (by decide) ?_
    exact Jl_kill (nx := 0) 5 (Jl_kill (nx := 0) 6 (hgo g2 (hR.up (by omega))))
  · refine Jl_aload_n (nx := 1131) dL_law_1130 rfl rfl ?_
    refine Jl_iconst (nx := 1132) (v := 0) (by decide) dL_law_1131 rfl ?_
    refine Jl_lald (nx := 1133) (es := Wd g2) (a := 82) (n := 1) (f := gB g2 82) dL_law_1132 rfl rfl (fun z => z.elim (by decide) (by decide)) ?_
    refine Jl_lload (nx := 1135) dL_law_1133 rfl rfl ?_
    refine Jl_lcmp (nx := 1136) dL_law_1135 rfl ?_
    have hc0 : lg_cmp (gB g2 82 (0 : Int32).toNatClampNeg) x = 0 := by
      rw [hB]; show lg_cmp (w 0) x = 0; rw [hw he, hval he]; exact lg_cmp_self _
    refine Jl_if_eq (nx := 1139) (tgt := 1141) dL_law_1136 rfl (by decide) (fun _ => ?_) (fun z => absurd hc0 z)
    refine Jl_goto (nx := 3168) dL_law_1141 (by decide) ?_
    exact Jl_kill (nx := 0) 5 (Jl_kill (nx := 0) 6 (hgo g2 (hR.up (by omega))))
