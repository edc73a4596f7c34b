/-! the law's cases -/
set_option maxRecDepth 100000 in
set_option maxHeartbeats 4000000 in
theorem lc_23 {Ls : Nat} {xs : Nat → Int32} {i K k ks : Nat} {g : GS} (hLs : Ls ≤ 3584) (hi : i + 7 ≤ Ls) (hK : K < 100000) (hk : k + 5 ≤ 601024) (hks : ks + 463 ≤ 7293034) (h : Rel K g) (hgo : ∀ g', Rel (K + 3) g' → JG Ls xs 3168 i g' (k + 5) (ks + 463)) : JG Ls xs 1658 i g k ks := by
  refine Jl_aload_n (nx := 1659) dL_law_1658 rfl rfl ?_
  refine Jl_arg (nx := 1665) (i := i) (j := 1) dL_law_1659 dL_law_1660 dL_law_1662 dL_law_1663 dL_law_1664 rfl rfl rfl rfl hLs (by omega) ?_
  refine Jl_arg (nx := 1671) (i := i) (j := 2) dL_law_1665 dL_law_1666 dL_law_1668 dL_law_1669 dL_law_1670 rfl rfl rfl rfl hLs (by omega) ?_
  refine Jl_aload_n (nx := 1672) dL_law_1671 rfl rfl ?_
  refine Jl_callX (R' := rm 9 1 6) (As := [.ref 0, .int (xs (i + 1)), .int (xs (i + 2)), .ref 82]) (nx := 1675) dL_law_1672 rfl wl_bar lk_L_233 ws_bar rfl ⟨(Nat.le_of_ble_eq_true rfl), (Nat.le_of_ble_eq_true rfl)⟩ (Nat.le_of_ble_eq_true rfl) ⟨(show k + 1 ≤ 601024 by omega), (show ks + 6 ≤ 7293034 by omega)⟩ (cw_bar _ _ (al_bar h _ _)) (fun E es' z => by obtain ⟨_, _, z1, -⟩ := z; cases z1) (fun v es' hq => ?_)
  obtain ⟨kk, g3, z1, z2, vv, g1, w, z3, hw, hC⟩ := hq
  cases z1
  subst z2
  subst z3
  refine Jl.widen (k + 5) (ks + 463) (Nat.add_le_add_left (Nat.le_of_ble_eq_true rfl) k) (Nat.add_le_add_left (Nat.le_of_ble_eq_true rfl) ks) ?_
  refine Jl_istore (nx := 1677) dL_law_1675 rfl rfl (Nat.le_of_ble_eq_true rfl) ?_
  refine Jl_aload_n (nx := 1678) dL_law_1677 rfl rfl ?_
  refine Jl_arg (nx := 1684) (i := i) (j := 1) dL_law_1678 dL_law_1679 dL_law_1681 dL_law_1682 dL_law_1683 rfl rfl rfl rfl hLs (by omega) ?_
  refine Jl_arg (nx := 1690) (i := i) (j := 2) dL_law_1684 dL_law_1685 dL_law_1687 dL_law_1688 dL_law_1689 rfl rfl rfl rfl hLs (by omega) ?_
  refine Jl_callV (M' := mX12_bar) (R' := rm 6 0 0) (As := [.int (xs (i + 1)), .int (xs (i + 2))]) (nx := 1693) dL_law_1690 rfl ml_X12_bar lk_L_235 iv_X12_bar rfl rfl rfl ⟨(Nat.le_of_ble_eq_true rfl), (Nat.le_of_ble_eq_true rfl)⟩ (Nat.le_of_ble_eq_true rfl) ⟨hk, hks⟩ (hC w) (fun E es' z => by obtain ⟨_, _, z1, -⟩ := z; cases z1) (fun v es' hq => ?_)
  obtain ⟨x, g2, z1, z2, hth, hval, hR, hB⟩ := hq
  cases z1
  subst z2
  refine Jl_istore (nx := 1695) dL_law_1693 rfl rfl (Nat.le_of_ble_eq_true rfl) ?_
  refine Jl_aload_n (nx := 1696) dL_law_1695 rfl rfl ?_
  refine Jl_callV (M' := mX12_thrown) (R' := rm 0 0 0) (As := []) (nx := 1699) dL_law_1696 rfl ml_X12_thrown lk_L_159 iv_X12_thrown rfl rfl rfl ⟨(Nat.le_of_ble_eq_true rfl), (Nat.le_of_ble_eq_true rfl)⟩ (Nat.le_of_ble_eq_true rfl) ⟨hk, hks⟩ (ct_m_thrown _) (fun E es' z => by cases z.1) (fun v es' hq => ?_)
  obtain ⟨z1, z2⟩ := hq
  cases z1
  subst z2
  refine Jl_iload (nx := 1701) dL_law_1699 rfl rfl ?_
  refine Jl_icmp_eq (nx := 1704) (tgt := 1706) dL_law_1701 rfl (by decide) (fun _ => ?_) (fun z => absurd hth z)
  refine Jl_iload (nx := 1708) dL_law_1706 rfl rfl ?_
  refine Jl_if_ne (nx := 1711) (tgt := 1723) dL_law_1708 rfl (by decide) (fun hne => ?_) (fun he => ?_)
  · refine Jl_goto (nx := 3168) dL_law_1723 (by decide) ?_
    exact Jl_kill (nx := 0) 5 (Jl_kill (nx := 0) 6 (hgo g2 (hR.up (by omega))))
  · refine Jl_aload_n (nx := 1712) dL_law_1711 rfl rfl ?_
    refine Jl_iconst (nx := 1713) (v := 0) (by decide) dL_law_1712 rfl ?_
    refine Jl_lald (nx := 1714) (es := Wd g2) (a := 82) (n := 1) (f := gB g2 82) dL_law_1713 rfl rfl (fun z => z.elim (by decide) (by decide)) ?_
    refine Jl_iload (nx := 1716) dL_law_1714 rfl rfl ?_
    refine Jl_i2l (nx := 1717) dL_law_1716 rfl ?_
    refine Jl_lcmp (nx := 1718) dL_law_1717 rfl ?_
    have hc0 : lg_cmp (gB g2 82 (0 : Int32).toNatClampNeg) x.toInt64 = 0 := by
      rw [hB]; show lg_cmp (w 0) x.toInt64 = 0; rw [hw he, hval he]; exact lg_cmp_self _
    refine Jl_if_eq (nx := 1721) (tgt := 1723) dL_law_1718 rfl (by decide) (fun _ => ?_) (fun z => absurd hc0 z)
    refine Jl_goto (nx := 3168) dL_law_1723 (by decide) ?_
    exact Jl_kill (nx := 0) 5 (Jl_kill (nx := 0) 6 (hgo g2 (hR.up (by omega))))
set_option maxRecDepth 100000 in
set_option maxHeartbeats 4000000 in
theorem lc_24 {Ls : Nat} {xs : Nat → Int32} {i K k ks : Nat} {g : GS} (hLs : Ls ≤ 3584) (hi : i + 7 ≤ Ls) (hK : K < 100000) (hk : k + 5 ≤ 601024) (hks : ks + 463 ≤ 7293034) (h : Rel K g) (hgo : ∀ g', Rel (K + 3) g' → JG Ls xs 3168 i g' (k + 5) (ks + 463)) : JG Ls xs 1726 i g k ks := by
  refine Jl_aload_n (nx := 1727) dL_law_1726 rfl rfl ?_
  refine Jl_arg (nx := 1733) (i := i) (j := 1) dL_law_1727 dL_law_1728 dL_law_1730 dL_law_1731 dL_law_1732 rfl rfl rfl rfl hLs (by omega) ?_
  refine Jl_arg (nx := 1739) (i := i) (j := 2) dL_law_1733 dL_law_1734 dL_law_1736 dL_law_1737 dL_law_1738 rfl rfl rfl rfl hLs (by omega) ?_
  refine Jl_arg (nx := 1745) (i := i) (j := 3) dL_law_1739 dL_law_1740 dL_law_1742 dL_law_1743 dL_law_1744 rfl rfl rfl rfl hLs (by omega) ?_
  refine Jl_aload_n (nx := 1746) dL_law_1745 rfl rfl ?_
  refine Jl_callX (R' := rm 11 3 18) (As := [.ref 0, .int (xs (i + 1)), .int (xs (i + 2)), .int (xs (i + 3)), .ref 82]) (nx := 1749) dL_law_1746 rfl wl_pays lk_L_236 ws_pays rfl ⟨(Nat.le_of_ble_eq_true rfl), (Nat.le_of_ble_eq_true rfl)⟩ (Nat.le_of_ble_eq_true rfl) ⟨(show k + 3 ≤ 601024 by omega), (show ks + 18 ≤ 7293034 by omega)⟩ (cw_pays _ _ _ (al_pays h _ _ _)) (fun E es' z => by obtain ⟨_, _, z1, -⟩ := z; cases z1) (fun v es' hq => ?_)
  obtain ⟨kk, g3, z1, z2, vv, g1, w, z3, hw, hC⟩ := hq
  cases z1
  subst z2
  subst z3
  refine Jl.widen (k + 5) (ks + 463) (Nat.add_le_add_left (Nat.le_of_ble_eq_true rfl) k) (Nat.add_le_add_left (Nat.le_of_ble_eq_true rfl) ks) ?_
  refine Jl_istore (nx := 1751) dL_law_1749 rfl rfl (Nat.le_of_ble_eq_true rfl) ?_
  refine Jl_aload_n (nx := 1752) dL_law_1751 rfl rfl ?_
  refine Jl_arg (nx := 1758) (i := i) (j := 1) dL_law_1752 dL_law_1753 dL_law_1755 dL_law_1756 dL_law_1757 rfl rfl rfl rfl hLs (by omega) ?_
  refine Jl_arg (nx := 1764) (i := i) (j := 2) dL_law_1758 dL_law_1759 dL_law_1761 dL_law_1762 dL_law_1763 rfl rfl rfl rfl hLs (by omega) ?_
  refine Jl_arg (nx := 1770) (i := i) (j := 3) dL_law_1764 dL_law_1765 dL_law_1767 dL_law_1768 dL_law_1769 rfl rfl rfl rfl hLs (by omega) ?_
  refine Jl_callV (M' := mX12_pays) (R' := rm 6 0 0) (As := [.int (xs (i + 1)), .int (xs (i + 2)), .int (xs (i + 3))]) (nx := 1773) dL_law_1770 rfl ml_X12_pays lk_L_238 iv_X12_pays rfl rfl rfl ⟨(Nat.le_of_ble_eq_true rfl), (Nat.le_of_ble_eq_true rfl)⟩ (Nat.le_of_ble_eq_true rfl) ⟨hk, hks⟩ (hC w) (fun E es' z => by obtain ⟨_, _, z1, -⟩ := z; cases z1) (fun v es' hq => ?_)
  obtain ⟨x, g2, z1, z2, hth, hval, hR, hB⟩ := hq
  cases z1
  subst z2
  refine Jl_istore (nx := 1775) dL_law_1773 rfl rfl (Nat.le_of_ble_eq_true rfl) ?_
  refine Jl_aload_n (nx := 1776) dL_law_1775 rfl rfl ?_
  refine Jl_callV (M' := mX12_thrown) (R' := rm 0 0 0) (As := []) (nx := 1779) dL_law_1776 rfl ml_X12_thrown lk_L_159 iv_X12_thrown rfl rfl rfl ⟨(Nat.le_of_ble_eq_true rfl), (Nat.le_of_ble_eq_true rfl)⟩ (Nat.le_of_ble_eq_true rfl) ⟨hk, hks⟩ (ct_m_thrown _) (fun E es' z => by cases z.1) (fun v es' hq => ?_)
  obtain ⟨z1, z2⟩ := hq
  cases z1
  subst z2
  refine Jl_iload (nx := 1781) dL_law_1779 rfl rfl ?_
  refine Jl_icmp_eq (nx := 1784) (tgt := 1786) dL_law_1781 rfl (by decide) (fun _ => ?_) (fun z => absurd hth z)
  refine Jl_iload (nx := 1788) dL_law_1786 rfl rfl ?_
  refine Jl_if_ne (nx := 1791) (tgt := 1803) dL_law_1788 rfl (by decide) (fun hne => ?_) (fun he => ?_)
  · refine Jl_goto (nx := 3168) dL_law_1803 (by decide) ?_
    exact Jl_kill (nx := 0) 5 (Jl_kill (nx := 0) 6 (hgo g2 (hR.up (by omega))))
  · refine Jl_aload_n (nx := 1792) dL_law_1791 rfl rfl ?_
    refine Jl_iconst (nx := 1793) (v := 0) (by decide) dL_law_1792 rfl ?_
    refine Jl_lald (nx := 1794) (es := Wd g2) (a := 82) (n := 1) (f := gB g2 82) dL_law_1793 rfl rfl (fun z => z.elim (by decide) (by decide)) ?_
    refine Jl_iload (nx := 1796) dL_law_1794 rfl rfl ?_
    refine Jl_i2l (nx := 1797) dL_law_1796 rfl ?_
    refine Jl_lcmp (nx := 1798) dL_law_1797 rfl ?_
    have hc0 : lg_cmp (gB g2 82 (0 : Int32).toNatClampNeg) x.toInt64 = 0 := by
      rw [hB]; show lg_cmp (w 0) x.toInt64 = 0; rw [hw he, hval he]; exact lg_cmp_self _
    refine Jl_if_eq (nx := 1801) (tgt := 1803) dL_law_1798 rfl (by decide) (fun _ => ?_) (fun z => absurd hc0 z)
    refine Jl_goto (nx := 3168) dL_law_1803 (by decide) ?_
    exact Jl_kill (nx := 0) 5 (Jl_kill (nx := 0) 6 (hgo g2 (hR.up (by omega))))
set_option maxRecDepth 100000 in
set_option maxHeartbeats 4000000 in
theorem lc_25 {Ls : Nat} {xs : Nat → Int32} {i K k ks : Nat} {g : GS} (hLs : Ls ≤ 3584) (hi : i + 7 ≤ Ls) (hK : K < 100000) (hk : k + 5 ≤ 601024) (hks : ks + 463 ≤ 7293034) (h : Rel K g) (hgo : ∀ g', Rel (K + 3) g' → JG Ls xs 3168 i g' (k + 5) (ks + 463)) : JG Ls xs 1806 i g k ks := by
  refine Jl_aload_n (nx := 1807) dL_law_1806 rfl rfl ?_
  refine Jl_arg (nx := 1813) (i := i) (j := 1) dL_law_1807 dL_law_1808 dL_law_1810 dL_law_1811 dL_law_1812 rfl rfl rfl rfl hLs (by omega) ?_
  refine Jl_arg (nx := 1819) (i := i) (j := 2) dL_law_1813 dL_law_1814 dL_law_1816 dL_law_1817 dL_law_1818 rfl rfl rfl rfl hLs (by omega) ?_
  refine Jl_arg (nx := 1825) (i := i) (j := 3) dL_law_1819 dL_law_1820 dL_law_1822 dL_law_1823 dL_law_1824 rfl rfl rfl rfl hLs (by omega) ?_
  refine Jl_arg (nx := 1831) (i := i) (j := 4) dL_law_1825 dL_law_1826 dL_law_1828 dL_law_1829 dL_law_1830 rfl rfl rfl rfl hLs (by omega) ?_
  refine Jl_aload_n (nx := 1832) dL_law_1831 rfl rfl ?_
  refine Jl_callX (R' := rm 10 3 18) (As := [.ref 0, .int (xs (i + 1)), .int (xs (i + 2)), .int (xs (i + 3)), .int (xs (i + 4)), .ref 82]) (nx := 1835) dL_law_1832 rfl wl_least lk_L_239 ws_least rfl ⟨(Nat.le_of_ble_eq_true rfl), (Nat.le_of_ble_eq_true rfl)⟩ (Nat.le_of_ble_eq_true rfl) ⟨(show k + 3 ≤ 601024 by omega), (show ks + 18 ≤ 7293034 by omega)⟩ (cw_least _ _ _ _ (al_least h _ _ _ _)) (fun E es' z => by obtain ⟨_, _, z1, -⟩ := z; cases z1) (fun v es' hq => ?_)
  obtain ⟨kk, g3, z1, z2, vv, g1, w, z3, hw, hC⟩ := hq
  cases z1
  subst z2
  subst z3
  refine Jl.widen (k + 5) (ks + 463) (Nat.add_le_add_left (Nat.le_of_ble_eq_true rfl) k) (Nat.add_le_add_left (Nat.le_of_ble_eq_true rfl) ks) ?_
  refine Jl_istore (nx := 1837) dL_law_1835 rfl rfl (Nat.le_of_ble_eq_true rfl) ?_
  refine Jl_aload_n (nx := 1838) dL_law_1837 rfl rfl ?_
  refine Jl_arg (nx := 1844) (i := i) (j := 1) dL_law_1838 dL_law_1839 dL_law_1841 dL_law_1842 dL_law_1843 rfl rfl rfl rfl hLs (by omega) ?_
  refine Jl_arg (nx := 1850) (i := i) (j := 2) dL_law_1844 dL_law_1845 dL_law_1847 dL_law_1848 dL_law_1849 rfl rfl rfl rfl hLs (by omega) ?_
  refine Jl_arg (nx := 1856) (i := i) (j := 3) dL_law_1850 dL_law_1851 dL_law_1853 dL_law_1854 dL_law_1855 rfl rfl rfl rfl hLs (by omega) ?_
  refine Jl_arg (nx := 1862) (i := i) (j := 4) dL_law_1856 dL_law_1857 dL_law_1859 dL_law_1860 dL_law_1861 rfl rfl rfl rfl hLs (by omega) ?_
  refine Jl_callV (M' := mX12_least) (R' := rm 6 0 0) (As := [.int (xs (i + 1)), .int (xs (i + 2)), .int (xs (i + 3)), .int (xs (i + 4))]) (nx := 1865) dL_law_1862 rfl ml_X12_least lk_L_242 iv_X12_least rfl rfl rfl ⟨(Nat.le_of_ble_eq_true rfl), (Nat.le_of_ble_eq_true rfl)⟩ (Nat.le_of_ble_eq_true rfl) ⟨hk, hks⟩ (hC w) (fun E es' z => by obtain ⟨_, _, z1, -⟩ := z; cases z1) (fun v es' hq => ?_)
  obtain ⟨x, g2, z1, z2, hth, hval, hR, hB⟩ := hq
  cases z1
  subst z2
  refine Jl_istore (nx := 1867) dL_law_1865 rfl rfl (Nat.le_of_ble_eq_true rfl) ?_
  refine Jl_aload_n (nx := 1868) dL_law_1867 rfl rfl ?_
  refine Jl_callV (M' := mX12_thrown) (R' := rm 0 0 0) (As := []) (nx := 1871) dL_law_1868 rfl ml_X12_thrown lk_L_159 iv_X12_thrown rfl rfl rfl ⟨(Nat.le_of_ble_eq_true rfl), (Nat.le_of_ble_eq_true rfl)⟩ (Nat.le_of_ble_eq_true rfl) ⟨hk, hks⟩ (ct_m_thrown _) (fun E es' z => by cases z.1) (fun v es' hq => ?_)
  obtain ⟨z1, z2⟩ := hq
  cases z1
  subst z2
  refine Jl_iload (nx := 1873) dL_law_1871 rfl rfl ?_
  refine Jl_icmp_eq (nx := 1876) (tgt := 1878) dL_law_1873 rfl (by decide) (fun _ => ?_) (fun z => absurd hth z)
  refine Jl_iload (nx := 1880) dL_law_1878 rfl rfl ?_
  refine Jl_if_ne (nx := 1883) (tgt := 1895) dL_law_1880 rfl (by decide) (fun hne => ?_) (fun he => ?_)
  · refine Jl_goto (nx := 3168) dL_law_1895 (by decide) ?_
    exact Jl_kill (nx := 0) 5 (Jl_kill (nx := 0) 6 (hgo g2 (hR.up (by omega))))
  · refine Jl_aload_n (nx := 1884) dL_law_1883 rfl rfl ?_
    refine Jl_iconst (nx := 1885) (v := 0) (by decide) dL_law_1884 rfl ?_
    refine Jl_lald (nx := 1886) (es := Wd g2) (a := 82) (n := 1) (f := gB g2 82) dL_law_1885 rfl rfl (fun z => z.elim (by decide) (by decide)) ?_
    refine Jl_iload (nx := 1888) dL_law_1886 rfl rfl ?_
    refine Jl_i2l (nx := 1889) dL_law_1888 rfl ?_
    refine Jl_lcmp (nx := 1890) dL_law_1889 rfl ?_
    have hc0 : lg_cmp (gB g2 82 (0 : Int32).toNatClampNeg) x.toInt64 = 0 := by
      rw [hB]; show lg_cmp (w 0) x.toInt64 = 0; rw [hw he, hval he]; exact lg_cmp_self _
    refine Jl_if_eq (nx := 1893) (tgt := 1895) dL_law_1890 rfl (by decide) (fun _ => ?_) (fun z => absurd hc0 z)
    refine Jl_goto (nx := 3168) dL_law_1895 (by decide) ?_
    exact Jl_kill (nx := 0) 5 (Jl_kill (nx := 0) 6 (hgo g2 (hR.up (by omega))))
set_option maxRecDepth 100000 in
set_option maxHeartbeats 4000000 in
theorem lc_26 {Ls : Nat} {xs : Nat → Int32} {i K k ks : Nat} {g : GS} (hLs : Ls ≤ 3584) (hi : i + 7 ≤ Ls) (hK : K < 100000) (hk : k + 5 ≤ 601024) (hks : ks + 463 ≤ 7293034) (h : Rel K g) (hgo : ∀ g', Rel (K + 3) g' → JG Ls xs 3168 i g' (k + 5) (ks + 463)) : JG Ls xs 1898 i g k ks := by
  refine Jl_aload_n (nx := 1899) dL_law_1898 rfl rfl ?_
  refine Jl_arg (nx := 1905) (i := i) (j := 1) dL_law_1899 dL_law_1900 dL_law_1902 dL_law_1903 dL_law_1904 rfl rfl rfl rfl hLs (by omega) ?_
  refine Jl_arg (nx := 1911) (i := i) (j := 2) dL_law_1905 dL_law_1906 dL_law_1908 dL_law_1909 dL_law_1910 rfl rfl rfl rfl hLs (by omega) ?_
  refine Jl_arg (nx := 1917) (i := i) (j := 3) dL_law_1911 dL_law_1912 dL_law_1914 dL_law_1915 dL_law_1916 rfl rfl rfl rfl hLs (by omega) ?_
  refine Jl_aload_n (nx := 1918) dL_law_1917 rfl rfl ?_
  refine Jl_callX (R' := rm 11 2 12) (As := [.ref 0, .int (xs (i + 1)), .int (xs (i + 2)), .int (xs (i + 3)), .ref 82]) (nx := 1921) dL_law_1918 rfl wl_rate lk_L_243 ws_rate rfl ⟨(Nat.le_of_ble_eq_true rfl), (Nat.le_of_ble_eq_true rfl)⟩ (Nat.le_of_ble_eq_true rfl) ⟨(show k + 2 ≤ 601024 by omega), (show ks + 12 ≤ 7293034 by omega)⟩ (cw_rate _ _ _ (al_rate h _ _ _)) (fun E es' z => by obtain ⟨_, _, z1, -⟩ := z; cases z1) (fun v es' hq => ?_)
  obtain ⟨kk, g3, z1, z2, vv, g1, w, z3, hw, hC⟩ := hq
  cases z1
  subst z2
  subst z3
  refine Jl.widen (k + 5) (ks + 463) (Nat.add_le_add_left (Nat.le_of_ble_eq_true rfl) k) (Nat.add_le_add_left (Nat.le_of_ble_eq_true rfl) ks) ?_
  refine Jl_istore (nx := 1923) dL_law_1921 rfl rfl (Nat.le_of_ble_eq_true rfl) ?_
  refine Jl_aload_n (nx := 1924) dL_law_1923 rfl rfl ?_
  refine Jl_arg (nx := 1930) (i := i) (j := 1) dL_law_1924 dL_law_1925 dL_law_1927 dL_law_1928 dL_law_1929 rfl rfl rfl rfl hLs (by omega) ?_
  refine Jl_arg (nx := 1936) (i := i) (j := 2) dL_law_1930 dL_law_1931 dL_law_1933 dL_law_1934 dL_law_1935 rfl rfl rfl rfl hLs (by omega) ?_
  refine Jl_arg (nx := 1942) (i := i) (j := 3) dL_law_1936 dL_law_1937 dL_law_1939 dL_law_1940 dL_law_1941 rfl rfl rfl rfl hLs (by omega) ?_
  refine Jl_callV (M' := mX12_rate) (R' := rm 2 0 0) (As := [.int (xs (i + 1)), .int (xs (i + 2)), .int (xs (i + 3))]) (nx := 1945) dL_law_1942 rfl ml_X12_rate lk_L_245 iv_X12_rate rfl rfl rfl ⟨(Nat.le_of_ble_eq_true rfl), (Nat.le_of_ble_eq_true rfl)⟩ (Nat.le_of_ble_eq_true rfl) ⟨hk, hks⟩ (hC w) (fun E es' z => by obtain ⟨_, _, z1, -⟩ := z; cases z1) (fun v es' hq => ?_)
  obtain ⟨x, g2, z1, z2, hth, hval, hR, hB⟩ := hq
  cases z1
  subst z2
  refine Jl_istore (nx := 1947) dL_law_1945 rfl rfl (Nat.le_of_ble_eq_true rfl) ?_
  refine Jl_aload_n (nx := 1948) dL_law_1947 rfl rfl ?_
  refine Jl_callV (M' := mX12_thrown) (R' := rm 0 0 0) (As := []) (nx := 1951) dL_law_1948 rfl ml_X12_thrown lk_L_159 iv_X12_thrown rfl rfl rfl ⟨(Nat.le_of_ble_eq_true rfl), (Nat.le_of_ble_eq_true rfl)⟩ (Nat.le_of_ble_eq_true rfl) ⟨hk, hks⟩ (ct_m_thrown _) (fun E es' z => by cases z.1) (fun v es' hq => ?_)
  obtain ⟨z1, z2⟩ := hq
  cases z1
  subst z2
  refine Jl_iload (nx := 1953) dL_law_1951 rfl rfl ?_
  refine Jl_icmp_eq (nx := 1956) (tgt := 1958) dL_law_1953 rfl (by decide) (fun _ => ?_) (fun z => absurd hth z)
  refine Jl_iload (nx := 1960) dL_law_1958 rfl rfl ?_
  refine Jl_if_ne (nx := 1963) (tgt := 1975) dL_law_1960 rfl (by decide) (fun hne => ?_) (fun he => ?_)
  · refine Jl_goto (nx := 3168) dL_law_1975 (by decide) ?_
    exact Jl_kill (nx := 0) 5 (Jl_kill (nx := 0) 6 (hgo g2 (hR.up (by omega))))
  · refine Jl_aload_n (nx := 1964) dL_law_1963 rfl rfl ?_
    refine Jl_iconst (nx := 1965) (v := 0) (by decide) dL_law_1964 rfl ?_
    refine Jl_lald (nx := 1966) (es := Wd g2) (a := 82) (n := 1) (f := gB g2 82) dL_law_1965 rfl rfl (fun z => z.elim (by decide) (by decide)) ?_
    refine Jl_iload (nx := 1968) dL_law_1966 rfl rfl ?_
    refine Jl_i2l (nx := 1969) dL_law_1968 rfl ?_
    refine Jl_lcmp (nx := 1970) dL_law_1969 rfl ?_
    have hc0 : lg_cmp (gB g2 82 (0 : Int32).toNatClampNeg) x.toInt64 = 0 := by
      rw [hB]; show lg_cmp (w 0) x.toInt64 = 0; rw [hw he, hval he]; exact lg_cmp_self _
    refine Jl_if_eq (nx := 1973) (tgt := 1975) dL_law_1970 rfl (by decide) (fun _ => ?_) (fun z => absurd hc0 z)
    refine Jl_goto (nx := 3168) dL_law_1975 (by decide) ?_
    exact Jl_kill (nx := 0) 5 (Jl_kill (nx := 0) 6 (hgo g2 (hR.up (by omega))))
set_option maxRecDepth 100000 in
set_option maxHeartbeats 4000000 in
theorem lc_27 {Ls : Nat} {xs : Nat → Int32} {i K k ks : Nat} {g : GS} (hLs : Ls ≤ 3584) (hi : i + 7 ≤ Ls) (hK : K < 100000) (hk : k + 5 ≤ 601024) (hks : ks + 463 ≤ 7293034) (h : Rel K g) (hgo : ∀ g', Rel (K + 3) g' → JG Ls xs 3168 i g' (k + 5) (ks + 463)) : JG Ls xs 1978 i g k ks := by
  refine Jl_aload_n (nx := 1979) dL_law_1978 rfl rfl ?_
  refine Jl_arg (nx := 1985) (i := i) (j := 1) dL_law_1979 dL_law_1980 dL_law_1982 dL_law_1983 dL_law_1984 rfl rfl rfl rfl hLs (by omega) ?_
  refine Jl_arg (nx := 1991) (i := i) (j := 2) dL_law_1985 dL_law_1986 dL_law_1988 dL_law_1989 dL_law_1990 rfl rfl rfl rfl hLs (by omega) ?_
  refine Jl_aload_n (nx := 1992) dL_law_1991 rfl rfl ?_
  refine Jl_callX (R' := rm 11 1 6) (As := [.ref 0, .int (xs (i + 1)), .int (xs (i + 2)), .ref 82]) (nx := 1995) dL_law_1992 rfl wl_often lk_L_246 ws_often rfl ⟨(Nat.le_of_ble_eq_true rfl), (Nat.le_of_ble_eq_true rfl)⟩ (Nat.le_of_ble_eq_true rfl) ⟨(show k + 1 ≤ 601024 by omega), (show ks + 6 ≤ 7293034 by omega)⟩ (cw_often _ _ (al_often h _ _)) (fun E es' z => by obtain ⟨_, _, z1, -⟩ := z; cases z1) (fun v es' hq => ?_)
  obtain ⟨kk, g3, z1, z2, vv, g1, w, z3, hw, hC⟩ := hq
  cases z1
  subst z2
  subst z3
  refine Jl.widen (k + 5) (ks + 463) (Nat.add_le_add_left (Nat.le_of_ble_eq_true rfl) k) (Nat.add_le_add_left (Nat.le_of_ble_eq_true rfl) ks) ?_
  refine Jl_istore (nx := 1997) dL_law_1995 rfl rfl (Nat.le_of_ble_eq_true rfl) ?_
  refine Jl_aload_n (nx := 1998) dL_law_1997 rfl rfl ?_
  refine Jl_arg (nx := 2004) (i := i) (j := 1) dL_law_1998 dL_law_1999 dL_law_2001 dL_law_2002 dL_law_2003 rfl rfl rfl rfl hLs (by omega) ?_
  refine Jl_arg (nx := 2010) (i := i) (j := 2) dL_law_2004 dL_law_2005 dL_law_2007 dL_law_2008 dL_law_2009 rfl rfl rfl rfl hLs (by omega) ?_
  refine Jl_callV (M' := mX12_often) (R' := rm 2 0 0) (As := [.int (xs (i + 1)), .int (xs (i + 2))]) (nx := 2013) dL_law_2010 rfl ml_X12_often lk_L_248 iv_X12_often rfl rfl rfl ⟨(Nat.le_of_ble_eq_true rfl), (Nat.le_of_ble_eq_true rfl)⟩ (Nat.le_of_ble_eq_true rfl) ⟨hk, hks⟩ (hC w) (fun E es' z => by obtain ⟨_, _, z1, -⟩ := z; cases z1) (fun v es' hq => ?_)
  obtain ⟨x, g2, z1, z2, hth, hval, hR, hB⟩ := hq
  cases z1
  subst z2
  refine Jl_istore (nx := 2015) dL_law_2013 rfl rfl (Nat.le_of_ble_eq_true rfl) ?_
  refine Jl_aload_n (nx := 2016) dL_law_2015 rfl rfl ?_
  refine Jl_callV (M' := mX12_thrown) (R' := rm 0 0 0) (As := []) (nx := 2019) dL_law_2016 rfl ml_X12_thrown lk_L_159 iv_X12_thrown rfl rfl rfl ⟨(Nat.le_of_ble_eq_true rfl), (Nat.le_of_ble_eq_true rfl)⟩ (Nat.le_of_ble_eq_true rfl) ⟨hk, hks⟩ (ct_m_thrown _) (fun E es' z => by cases z.1) (fun v es' hq => ?_)
  obtain ⟨z1, z2⟩ := hq
  cases z1
  subst z2
  refine Jl_iload (nx := 2021) dL_law_2019 rfl rfl ?_
  refine Jl_icmp_eq (nx := 2024) (tgt := 2026) dL_law_2021 rfl (by decide) (fun _ => ?_) (fun z => absurd hth z)
  refine Jl_iload (nx := 2028) dL_law_2026 rfl rfl ?_
  refine Jl_if_ne (nx := 2031) (tgt := 2043) dL_law_2028 rfl (by decide) (fun hne => ?_) (fun he => ?_)
  · refine Jl_goto (nx := 3168) dL_law_2043 (by decide) ?_
    exact Jl_kill (nx := 0) 5 (Jl_kill (nx := 0) 6 (hgo g2 (hR.up (by omega))))
  · refine Jl_aload_n (nx := 2032) dL_law_2031 rfl rfl ?_
    refine Jl_iconst (nx := 2033) (v := 0) (by decide) dL_law_2032 rfl ?_
    refine Jl_lald (nx := 2034) (es := Wd g2) (a := 82) (n := 1) (f := gB g2 82) dL_law_2033 rfl rfl (fun z => z.elim (by decide) (by decide)) ?_
    refine Jl_iload (nx := 2036) dL_law_2034 rfl rfl ?_
    refine Jl_i2l (nx := 2037) dL_law_2036 rfl ?_
    refine Jl_lcmp (nx := 2038) dL_law_2037 rfl ?_
    have hc0 : lg_cmp (gB g2 82 (0 : Int32).toNatClampNeg) x.toInt64 = 0 := by
      rw [hB]; show lg_cmp (w 0) x.toInt64 = 0; rw [hw he, hval he]; exact lg_cmp_self _
    refine Jl_if_eq (nx := 2041) (tgt := 2043) dL_law_2038 rfl (by decide) (fun _ => ?_) (fun z => absurd hc0 z)
    refine Jl_goto (nx := 3168) dL_law_2043 (by decide) ?_
    exact Jl_kill (nx := 0) 5 (Jl_kill (nx := 0) 6 (hgo g2 (hR.up (by omega))))
