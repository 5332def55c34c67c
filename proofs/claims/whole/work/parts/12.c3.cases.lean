section LC
variable {X : CX} {cs : Nat → ClassId} {qx qm : Nat → Nat} {D : va_G} {tF tO tT e0 k0 e1 k1 e2 k2 b L j : Nat} {x0 x1 x2 xs : Nat → Int32} {fv : Value}
theorem nL_X5_excess : NameIn yX5_excess 4 := ⟨by decide +kernel, by decide +kernel, by decide +kernel⟩
theorem nL_X6_excess : NameIn yX6_excess 4 := ⟨by decide +kernel, by decide +kernel, by decide +kernel⟩
set_option maxRecDepth 100000 in
set_option maxHeartbeats 4000000 in
theorem lc_42 (C : O2 X cL_law 4 (some .boolean) wsL_law RL room_1 D vwCl (xT cs) [] (lwN tF tO tT e0 k0 x0 e1 k1 x1 e2 k2 x2 fv b L xs)) (hq : (xA qx).Nodup) (hm : (mA qm).Nodup) (hL : L ≤ 2560) (hj : 5 * j + 5 ≤ L) (nx_ : LI X cs qx qm e0 x0 b (j + 1) 18) : LI X cs qx qm e0 x0 b j 1724 := by
  intro n nd es kn knd kes img tl ta tn sl bey wt un ed kwt kun ked tb sb sz sbs G K P wk wh isK isB fed at_ ltr ab ps g kp nx fa tp rs rv ct it ex pl pf h
  obtain ⟨⟨N, R⟩, RKp, TT, S, F, PP, PXp⟩ := h
  obtain ⟨r, u1, u2, f1, f2⟩ := o_excess R S bey isB (xs (5 * j + 1)) (xs (5 * j + 2)) (xs (5 * j + 3)) (xs (5 * j + 4))
  refine bv_aload_n C 2 dL_law_1724 rfl ?_
  refine lw_arg C (fun _ _ h => h.2.2.2) hL hj 1 (by decide) rfl dL_law_1725 dL_law_1726 dL_law_1727 dL_law_1728 dL_law_1729 ?_
  refine lw_arg C (fun _ _ h => h.2.2.2) hL hj 2 (by decide) rfl dL_law_1730 dL_law_1731 dL_law_1732 dL_law_1733 dL_law_1734 ?_
  refine lw_arg C (fun _ _ h => h.2.2.2) hL hj 3 (by decide) rfl dL_law_1735 dL_law_1736 dL_law_1737 dL_law_1738 dL_law_1739 ?_
  refine lw_arg C (fun _ _ h => h.2.2.2) hL hj 4 (by decide) rfl dL_law_1740 dL_law_1741 dL_law_1742 dL_law_1743 dL_law_1744 ?_
  refine bv_kV C (As := [.int (xs (5 * j + 1)), .int (xs (5 * j + 2)), .int (xs (5 * j + 3)), .int (xs (5 * j + 4))]) (st := []) (fun l9 => k_X5_excess hq f1) rfl cut_left rfl (fun _ h => h) (NTo.of lwN_ok (fun _ _ h => h.1.1) (List.range _) rg_left rfl) xN_ok gL_law_X5_excess 0 rfl rfl rfl rfl nL_X5_excess ⟨rfl, rfl, (Nat.le_of_ble_eq_true rfl), (Nat.le_of_ble_eq_true rfl), by show 44 + 140 * j + 0 ≤ 600000; omega, by show 18765 + 12000 * j + 0 ≤ 7302249; omega⟩ dL_law_1745 (Nat.le_of_ble_eq_true rfl) rfl ?_
  refine bv_eqw (List.append_assoc _ _ _) ?_
  refine bv_aload_n C 1 dL_law_1748 rfl ?_
  refine lw_arg C (fun _ _ h => h.2.2.2) hL hj 1 (by decide) rfl dL_law_1749 dL_law_1750 dL_law_1751 dL_law_1752 dL_law_1753 ?_
  refine lw_arg C (fun _ _ h => h.2.2.2) hL hj 2 (by decide) rfl dL_law_1754 dL_law_1755 dL_law_1756 dL_law_1757 dL_law_1758 ?_
  refine lw_arg C (fun _ _ h => h.2.2.2) hL hj 3 (by decide) rfl dL_law_1759 dL_law_1760 dL_law_1761 dL_law_1762 dL_law_1763 ?_
  refine lw_arg C (fun _ _ h => h.2.2.2) hL hj 4 (by decide) rfl dL_law_1764 dL_law_1765 dL_law_1766 dL_law_1767 dL_law_1768 ?_
  refine bv_kV C (As := [.int (xs (5 * j + 1)), .int (xs (5 * j + 2)), .int (xs (5 * j + 3)), .int (xs (5 * j + 4))]) (st := [.long r]) (fun l9 => k_X6_excess (N := NT) hm NT_ok f2) rfl cut_left rfl (fun _ h => h.sub [0, 1] rfl) NTo.nt NT_ok gL_law_X6_excess 0 rfl rfl rfl rfl nL_X6_excess ⟨rfl, rfl, (Nat.le_of_ble_eq_true rfl), (Nat.le_of_ble_eq_true rfl), by show 44 + 140 * j + 0 ≤ 600000; omega, by show 18765 + 12000 * j + 0 ≤ 7302249; omega⟩ dL_law_1769 (Nat.le_of_ble_eq_true rfl) rfl ?_
  refine bv_lcmp_eq C dL_law_1772 dL_law_1773 (tgt := 2090) (by decide) (fun _ => ?_) (fun z => absurd rfl z)
  refine bv_rot ?_
  refine bv_widen (cs1 := 44 + 140 * (j + 1)) (sl1 := 18765 + 12000 * (j + 1)) (by omega) (by omega) ?_
  exact lw_tail C (by decide) dL_law_2090 dL_law_2093 (nx_ _ _ _ _ _ _ _ _ _ _ _ _ _ _ _ _ _ _ _ _ _ _ _ _ _ _ _ _ _ _ _ _ _ _ _ _ _ _ _ _ _ _ _ _ _ _ ⟨⟨_, R⟩, RKp, TT, S, F, PP, PXp⟩)

theorem nL_X5_worth : NameIn yX5_worth 2 := ⟨by decide +kernel, by decide +kernel, by decide +kernel⟩
theorem nL_X6_worth : NameIn yX6_worth 2 := ⟨by decide +kernel, by decide +kernel, by decide +kernel⟩
set_option maxRecDepth 100000 in
set_option maxHeartbeats 4000000 in
theorem lc_46 (C : O2 X cL_law 4 (some .boolean) wsL_law RL room_1 D vwCl (xT cs) [] (lwN tF tO tT e0 k0 x0 e1 k1 x1 e2 k2 x2 fv b L xs)) (hq : (xA qx).Nodup) (hm : (mA qm).Nodup) (hL : L ≤ 2560) (hj : 5 * j + 5 ≤ L) (nx_ : LI X cs qx qm e0 x0 b (j + 1) 18) : LI X cs qx qm e0 x0 b j 1847 := by
  intro n nd es kn knd kes img tl ta tn sl bey wt un ed kwt kun ked tb sb sz sbs G K P wk wh isK isB fed at_ ltr ab ps g kp nx fa tp rs rv ct it ex pl pf h
  obtain ⟨⟨N, R⟩, RKp, TT, S, F, PP, PXp⟩ := h
  obtain ⟨r, f1, f2⟩ := o_worth R (xs (5 * j + 1)) (xs (5 * j + 2))
  refine bv_aload_n C 2 dL_law_1847 rfl ?_
  refine lw_arg C (fun _ _ h => h.2.2.2) hL hj 1 (by decide) rfl dL_law_1848 dL_law_1849 dL_law_1850 dL_law_1851 dL_law_1852 ?_
  refine lw_arg C (fun _ _ h => h.2.2.2) hL hj 2 (by decide) rfl dL_law_1853 dL_law_1854 dL_law_1855 dL_law_1856 dL_law_1857 ?_
  refine bv_kV C (As := [.int (xs (5 * j + 1)), .int (xs (5 * j + 2))]) (st := []) (fun l9 => k_X5_worth hq f1) rfl cut_left rfl (fun _ h => h) (NTo.of lwN_ok (fun _ _ h => h.1.1) (List.range _) rg_left rfl) xN_ok gL_law_X5_worth 0 rfl rfl rfl rfl nL_X5_worth ⟨rfl, rfl, (Nat.le_of_ble_eq_true rfl), (Nat.le_of_ble_eq_true rfl), by show 44 + 140 * j + 0 ≤ 600000; omega, by show 18765 + 12000 * j + 0 ≤ 7302249; omega⟩ dL_law_1858 (Nat.le_of_ble_eq_true rfl) rfl ?_
  refine bv_eqw (List.append_assoc _ _ _) ?_
  refine bv_aload_n C 1 dL_law_1861 rfl ?_
  refine lw_arg C (fun _ _ h => h.2.2.2) hL hj 1 (by decide) rfl dL_law_1862 dL_law_1863 dL_law_1864 dL_law_1865 dL_law_1866 ?_
  refine lw_arg C (fun _ _ h => h.2.2.2) hL hj 2 (by decide) rfl dL_law_1867 dL_law_1868 dL_law_1869 dL_law_1870 dL_law_1871 ?_
  refine bv_kV C (As := [.int (xs (5 * j + 1)), .int (xs (5 * j + 2))]) (st := [.long r]) (fun l9 => k_X6_worth (N := NT) hm NT_ok f2) rfl cut_left rfl (fun _ h => h.sub [0, 1] rfl) NTo.nt NT_ok gL_law_X6_worth 0 rfl rfl rfl rfl nL_X6_worth ⟨rfl, rfl, (Nat.le_of_ble_eq_true rfl), (Nat.le_of_ble_eq_true rfl), by show 44 + 140 * j + 0 ≤ 600000; omega, by show 18765 + 12000 * j + 0 ≤ 7302249; omega⟩ dL_law_1872 (Nat.le_of_ble_eq_true rfl) rfl ?_
  refine bv_lcmp_eq C dL_law_1875 dL_law_1876 (tgt := 2090) (by decide) (fun _ => ?_) (fun z => absurd rfl z)
  refine bv_rot ?_
  refine bv_widen (cs1 := 44 + 140 * (j + 1)) (sl1 := 18765 + 12000 * (j + 1)) (by omega) (by omega) ?_
  exact lw_tail C (by decide) dL_law_2090 dL_law_2093 (nx_ _ _ _ _ _ _ _ _ _ _ _ _ _ _ _ _ _ _ _ _ _ _ _ _ _ _ _ _ _ _ _ _ _ _ _ _ _ _ _ _ _ _ _ _ _ _ ⟨⟨_, R⟩, RKp, TT, S, F, PP, PXp⟩)

theorem nL_X5_row : NameIn yX5_row 2 := ⟨by decide +kernel, by decide +kernel, by decide +kernel⟩
theorem nL_X6_row : NameIn yX6_row 2 := ⟨by decide +kernel, by decide +kernel, by decide +kernel⟩
set_option maxRecDepth 100000 in
set_option maxHeartbeats 4000000 in
theorem lc_47 (C : O2 X cL_law 4 (some .boolean) wsL_law RL room_1 D vwCl (xT cs) [] (lwN tF tO tT e0 k0 x0 e1 k1 x1 e2 k2 x2 fv b L xs)) (hq : (xA qx).Nodup) (hm : (mA qm).Nodup) (hL : L ≤ 2560) (hj : 5 * j + 5 ≤ L) (nx_ : LI X cs qx qm e0 x0 b (j + 1) 18) : LI X cs qx qm e0 x0 b j 1881 := by
  intro n nd es kn knd kes img tl ta tn sl bey wt un ed kwt kun ked tb sb sz sbs G K P wk wh isK isB fed at_ ltr ab ps g kp nx fa tp rs rv ct it ex pl pf h
  obtain ⟨⟨N, R⟩, RKp, TT, S, F, PP, PXp⟩ := h
  obtain ⟨r, u1, u2, u3, u4, f1, f2, S1⟩ := o_row S (xs (5 * j + 1)) (xs (5 * j + 2))
  refine bv_aload_n C 2 dL_law_1881 rfl ?_
  refine lw_arg C (fun _ _ h => h.2.2.2) hL hj 1 (by decide) rfl dL_law_1882 dL_law_1883 dL_law_1884 dL_law_1885 dL_law_1886 ?_
  refine lw_arg C (fun _ _ h => h.2.2.2) hL hj 2 (by decide) rfl dL_law_1887 dL_law_1888 dL_law_1889 dL_law_1890 dL_law_1891 ?_
  refine bv_kV C (As := [.int (xs (5 * j + 1)), .int (xs (5 * j + 2))]) (st := []) (fun l9 => k_X5_row hq f1) rfl cut_left rfl (fun _ h => h) (NTo.of lwN_ok (fun _ _ h => h.1.1) (List.range _) rg_left rfl) xN_ok gL_law_X5_row 0 rfl rfl rfl rfl nL_X5_row ⟨rfl, rfl, (Nat.le_of_ble_eq_true rfl), (Nat.le_of_ble_eq_true rfl), by show 44 + 140 * j + 0 ≤ 600000; omega, by show 18765 + 12000 * j + 0 ≤ 7302249; omega⟩ dL_law_1892 (Nat.le_of_ble_eq_true rfl) rfl ?_
  refine bv_eqw (List.append_assoc _ _ _) ?_
  refine bv_aload_n C 1 dL_law_1895 rfl ?_
  refine lw_arg C (fun _ _ h => h.2.2.2) hL hj 1 (by decide) rfl dL_law_1896 dL_law_1897 dL_law_1898 dL_law_1899 dL_law_1900 ?_
  refine lw_arg C (fun _ _ h => h.2.2.2) hL hj 2 (by decide) rfl dL_law_1901 dL_law_1902 dL_law_1903 dL_law_1904 dL_law_1905 ?_
  refine bv_kV C (As := [.int (xs (5 * j + 1)), .int (xs (5 * j + 2))]) (st := [.int r]) (fun l9 => k_X6_row (N := NT) hm NT_ok f2) rfl cut_left rfl (fun _ h => h.sub [0, 1] rfl) NTo.nt NT_ok gL_law_X6_row 0 rfl rfl rfl rfl nL_X6_row ⟨rfl, rfl, (Nat.le_of_ble_eq_true rfl), (Nat.le_of_ble_eq_true rfl), by show 44 + 140 * j + 0 ≤ 600000; omega, by show 18765 + 12000 * j + 0 ≤ 7302249; omega⟩ dL_law_1906 (Nat.le_of_ble_eq_true rfl) rfl ?_
  refine bv_icmp_eq_t C dL_law_1909 (tgt := 2090) (by decide) rfl ?_
  refine bv_rot ?_
  refine bv_widen (cs1 := 44 + 140 * (j + 1)) (sl1 := 18765 + 12000 * (j + 1)) (by omega) (by omega) ?_
  exact lw_tail C (by decide) dL_law_2090 dL_law_2093 (nx_ _ _ _ _ _ _ _ _ _ _ _ _ _ _ _ _ _ _ _ _ _ _ _ _ _ _ _ _ _ _ _ _ _ _ _ _ _ _ _ _ _ _ _ _ _ _ ⟨⟨_, R⟩, RKp, TT, S1, F, PP, PXp⟩)

theorem nL_X5_set : NameIn yX5_set 3 := ⟨by decide +kernel, by decide +kernel, by decide +kernel⟩
theorem nL_X6_set : NameIn yX6_set 3 := ⟨by decide +kernel, by decide +kernel, by decide +kernel⟩
set_option maxRecDepth 100000 in
set_option maxHeartbeats 4000000 in
theorem lc_48 (C : O2 X cL_law 4 (some .boolean) wsL_law RL room_1 D vwCl (xT cs) [] (lwN tF tO tT e0 k0 x0 e1 k1 x1 e2 k2 x2 fv b L xs)) (hq : (xA qx).Nodup) (hm : (mA qm).Nodup) (hL : L ≤ 2560) (hj : 5 * j + 5 ≤ L) (nx_ : LI X cs qx qm e0 x0 b (j + 1) 18) : LI X cs qx qm e0 x0 b j 1914 := by
  intro n nd es kn knd kes img tl ta tn sl bey wt un ed kwt kun ked tb sb sz sbs G K P wk wh isK isB fed at_ ltr ab ps g kp nx fa tp rs rv ct it ex pl pf h
  obtain ⟨⟨N, R⟩, RKp, TT, S, F, PP, PXp⟩ := h
  have hc18 : Cond.constantLong RL 18 4294967295 ∈ wsL_law := lw_c18
  obtain ⟨r, u1, u2, f1, f2, S1⟩ := o_set S (xs (5 * j + 1)) (xs (5 * j + 2)) (((xs (5 * j + 3)).toInt64 <<< ((32 : Int32).toInt64 &&& 63)) ||| ((xs (5 * j + 4)).toInt64 &&& 4294967295))
  refine bv_aload_n C 2 dL_law_1914 rfl ?_
  refine lw_arg C (fun _ _ h => h.2.2.2) hL hj 1 (by decide) rfl dL_law_1915 dL_law_1916 dL_law_1917 dL_law_1918 dL_law_1919 ?_
  refine lw_arg C (fun _ _ h => h.2.2.2) hL hj 2 (by decide) rfl dL_law_1920 dL_law_1921 dL_law_1922 dL_law_1923 dL_law_1924 ?_
  refine lw_arg C (fun _ _ h => h.2.2.2) hL hj 3 (by decide) rfl dL_law_1925 dL_law_1926 dL_law_1927 dL_law_1928 dL_law_1929 ?_
  refine bv_i2l C dL_law_1930 rfl ?_
  refine bv_bipush C dL_law_1931 (v := 32) (by decide) ?_
  refine bv_lshl C dL_law_1933 ?_
  refine lw_arg C (fun _ _ h => h.2.2.2) hL hj 4 (by decide) rfl dL_law_1934 dL_law_1935 dL_law_1936 dL_law_1937 dL_law_1938 ?_
  refine bv_i2l C dL_law_1939 rfl ?_
  refine bv_ldc2 C (v := 4294967295) hc18 dL_law_1940 ?_
  refine bv_land C dL_law_1943 ?_
  refine bv_lor C dL_law_1944 ?_
  refine bv_kV C (As := [.int (xs (5 * j + 1)), .int (xs (5 * j + 2)), .long (((xs (5 * j + 3)).toInt64 <<< ((32 : Int32).toInt64 &&& 63)) ||| ((xs (5 * j + 4)).toInt64 &&& 4294967295))]) (st := []) (fun l9 => k_X5_set hq f1) rfl cut_left rfl (fun _ h => h) (NTo.of lwN_ok (fun _ _ h => h.1.1) (List.range _) rg_left rfl) xN_ok gL_law_X5_set 0 rfl rfl rfl rfl nL_X5_set ⟨rfl, rfl, (Nat.le_of_ble_eq_true rfl), (Nat.le_of_ble_eq_true rfl), by show 44 + 140 * j + 0 ≤ 600000; omega, by show 18765 + 12000 * j + 0 ≤ 7302249; omega⟩ dL_law_1945 (Nat.le_of_ble_eq_true rfl) rfl ?_
  refine bv_eqw (List.append_assoc _ _ _) ?_
  refine bv_aload_n C 1 dL_law_1948 rfl ?_
  refine lw_arg C (fun _ _ h => h.2.2.2) hL hj 1 (by decide) rfl dL_law_1949 dL_law_1950 dL_law_1951 dL_law_1952 dL_law_1953 ?_
  refine lw_arg C (fun _ _ h => h.2.2.2) hL hj 2 (by decide) rfl dL_law_1954 dL_law_1955 dL_law_1956 dL_law_1957 dL_law_1958 ?_
  refine lw_arg C (fun _ _ h => h.2.2.2) hL hj 3 (by decide) rfl dL_law_1959 dL_law_1960 dL_law_1961 dL_law_1962 dL_law_1963 ?_
  refine bv_i2l C dL_law_1964 rfl ?_
  refine bv_bipush C dL_law_1965 (v := 32) (by decide) ?_
  refine bv_lshl C dL_law_1967 ?_
  refine lw_arg C (fun _ _ h => h.2.2.2) hL hj 4 (by decide) rfl dL_law_1968 dL_law_1969 dL_law_1970 dL_law_1971 dL_law_1972 ?_
  refine bv_i2l C dL_law_1973 rfl ?_
  refine bv_ldc2 C (v := 4294967295) hc18 dL_law_1974 ?_
  refine bv_land C dL_law_1977 ?_
  refine bv_lor C dL_law_1978 ?_
  refine bv_kV C (As := [.int (xs (5 * j + 1)), .int (xs (5 * j + 2)), .long (((xs (5 * j + 3)).toInt64 <<< ((32 : Int32).toInt64 &&& 63)) ||| ((xs (5 * j + 4)).toInt64 &&& 4294967295))]) (st := [.int r]) (fun l9 => k_X6_set (N := NT) hm NT_ok f2) rfl cut_left rfl (fun _ h => h.sub [0, 1] rfl) NTo.nt NT_ok gL_law_X6_set 0 rfl rfl rfl rfl nL_X6_set ⟨rfl, rfl, (Nat.le_of_ble_eq_true rfl), (Nat.le_of_ble_eq_true rfl), by show 44 + 140 * j + 0 ≤ 600000; omega, by show 18765 + 12000 * j + 0 ≤ 7302249; omega⟩ dL_law_1979 (Nat.le_of_ble_eq_true rfl) rfl ?_
  refine bv_icmp_eq_t C dL_law_1982 (tgt := 2090) (by decide) rfl ?_
  refine bv_rot ?_
  refine bv_widen (cs1 := 44 + 140 * (j + 1)) (sl1 := 18765 + 12000 * (j + 1)) (by omega) (by omega) ?_
  exact lw_tail C (by decide) dL_law_2090 dL_law_2093 (nx_ _ _ _ _ _ _ _ _ _ _ _ _ _ _ _ _ _ _ _ _ _ _ _ _ _ _ _ _ _ _ _ _ _ _ _ _ _ _ _ _ _ _ _ _ _ _ ⟨⟨_, R⟩, RKp, TT, S1, F, PP, PXp⟩)

theorem nL_X5_get : NameIn yX5_get 2 := ⟨by decide +kernel, by decide +kernel, by decide +kernel⟩
theorem nL_X6_get : NameIn yX6_get 2 := ⟨by decide +kernel, by decide +kernel, by decide +kernel⟩
set_option maxRecDepth 100000 in
set_option maxHeartbeats 4000000 in
theorem lc_49 (C : O2 X cL_law 4 (some .boolean) wsL_law RL room_1 D vwCl (xT cs) [] (lwN tF tO tT e0 k0 x0 e1 k1 x1 e2 k2 x2 fv b L xs)) (hq : (xA qx).Nodup) (hm : (mA qm).Nodup) (hL : L ≤ 2560) (hj : 5 * j + 5 ≤ L) (nx_ : LI X cs qx qm e0 x0 b (j + 1) 18) : LI X cs qx qm e0 x0 b j 1987 := by
  intro n nd es kn knd kes img tl ta tn sl bey wt un ed kwt kun ked tb sb sz sbs G K P wk wh isK isB fed at_ ltr ab ps g kp nx fa tp rs rv ct it ex pl pf h
  obtain ⟨⟨N, R⟩, RKp, TT, S, F, PP, PXp⟩ := h
  obtain ⟨r, f1, f2⟩ := o_get S (xs (5 * j + 1)) (xs (5 * j + 2))
  refine bv_aload_n C 2 dL_law_1987 rfl ?_
  refine lw_arg C (fun _ _ h => h.2.2.2) hL hj 1 (by decide) rfl dL_law_1988 dL_law_1989 dL_law_1990 dL_law_1991 dL_law_1992 ?_
  refine lw_arg C (fun _ _ h => h.2.2.2) hL hj 2 (by decide) rfl dL_law_1993 dL_law_1994 dL_law_1995 dL_law_1996 dL_law_1997 ?_
  refine bv_kV C (As := [.int (xs (5 * j + 1)), .int (xs (5 * j + 2))]) (st := []) (fun l9 => k_X5_get hq f1) rfl cut_left rfl (fun _ h => h) (NTo.of lwN_ok (fun _ _ h => h.1.1) (List.range _) rg_left rfl) xN_ok gL_law_X5_get 0 rfl rfl rfl rfl nL_X5_get ⟨rfl, rfl, (Nat.le_of_ble_eq_true rfl), (Nat.le_of_ble_eq_true rfl), by show 44 + 140 * j + 0 ≤ 600000; omega, by show 18765 + 12000 * j + 0 ≤ 7302249; omega⟩ dL_law_1998 (Nat.le_of_ble_eq_true rfl) rfl ?_
  refine bv_eqw (List.append_assoc _ _ _) ?_
  refine bv_aload_n C 1 dL_law_2001 rfl ?_
  refine lw_arg C (fun _ _ h => h.2.2.2) hL hj 1 (by decide) rfl dL_law_2002 dL_law_2003 dL_law_2004 dL_law_2005 dL_law_2006 ?_
  refine lw_arg C (fun _ _ h => h.2.2.2) hL hj 2 (by decide) rfl dL_law_2007 dL_law_2008 dL_law_2009 dL_law_2010 dL_law_2011 ?_
  refine bv_kV C (As := [.int (xs (5 * j + 1)), .int (xs (5 * j + 2))]) (st := [.long r]) (fun l9 => k_X6_get (N := NT) hm NT_ok f2) rfl cut_left rfl (fun _ h => h.sub [0, 1] rfl) NTo.nt NT_ok gL_law_X6_get 0 rfl rfl rfl rfl nL_X6_get ⟨rfl, rfl, (Nat.le_of_ble_eq_true rfl), (Nat.le_of_ble_eq_true rfl), by show 44 + 140 * j + 0 ≤ 600000; omega, by show 18765 + 12000 * j + 0 ≤ 7302249; omega⟩ dL_law_2012 (Nat.le_of_ble_eq_true rfl) rfl ?_
  refine bv_lcmp_eq C dL_law_2015 dL_law_2016 (tgt := 2090) (by decide) (fun _ => ?_) (fun z => absurd rfl z)
  refine bv_rot ?_
  refine bv_widen (cs1 := 44 + 140 * (j + 1)) (sl1 := 18765 + 12000 * (j + 1)) (by omega) (by omega) ?_
  exact lw_tail C (by decide) dL_law_2090 dL_law_2093 (nx_ _ _ _ _ _ _ _ _ _ _ _ _ _ _ _ _ _ _ _ _ _ _ _ _ _ _ _ _ _ _ _ _ _ _ _ _ _ _ _ _ _ _ _ _ _ _ ⟨⟨_, R⟩, RKp, TT, S, F, PP, PXp⟩)

theorem nL_X5_lay : NameIn yX5_lay 3 := ⟨by decide +kernel, by decide +kernel, by decide +kernel⟩
theorem nL_X6_lay : NameIn yX6_lay 3 := ⟨by decide +kernel, by decide +kernel, by decide +kernel⟩
set_option maxRecDepth 100000 in
set_option maxHeartbeats 4000000 in
theorem lc_50 (C : O2 X cL_law 4 (some .boolean) wsL_law RL room_1 D vwCl (xT cs) [] (lwN tF tO tT e0 k0 x0 e1 k1 x1 e2 k2 x2 fv b L xs)) (hq : (xA qx).Nodup) (hm : (mA qm).Nodup) (hL : L ≤ 2560) (hj : 5 * j + 5 ≤ L) (nx_ : LI X cs qx qm e0 x0 b (j + 1) 18) : LI X cs qx qm e0 x0 b j 2021 := by
  intro n nd es kn knd kes img tl ta tn sl bey wt un ed kwt kun ked tb sb sz sbs G K P wk wh isK isB fed at_ ltr ab ps g kp nx fa tp rs rv ct it ex pl pf h
  obtain ⟨⟨N, R⟩, RKp, TT, S, F, PP, PXp⟩ := h
  obtain ⟨r, u1, u2, u3, u4, u5, u6, u7, f1, f2, S1⟩ := o_lay R S F bey isB ab wh nx (xs (5 * j + 1)) (xs (5 * j + 2)) (xs (5 * j + 3))
  refine bv_aload_n C 2 dL_law_2021 rfl ?_
  refine lw_arg C (fun _ _ h => h.2.2.2) hL hj 1 (by decide) rfl dL_law_2022 dL_law_2023 dL_law_2024 dL_law_2025 dL_law_2026 ?_
  refine lw_arg C (fun _ _ h => h.2.2.2) hL hj 2 (by decide) rfl dL_law_2027 dL_law_2028 dL_law_2029 dL_law_2030 dL_law_2031 ?_
  refine lw_arg C (fun _ _ h => h.2.2.2) hL hj 3 (by decide) rfl dL_law_2032 dL_law_2033 dL_law_2034 dL_law_2035 dL_law_2036 ?_
  refine bv_kV C (As := [.int (xs (5 * j + 1)), .int (xs (5 * j + 2)), .int (xs (5 * j + 3))]) (st := []) (fun l9 => k_X5_lay hq f1) rfl cut_left rfl (fun _ h => h) (NTo.of lwN_ok (fun _ _ h => h.1.1) (List.range _) rg_left rfl) xN_ok gL_law_X5_lay 0 rfl rfl rfl rfl nL_X5_lay ⟨rfl, rfl, (Nat.le_of_ble_eq_true rfl), (Nat.le_of_ble_eq_true rfl), by show 44 + 140 * j + 0 ≤ 600000; omega, by show 18765 + 12000 * j + 0 ≤ 7302249; omega⟩ dL_law_2037 (Nat.le_of_ble_eq_true rfl) rfl ?_
  refine bv_eqw (List.append_assoc _ _ _) ?_
  refine bv_aload_n C 1 dL_law_2040 rfl ?_
  refine lw_arg C (fun _ _ h => h.2.2.2) hL hj 1 (by decide) rfl dL_law_2041 dL_law_2042 dL_law_2043 dL_law_2044 dL_law_2045 ?_
  refine lw_arg C (fun _ _ h => h.2.2.2) hL hj 2 (by decide) rfl dL_law_2046 dL_law_2047 dL_law_2048 dL_law_2049 dL_law_2050 ?_
  refine lw_arg C (fun _ _ h => h.2.2.2) hL hj 3 (by decide) rfl dL_law_2051 dL_law_2052 dL_law_2053 dL_law_2054 dL_law_2055 ?_
  refine bv_kV C (As := [.int (xs (5 * j + 1)), .int (xs (5 * j + 2)), .int (xs (5 * j + 3))]) (st := [.int r]) (fun l9 => k_X6_lay (N := NT) hm NT_ok f2) rfl cut_left rfl (fun _ h => h.sub [0, 1] rfl) NTo.nt NT_ok gL_law_X6_lay 0 rfl rfl rfl rfl nL_X6_lay ⟨rfl, rfl, (Nat.le_of_ble_eq_true rfl), (Nat.le_of_ble_eq_true rfl), by show 44 + 140 * j + 0 ≤ 600000; omega, by show 18765 + 12000 * j + 0 ≤ 7302249; omega⟩ dL_law_2056 (Nat.le_of_ble_eq_true rfl) rfl ?_
  refine bv_icmp_eq_t C dL_law_2059 (tgt := 2090) (by decide) rfl ?_
  refine bv_rot ?_
  refine bv_widen (cs1 := 44 + 140 * (j + 1)) (sl1 := 18765 + 12000 * (j + 1)) (by omega) (by omega) ?_
  exact lw_tail C (by decide) dL_law_2090 dL_law_2093 (nx_ _ _ _ _ _ _ _ _ _ _ _ _ _ _ _ _ _ _ _ _ _ _ _ _ _ _ _ _ _ _ _ _ _ _ _ _ _ _ _ _ _ _ _ _ _ _ ⟨⟨_, R⟩, RKp, TT, S1, F, PP, PXp⟩)

theorem nL_X5_image : NameIn yX5_image 0 := ⟨by decide +kernel, by decide +kernel, by decide +kernel⟩
theorem nL_X6_image : NameIn yX6_image 0 := ⟨by decide +kernel, by decide +kernel, by decide +kernel⟩
set_option maxRecDepth 100000 in
set_option maxHeartbeats 4000000 in
theorem lc_51 (C : O2 X cL_law 4 (some .boolean) wsL_law RL room_1 D vwCl (xT cs) [] (lwN tF tO tT e0 k0 x0 e1 k1 x1 e2 k2 x2 fv b L xs)) (hq : (xA qx).Nodup) (hm : (mA qm).Nodup) (hL : L ≤ 2560) (hj : 5 * j + 5 ≤ L) (nx_ : LI X cs qx qm e0 x0 b (j + 1) 18) : LI X cs qx qm e0 x0 b j 2064 := by
  intro n nd es kn knd kes img tl ta tn sl bey wt un ed kwt kun ked tb sb sz sbs G K P wk wh isK isB fed at_ ltr ab ps g kp nx fa tp rs rv ct it ex pl pf h
  obtain ⟨⟨N, R⟩, RKp, TT, S, F, PP, PXp⟩ := h
  obtain ⟨r, u1, u2, u3, u4, u5, u6, u7, u8, f1, f2, K1⟩ := o_image (kn := kn) (knd := knd) (kes := kes) (img := img) (kwt := kwt) (kun := kun) (ked := ked) (K := K) (kp := kp) R isK
  refine bv_aload_n C 2 dL_law_2064 rfl ?_
  refine bv_kV C (As := []) (st := []) (fun l9 => k_X5_image hq f1) rfl cut_left rfl (fun _ h => h) (NTo.of lwN_ok (fun _ _ h => h.1.1) (List.range _) rg_left rfl) xN_ok gL_law_X5_image 0 rfl rfl rfl rfl nL_X5_image ⟨rfl, rfl, (Nat.le_of_ble_eq_true rfl), (Nat.le_of_ble_eq_true rfl), by show 44 + 140 * j + 0 ≤ 600000; omega, by show 18765 + 12000 * j + 0 ≤ 7302249; omega⟩ dL_law_2065 (Nat.le_of_ble_eq_true rfl) rfl ?_
  refine bv_eqw (List.append_assoc _ _ _) ?_
  refine bv_aload_n C 1 dL_law_2068 rfl ?_
  refine bv_kV C (As := []) (st := [.int r]) (fun l9 => k_X6_image (N := NT) hm NT_ok f2) rfl cut_left rfl (fun _ h => h.sub [0, 1] rfl) NTo.nt NT_ok gL_law_X6_image 0 rfl rfl rfl rfl nL_X6_image ⟨rfl, rfl, (Nat.le_of_ble_eq_true rfl), (Nat.le_of_ble_eq_true rfl), by show 44 + 140 * j + 0 ≤ 600000; omega, by show 18765 + 12000 * j + 0 ≤ 7302249; omega⟩ dL_law_2069 (Nat.le_of_ble_eq_true rfl) rfl ?_
  refine bv_icmp_eq_t C dL_law_2072 (tgt := 2090) (by decide) rfl ?_
  refine bv_rot ?_
  refine bv_widen (cs1 := 44 + 140 * (j + 1)) (sl1 := 18765 + 12000 * (j + 1)) (by omega) (by omega) ?_
  exact lw_tail C (by decide) dL_law_2090 dL_law_2093 (nx_ _ _ _ _ _ _ _ _ _ _ _ _ _ _ _ _ _ _ _ _ _ _ _ _ _ _ _ _ _ _ _ _ _ _ _ _ _ _ _ _ _ _ _ _ _ _ ⟨⟨_, R⟩, K1, TT, S, F, PP, PXp⟩)

theorem nL_X5_undo : NameIn yX5_undo 0 := ⟨by decide +kernel, by decide +kernel, by decide +kernel⟩
theorem nL_X6_undo : NameIn yX6_undo 0 := ⟨by decide +kernel, by decide +kernel, by decide +kernel⟩
set_option maxRecDepth 100000 in
set_option maxHeartbeats 4000000 in
theorem lc_52 (C : O2 X cL_law 4 (some .boolean) wsL_law RL room_1 D vwCl (xT cs) [] (lwN tF tO tT e0 k0 x0 e1 k1 x1 e2 k2 x2 fv b L xs)) (hq : (xA qx).Nodup) (hm : (mA qm).Nodup) (hL : L ≤ 2560) (hj : 5 * j + 5 ≤ L) (nx_ : LI X cs qx qm e0 x0 b (j + 1) 18) : LI X cs qx qm e0 x0 b j 2077 := by
  intro n nd es kn knd kes img tl ta tn sl bey wt un ed kwt kun ked tb sb sz sbs G K P wk wh isK isB fed at_ ltr ab ps g kp nx fa tp rs rv ct it ex pl pf h
  obtain ⟨⟨N, R⟩, RKp, TT, S, F, PP, PXp⟩ := h
  obtain ⟨r, u1, u2, u3, u4, u5, u6, u7, u8, u9, f1, f2, R1⟩ := o_undo R RKp
  refine bv_aload_n C 2 dL_law_2077 rfl ?_
  refine bv_kV C (As := []) (st := []) (fun l9 => k_X5_undo hq f1) rfl cut_left rfl (fun _ h => h) (NTo.of lwN_ok (fun _ _ h => h.1.1) (List.range _) rg_left rfl) xN_ok gL_law_X5_undo 0 rfl rfl rfl rfl nL_X5_undo ⟨rfl, rfl, (Nat.le_of_ble_eq_true rfl), (Nat.le_of_ble_eq_true rfl), by show 44 + 140 * j + 0 ≤ 600000; omega, by show 18765 + 12000 * j + 0 ≤ 7302249; omega⟩ dL_law_2078 (Nat.le_of_ble_eq_true rfl) rfl ?_
  refine bv_eqw (List.append_assoc _ _ _) ?_
  refine bv_aload_n C 1 dL_law_2081 rfl ?_
  refine bv_kV C (As := []) (st := [.int r]) (fun l9 => k_X6_undo (N := NT) hm NT_ok f2) rfl cut_left rfl (fun _ h => h.sub [0, 1] rfl) NTo.nt NT_ok gL_law_X6_undo 0 rfl rfl rfl rfl nL_X6_undo ⟨rfl, rfl, (Nat.le_of_ble_eq_true rfl), (Nat.le_of_ble_eq_true rfl), by show 44 + 140 * j + 0 ≤ 600000; omega, by show 18765 + 12000 * j + 0 ≤ 7302249; omega⟩ dL_law_2082 (Nat.le_of_ble_eq_true rfl) rfl ?_
  refine bv_icmp_eq_t C dL_law_2085 (tgt := 2090) (by decide) rfl ?_
  refine bv_rot ?_
  refine bv_widen (cs1 := 44 + 140 * (j + 1)) (sl1 := 18765 + 12000 * (j + 1)) (by omega) (by omega) ?_
  exact lw_tail C (by decide) dL_law_2090 dL_law_2093 (nx_ _ _ _ _ _ _ _ _ _ _ _ _ _ _ _ _ _ _ _ _ _ _ _ _ _ _ _ _ _ _ _ _ _ _ _ _ _ _ _ _ _ _ _ _ _ _ ⟨⟨_, R1⟩, RKp, TT, S, F, PP, PXp⟩)
end LC
