section LC
variable {X : CX} {cs : Nat → ClassId} {qx qm : Nat → Nat} {D : va_G} {tF tO tT e0 k0 e1 k1 e2 k2 b L j : Nat} {x0 x1 x2 xs : Nat → Int32} {fv : Value}
theorem nL_X5_add : NameIn yX5_add 2 := ⟨by decide +kernel, by decide +kernel, by decide +kernel⟩
theorem nL_X6_add : NameIn yX6_add 2 := ⟨by decide +kernel, by decide +kernel, by decide +kernel⟩
set_option maxRecDepth 100000 in
set_option maxHeartbeats 4000000 in
theorem lc_14 (C : O2 X cL_law 4 (some .boolean) wsL_law RL room_1 D vwCl (xT cs) [] (lwN tF tO tT e0 k0 x0 e1 k1 x1 e2 k2 x2 fv b L xs)) (hq : (xA qx).Nodup) (hm : (mA qm).Nodup) (hL : L ≤ 2560) (hj : 5 * j + 5 ≤ L) (nx_ : LI X cs qx qm e0 x0 b (j + 1) 18) : LI X cs qx qm e0 x0 b j 733 := by
  intro n nd es kn knd kes img tl ta tn sl bey wt un ed kwt kun ked tb sb sz sbs G K P wk wh isK isB fed at_ ltr ab ps g kp nx fa tp rs rv ct it ex pl pf h
  obtain ⟨⟨N, R⟩, RKp, TT, S, F, PP, PXp⟩ := h
  obtain ⟨r, u1, u2, u3, u4, u5, u6, f1, f2, R1⟩ := o_add R bey wk isB nx (xs (5 * j + 1)) (xs (5 * j + 2))
  refine bv_aload_n C 2 dL_law_733 rfl ?_
  refine lw_arg C (fun _ _ h => h.2.2.2) hL hj 1 (by decide) rfl dL_law_734 dL_law_735 dL_law_736 dL_law_737 dL_law_738 ?_
  refine lw_arg C (fun _ _ h => h.2.2.2) hL hj 2 (by decide) rfl dL_law_739 dL_law_740 dL_law_741 dL_law_742 dL_law_743 ?_
  refine bv_kV C (As := [.int (xs (5 * j + 1)), .int (xs (5 * j + 2))]) (st := []) (fun l9 => k_X5_add hq f1) rfl cut_left rfl (fun _ h => h) (NTo.of lwN_ok (fun _ _ h => h.1.1) (List.range _) rg_left rfl) xN_ok gL_law_X5_add 0 rfl rfl rfl rfl nL_X5_add ⟨rfl, rfl, (Nat.le_of_ble_eq_true rfl), (Nat.le_of_ble_eq_true rfl), by show 44 + 140 * j + 0 ≤ 600000; omega, by show 18765 + 12000 * j + 0 ≤ 7302249; omega⟩ dL_law_744 (Nat.le_of_ble_eq_true rfl) rfl ?_
  refine bv_eqw (List.append_assoc _ _ _) ?_
  refine bv_aload_n C 1 dL_law_747 rfl ?_
  refine lw_arg C (fun _ _ h => h.2.2.2) hL hj 1 (by decide) rfl dL_law_748 dL_law_749 dL_law_750 dL_law_751 dL_law_752 ?_
  refine lw_arg C (fun _ _ h => h.2.2.2) hL hj 2 (by decide) rfl dL_law_753 dL_law_754 dL_law_755 dL_law_756 dL_law_757 ?_
  refine bv_kV C (As := [.int (xs (5 * j + 1)), .int (xs (5 * j + 2))]) (st := [.int r]) (fun l9 => k_X6_add (N := NT) hm NT_ok f2) rfl cut_left rfl (fun _ h => h.sub [0, 1] rfl) NTo.nt NT_ok gL_law_X6_add 0 rfl rfl rfl rfl nL_X6_add ⟨rfl, rfl, (Nat.le_of_ble_eq_true rfl), (Nat.le_of_ble_eq_true rfl), by show 44 + 140 * j + 0 ≤ 600000; omega, by show 18765 + 12000 * j + 0 ≤ 7302249; omega⟩ dL_law_758 (Nat.le_of_ble_eq_true rfl) rfl ?_
  refine bv_icmp_eq_t C dL_law_761 (tgt := 2090) (by decide) rfl ?_
  refine bv_rot ?_
  refine bv_widen (cs1 := 44 + 140 * (j + 1)) (sl1 := 18765 + 12000 * (j + 1)) (by omega) (by omega) ?_
  exact lw_tail C (by decide) dL_law_2090 dL_law_2093 (nx_ _ _ _ _ _ _ _ _ _ _ _ _ _ _ _ _ _ _ _ _ _ _ _ _ _ _ _ _ _ _ _ _ _ _ _ _ _ _ _ _ _ _ _ _ _ _ ⟨⟨_, R1⟩, RKp, TT, S, F, PP, PXp⟩)

theorem nL_X5_times : NameIn yX5_times 2 := ⟨by decide +kernel, by decide +kernel, by decide +kernel⟩
theorem nL_X6_times : NameIn yX6_times 2 := ⟨by decide +kernel, by decide +kernel, by decide +kernel⟩
set_option maxRecDepth 100000 in
set_option maxHeartbeats 4000000 in
theorem lc_15 (C : O2 X cL_law 4 (some .boolean) wsL_law RL room_1 D vwCl (xT cs) [] (lwN tF tO tT e0 k0 x0 e1 k1 x1 e2 k2 x2 fv b L xs)) (hq : (xA qx).Nodup) (hm : (mA qm).Nodup) (hL : L ≤ 2560) (hj : 5 * j + 5 ≤ L) (nx_ : LI X cs qx qm e0 x0 b (j + 1) 18) : LI X cs qx qm e0 x0 b j 766 := by
  intro n nd es kn knd kes img tl ta tn sl bey wt un ed kwt kun ked tb sb sz sbs G K P wk wh isK isB fed at_ ltr ab ps g kp nx fa tp rs rv ct it ex pl pf h
  obtain ⟨⟨N, R⟩, RKp, TT, S, F, PP, PXp⟩ := h
  obtain ⟨r, u1, u2, u3, u4, u5, u6, f1, f2, R1⟩ := o_times R bey wk isB nx (xs (5 * j + 1)) (xs (5 * j + 2))
  refine bv_aload_n C 2 dL_law_766 rfl ?_
  refine lw_arg C (fun _ _ h => h.2.2.2) hL hj 1 (by decide) rfl dL_law_767 dL_law_768 dL_law_769 dL_law_770 dL_law_771 ?_
  refine lw_arg C (fun _ _ h => h.2.2.2) hL hj 2 (by decide) rfl dL_law_772 dL_law_773 dL_law_774 dL_law_775 dL_law_776 ?_
  refine bv_kV C (As := [.int (xs (5 * j + 1)), .int (xs (5 * j + 2))]) (st := []) (fun l9 => k_X5_times hq f1) rfl cut_left rfl (fun _ h => h) (NTo.of lwN_ok (fun _ _ h => h.1.1) (List.range _) rg_left rfl) xN_ok gL_law_X5_times 0 rfl rfl rfl rfl nL_X5_times ⟨rfl, rfl, (Nat.le_of_ble_eq_true rfl), (Nat.le_of_ble_eq_true rfl), by show 44 + 140 * j + 0 ≤ 600000; omega, by show 18765 + 12000 * j + 0 ≤ 7302249; omega⟩ dL_law_777 (Nat.le_of_ble_eq_true rfl) rfl ?_
  refine bv_eqw (List.append_assoc _ _ _) ?_
  refine bv_aload_n C 1 dL_law_780 rfl ?_
  refine lw_arg C (fun _ _ h => h.2.2.2) hL hj 1 (by decide) rfl dL_law_781 dL_law_782 dL_law_783 dL_law_784 dL_law_785 ?_
  refine lw_arg C (fun _ _ h => h.2.2.2) hL hj 2 (by decide) rfl dL_law_786 dL_law_787 dL_law_788 dL_law_789 dL_law_790 ?_
  refine bv_kV C (As := [.int (xs (5 * j + 1)), .int (xs (5 * j + 2))]) (st := [.int r]) (fun l9 => k_X6_times (N := NT) hm NT_ok f2) rfl cut_left rfl (fun _ h => h.sub [0, 1] rfl) NTo.nt NT_ok gL_law_X6_times 0 rfl rfl rfl rfl nL_X6_times ⟨rfl, rfl, (Nat.le_of_ble_eq_true rfl), (Nat.le_of_ble_eq_true rfl), by show 44 + 140 * j + 0 ≤ 600000; omega, by show 18765 + 12000 * j + 0 ≤ 7302249; omega⟩ dL_law_791 (Nat.le_of_ble_eq_true rfl) rfl ?_
  refine bv_icmp_eq_t C dL_law_794 (tgt := 2090) (by decide) rfl ?_
  refine bv_rot ?_
  refine bv_widen (cs1 := 44 + 140 * (j + 1)) (sl1 := 18765 + 12000 * (j + 1)) (by omega) (by omega) ?_
  exact lw_tail C (by decide) dL_law_2090 dL_law_2093 (nx_ _ _ _ _ _ _ _ _ _ _ _ _ _ _ _ _ _ _ _ _ _ _ _ _ _ _ _ _ _ _ _ _ _ _ _ _ _ _ _ _ _ _ _ _ _ _ ⟨⟨_, R1⟩, RKp, TT, S, F, PP, PXp⟩)

theorem nL_X5_dual : NameIn yX5_dual 1 := ⟨by decide +kernel, by decide +kernel, by decide +kernel⟩
theorem nL_X6_dual : NameIn yX6_dual 1 := ⟨by decide +kernel, by decide +kernel, by decide +kernel⟩
set_option maxRecDepth 100000 in
set_option maxHeartbeats 4000000 in
theorem lc_16 (C : O2 X cL_law 4 (some .boolean) wsL_law RL room_1 D vwCl (xT cs) [] (lwN tF tO tT e0 k0 x0 e1 k1 x1 e2 k2 x2 fv b L xs)) (hq : (xA qx).Nodup) (hm : (mA qm).Nodup) (hL : L ≤ 2560) (hj : 5 * j + 5 ≤ L) (nx_ : LI X cs qx qm e0 x0 b (j + 1) 18) : LI X cs qx qm e0 x0 b j 799 := by
  intro n nd es kn knd kes img tl ta tn sl bey wt un ed kwt kun ked tb sb sz sbs G K P wk wh isK isB fed at_ ltr ab ps g kp nx fa tp rs rv ct it ex pl pf h
  obtain ⟨⟨N, R⟩, RKp, TT, S, F, PP, PXp⟩ := h
  obtain ⟨r, u1, u2, u3, u4, u5, u6, f1, f2, R1⟩ := o_dual R bey wk isB nx (xs (5 * j + 1))
  refine bv_aload_n C 2 dL_law_799 rfl ?_
  refine lw_arg C (fun _ _ h => h.2.2.2) hL hj 1 (by decide) rfl dL_law_800 dL_law_801 dL_law_802 dL_law_803 dL_law_804 ?_
  refine bv_kV C (As := [.int (xs (5 * j + 1))]) (st := []) (fun l9 => k_X5_dual hq f1) rfl cut_left rfl (fun _ h => h) (NTo.of lwN_ok (fun _ _ h => h.1.1) (List.range _) rg_left rfl) xN_ok gL_law_X5_dual 0 rfl rfl rfl rfl nL_X5_dual ⟨rfl, rfl, (Nat.le_of_ble_eq_true rfl), (Nat.le_of_ble_eq_true rfl), by show 44 + 140 * j + 0 ≤ 600000; omega, by show 18765 + 12000 * j + 0 ≤ 7302249; omega⟩ dL_law_805 (Nat.le_of_ble_eq_true rfl) rfl ?_
  refine bv_eqw (List.append_assoc _ _ _) ?_
  refine bv_aload_n C 1 dL_law_808 rfl ?_
  refine lw_arg C (fun _ _ h => h.2.2.2) hL hj 1 (by decide) rfl dL_law_809 dL_law_810 dL_law_811 dL_law_812 dL_law_813 ?_
  refine bv_kV C (As := [.int (xs (5 * j + 1))]) (st := [.int r]) (fun l9 => k_X6_dual (N := NT) hm NT_ok f2) rfl cut_left rfl (fun _ h => h.sub [0, 1] rfl) NTo.nt NT_ok gL_law_X6_dual 0 rfl rfl rfl rfl nL_X6_dual ⟨rfl, rfl, (Nat.le_of_ble_eq_true rfl), (Nat.le_of_ble_eq_true rfl), by show 44 + 140 * j + 0 ≤ 600000; omega, by show 18765 + 12000 * j + 0 ≤ 7302249; omega⟩ dL_law_814 (Nat.le_of_ble_eq_true rfl) rfl ?_
  refine bv_icmp_eq_t C dL_law_817 (tgt := 2090) (by decide) rfl ?_
  refine bv_rot ?_
  refine bv_widen (cs1 := 44 + 140 * (j + 1)) (sl1 := 18765 + 12000 * (j + 1)) (by omega) (by omega) ?_
  exact lw_tail C (by decide) dL_law_2090 dL_law_2093 (nx_ _ _ _ _ _ _ _ _ _ _ _ _ _ _ _ _ _ _ _ _ _ _ _ _ _ _ _ _ _ _ _ _ _ _ _ _ _ _ _ _ _ _ _ _ _ _ ⟨⟨_, R1⟩, RKp, TT, S, F, PP, PXp⟩)

theorem nL_X5_cover : NameIn yX5_cover 1 := ⟨by decide +kernel, by decide +kernel, by decide +kernel⟩
theorem nL_X6_cover : NameIn yX6_cover 1 := ⟨by decide +kernel, by decide +kernel, by decide +kernel⟩
set_option maxRecDepth 100000 in
set_option maxHeartbeats 4000000 in
theorem lc_17 (C : O2 X cL_law 4 (some .boolean) wsL_law RL room_1 D vwCl (xT cs) [] (lwN tF tO tT e0 k0 x0 e1 k1 x1 e2 k2 x2 fv b L xs)) (hq : (xA qx).Nodup) (hm : (mA qm).Nodup) (hL : L ≤ 2560) (hj : 5 * j + 5 ≤ L) (nx_ : LI X cs qx qm e0 x0 b (j + 1) 18) : LI X cs qx qm e0 x0 b j 822 := by
  intro n nd es kn knd kes img tl ta tn sl bey wt un ed kwt kun ked tb sb sz sbs G K P wk wh isK isB fed at_ ltr ab ps g kp nx fa tp rs rv ct it ex pl pf h
  obtain ⟨⟨N, R⟩, RKp, TT, S, F, PP, PXp⟩ := h
  obtain ⟨r, u1, u2, u3, u4, u5, u6, f1, f2, R1⟩ := o_cover R bey isB wk nx (xs (5 * j + 1))
  refine bv_aload_n C 2 dL_law_822 rfl ?_
  refine lw_arg C (fun _ _ h => h.2.2.2) hL hj 1 (by decide) rfl dL_law_823 dL_law_824 dL_law_825 dL_law_826 dL_law_827 ?_
  refine bv_kV C (As := [.int (xs (5 * j + 1))]) (st := []) (fun l9 => k_X5_cover hq f1) rfl cut_left rfl (fun _ h => h) (NTo.of lwN_ok (fun _ _ h => h.1.1) (List.range _) rg_left rfl) xN_ok gL_law_X5_cover 0 rfl rfl rfl rfl nL_X5_cover ⟨rfl, rfl, (Nat.le_of_ble_eq_true rfl), (Nat.le_of_ble_eq_true rfl), by show 44 + 140 * j + 0 ≤ 600000; omega, by show 18765 + 12000 * j + 0 ≤ 7302249; omega⟩ dL_law_828 (Nat.le_of_ble_eq_true rfl) rfl ?_
  refine bv_eqw (List.append_assoc _ _ _) ?_
  refine bv_aload_n C 1 dL_law_831 rfl ?_
  refine lw_arg C (fun _ _ h => h.2.2.2) hL hj 1 (by decide) rfl dL_law_832 dL_law_833 dL_law_834 dL_law_835 dL_law_836 ?_
  refine bv_kV C (As := [.int (xs (5 * j + 1))]) (st := [.int r]) (fun l9 => k_X6_cover (N := NT) hm NT_ok f2) rfl cut_left rfl (fun _ h => h.sub [0, 1] rfl) NTo.nt NT_ok gL_law_X6_cover 0 rfl rfl rfl rfl nL_X6_cover ⟨rfl, rfl, (Nat.le_of_ble_eq_true rfl), (Nat.le_of_ble_eq_true rfl), by show 44 + 140 * j + 0 ≤ 600000; omega, by show 18765 + 12000 * j + 0 ≤ 7302249; omega⟩ dL_law_837 (Nat.le_of_ble_eq_true rfl) rfl ?_
  refine bv_icmp_eq_t C dL_law_840 (tgt := 2090) (by decide) rfl ?_
  refine bv_rot ?_
  refine bv_widen (cs1 := 44 + 140 * (j + 1)) (sl1 := 18765 + 12000 * (j + 1)) (by omega) (by omega) ?_
  exact lw_tail C (by decide) dL_law_2090 dL_law_2093 (nx_ _ _ _ _ _ _ _ _ _ _ _ _ _ _ _ _ _ _ _ _ _ _ _ _ _ _ _ _ _ _ _ _ _ _ _ _ _ _ _ _ _ _ _ _ _ _ ⟨⟨_, R1⟩, RKp, TT, S, F, PP, PXp⟩)

theorem nL_X5_mask : NameIn yX5_mask 2 := ⟨by decide +kernel, by decide +kernel, by decide +kernel⟩
theorem nL_X6_mask : NameIn yX6_mask 2 := ⟨by decide +kernel, by decide +kernel, by decide +kernel⟩
set_option maxRecDepth 100000 in
set_option maxHeartbeats 4000000 in
theorem lc_18 (C : O2 X cL_law 4 (some .boolean) wsL_law RL room_1 D vwCl (xT cs) [] (lwN tF tO tT e0 k0 x0 e1 k1 x1 e2 k2 x2 fv b L xs)) (hq : (xA qx).Nodup) (hm : (mA qm).Nodup) (hL : L ≤ 2560) (hj : 5 * j + 5 ≤ L) (nx_ : LI X cs qx qm e0 x0 b (j + 1) 18) : LI X cs qx qm e0 x0 b j 845 := by
  intro n nd es kn knd kes img tl ta tn sl bey wt un ed kwt kun ked tb sb sz sbs G K P wk wh isK isB fed at_ ltr ab ps g kp nx fa tp rs rv ct it ex pl pf h
  obtain ⟨⟨N, R⟩, RKp, TT, S, F, PP, PXp⟩ := h
  obtain ⟨r, u1, u2, u3, u4, u5, f1, f2, R1⟩ := o_mask R wk isB nx (xs (5 * j + 1)) (xs (5 * j + 2))
  refine bv_aload_n C 2 dL_law_845 rfl ?_
  refine lw_arg C (fun _ _ h => h.2.2.2) hL hj 1 (by decide) rfl dL_law_846 dL_law_847 dL_law_848 dL_law_849 dL_law_850 ?_
  refine lw_arg C (fun _ _ h => h.2.2.2) hL hj 2 (by decide) rfl dL_law_851 dL_law_852 dL_law_853 dL_law_854 dL_law_855 ?_
  refine bv_kV C (As := [.int (xs (5 * j + 1)), .int (xs (5 * j + 2))]) (st := []) (fun l9 => k_X5_mask hq f1) rfl cut_left rfl (fun _ h => h) (NTo.of lwN_ok (fun _ _ h => h.1.1) (List.range _) rg_left rfl) xN_ok gL_law_X5_mask 0 rfl rfl rfl rfl nL_X5_mask ⟨rfl, rfl, (Nat.le_of_ble_eq_true rfl), (Nat.le_of_ble_eq_true rfl), by show 44 + 140 * j + 0 ≤ 600000; omega, by show 18765 + 12000 * j + 0 ≤ 7302249; omega⟩ dL_law_856 (Nat.le_of_ble_eq_true rfl) rfl ?_
  refine bv_eqw (List.append_assoc _ _ _) ?_
  refine bv_aload_n C 1 dL_law_859 rfl ?_
  refine lw_arg C (fun _ _ h => h.2.2.2) hL hj 1 (by decide) rfl dL_law_860 dL_law_861 dL_law_862 dL_law_863 dL_law_864 ?_
  refine lw_arg C (fun _ _ h => h.2.2.2) hL hj 2 (by decide) rfl dL_law_865 dL_law_866 dL_law_867 dL_law_868 dL_law_869 ?_
  refine bv_kV C (As := [.int (xs (5 * j + 1)), .int (xs (5 * j + 2))]) (st := [.int r]) (fun l9 => k_X6_mask (N := NT) hm NT_ok f2) rfl cut_left rfl (fun _ h => h.sub [0, 1] rfl) NTo.nt NT_ok gL_law_X6_mask 0 rfl rfl rfl rfl nL_X6_mask ⟨rfl, rfl, (Nat.le_of_ble_eq_true rfl), (Nat.le_of_ble_eq_true rfl), by show 44 + 140 * j + 0 ≤ 600000; omega, by show 18765 + 12000 * j + 0 ≤ 7302249; omega⟩ dL_law_870 (Nat.le_of_ble_eq_true rfl) rfl ?_
  refine bv_icmp_eq_t C dL_law_873 (tgt := 2090) (by decide) rfl ?_
  refine bv_rot ?_
  refine bv_widen (cs1 := 44 + 140 * (j + 1)) (sl1 := 18765 + 12000 * (j + 1)) (by omega) (by omega) ?_
  exact lw_tail C (by decide) dL_law_2090 dL_law_2093 (nx_ _ _ _ _ _ _ _ _ _ _ _ _ _ _ _ _ _ _ _ _ _ _ _ _ _ _ _ _ _ _ _ _ _ _ _ _ _ _ _ _ _ _ _ _ _ _ ⟨⟨_, R1⟩, RKp, TT, S, F, PP, PXp⟩)

theorem nL_X5_unanimous : NameIn yX5_unanimous 3 := ⟨by decide +kernel, by decide +kernel, by decide +kernel⟩
theorem nL_X6_unanimous : NameIn yX6_unanimous 3 := ⟨by decide +kernel, by decide +kernel, by decide +kernel⟩
set_option maxRecDepth 100000 in
set_option maxHeartbeats 4000000 in
theorem lc_19 (C : O2 X cL_law 4 (some .boolean) wsL_law RL room_1 D vwCl (xT cs) [] (lwN tF tO tT e0 k0 x0 e1 k1 x1 e2 k2 x2 fv b L xs)) (hq : (xA qx).Nodup) (hm : (mA qm).Nodup) (hL : L ≤ 2560) (hj : 5 * j + 5 ≤ L) (nx_ : LI X cs qx qm e0 x0 b (j + 1) 18) : LI X cs qx qm e0 x0 b j 878 := by
  intro n nd es kn knd kes img tl ta tn sl bey wt un ed kwt kun ked tb sb sz sbs G K P wk wh isK isB fed at_ ltr ab ps g kp nx fa tp rs rv ct it ex pl pf h
  obtain ⟨⟨N, R⟩, RKp, TT, S, F, PP, PXp⟩ := h
  have hc18 : Cond.constantLong RL 18 4294967295 ∈ wsL_law := lw_c18
  obtain ⟨r, u1, u2, u3, u4, u5, u6, f1, f2, R1⟩ := o_unanimous R bey wk isB nx (xs (5 * j + 1)) (xs (5 * j + 2)) (((xs (5 * j + 3)).toInt64 <<< ((32 : Int32).toInt64 &&& 63)) ||| ((xs (5 * j + 4)).toInt64 &&& 4294967295))
  refine bv_aload_n C 2 dL_law_878 rfl ?_
  refine lw_arg C (fun _ _ h => h.2.2.2) hL hj 1 (by decide) rfl dL_law_879 dL_law_880 dL_law_881 dL_law_882 dL_law_883 ?_
  refine lw_arg C (fun _ _ h => h.2.2.2) hL hj 2 (by decide) rfl dL_law_884 dL_law_885 dL_law_886 dL_law_887 dL_law_888 ?_
  refine lw_arg C (fun _ _ h => h.2.2.2) hL hj 3 (by decide) rfl dL_law_889 dL_law_890 dL_law_891 dL_law_892 dL_law_893 ?_
  refine bv_i2l C dL_law_894 rfl ?_
  refine bv_bipush C dL_law_895 (v := 32) (by decide) ?_
  refine bv_lshl C dL_law_897 ?_
  refine lw_arg C (fun _ _ h => h.2.2.2) hL hj 4 (by decide) rfl dL_law_898 dL_law_899 dL_law_900 dL_law_901 dL_law_902 ?_
  refine bv_i2l C dL_law_903 rfl ?_
  refine bv_ldc2 C (v := 4294967295) hc18 dL_law_904 ?_
  refine bv_land C dL_law_907 ?_
  refine bv_lor C dL_law_908 ?_
  refine bv_kV C (As := [.int (xs (5 * j + 1)), .int (xs (5 * j + 2)), .long (((xs (5 * j + 3)).toInt64 <<< ((32 : Int32).toInt64 &&& 63)) ||| ((xs (5 * j + 4)).toInt64 &&& 4294967295))]) (st := []) (fun l9 => k_X5_unanimous hq f1) rfl cut_left rfl (fun _ h => h) (NTo.of lwN_ok (fun _ _ h => h.1.1) (List.range _) rg_left rfl) xN_ok gL_law_X5_unanimous 0 rfl rfl rfl rfl nL_X5_unanimous ⟨rfl, rfl, (Nat.le_of_ble_eq_true rfl), (Nat.le_of_ble_eq_true rfl), by show 44 + 140 * j + 0 ≤ 600000; omega, by show 18765 + 12000 * j + 0 ≤ 7302249; omega⟩ dL_law_909 (Nat.le_of_ble_eq_true rfl) rfl ?_
  refine bv_eqw (List.append_assoc _ _ _) ?_
  refine bv_aload_n C 1 dL_law_912 rfl ?_
  refine lw_arg C (fun _ _ h => h.2.2.2) hL hj 1 (by decide) rfl dL_law_913 dL_law_914 dL_law_915 dL_law_916 dL_law_917 ?_
  refine lw_arg C (fun _ _ h => h.2.2.2) hL hj 2 (by decide) rfl dL_law_918 dL_law_919 dL_law_920 dL_law_921 dL_law_922 ?_
  refine lw_arg C (fun _ _ h => h.2.2.2) hL hj 3 (by decide) rfl dL_law_923 dL_law_924 dL_law_925 dL_law_926 dL_law_927 ?_
  refine bv_i2l C dL_law_928 rfl ?_
  refine bv_bipush C dL_law_929 (v := 32) (by decide) ?_
  refine bv_lshl C dL_law_931 ?_
  refine lw_arg C (fun _ _ h => h.2.2.2) hL hj 4 (by decide) rfl dL_law_932 dL_law_933 dL_law_934 dL_law_935 dL_law_936 ?_
  refine bv_i2l C dL_law_937 rfl ?_
  refine bv_ldc2 C (v := 4294967295) hc18 dL_law_938 ?_
  refine bv_land C dL_law_941 ?_
  refine bv_lor C dL_law_942 ?_
  refine bv_kV C (As := [.int (xs (5 * j + 1)), .int (xs (5 * j + 2)), .long (((xs (5 * j + 3)).toInt64 <<< ((32 : Int32).toInt64 &&& 63)) ||| ((xs (5 * j + 4)).toInt64 &&& 4294967295))]) (st := [.int r]) (fun l9 => k_X6_unanimous (N := NT) hm NT_ok f2) rfl cut_left rfl (fun _ h => h.sub [0, 1] rfl) NTo.nt NT_ok gL_law_X6_unanimous 0 rfl rfl rfl rfl nL_X6_unanimous ⟨rfl, rfl, (Nat.le_of_ble_eq_true rfl), (Nat.le_of_ble_eq_true rfl), by show 44 + 140 * j + 0 ≤ 600000; omega, by show 18765 + 12000 * j + 0 ≤ 7302249; omega⟩ dL_law_943 (Nat.le_of_ble_eq_true rfl) rfl ?_
  refine bv_icmp_eq_t C dL_law_946 (tgt := 2090) (by decide) rfl ?_
  refine bv_rot ?_
  refine bv_widen (cs1 := 44 + 140 * (j + 1)) (sl1 := 18765 + 12000 * (j + 1)) (by omega) (by omega) ?_
  exact lw_tail C (by decide) dL_law_2090 dL_law_2093 (nx_ _ _ _ _ _ _ _ _ _ _ _ _ _ _ _ _ _ _ _ _ _ _ _ _ _ _ _ _ _ _ _ _ _ _ _ _ _ _ _ _ _ _ _ _ _ _ ⟨⟨_, R1⟩, RKp, TT, S, F, PP, PXp⟩)

theorem nL_X5_without : NameIn yX5_without 2 := ⟨by decide +kernel, by decide +kernel, by decide +kernel⟩
theorem nL_X6_without : NameIn yX6_without 2 := ⟨by decide +kernel, by decide +kernel, by decide +kernel⟩
set_option maxRecDepth 100000 in
set_option maxHeartbeats 4000000 in
theorem lc_20 (C : O2 X cL_law 4 (some .boolean) wsL_law RL room_1 D vwCl (xT cs) [] (lwN tF tO tT e0 k0 x0 e1 k1 x1 e2 k2 x2 fv b L xs)) (hq : (xA qx).Nodup) (hm : (mA qm).Nodup) (hL : L ≤ 2560) (hj : 5 * j + 5 ≤ L) (nx_ : LI X cs qx qm e0 x0 b (j + 1) 18) : LI X cs qx qm e0 x0 b j 951 := by
  intro n nd es kn knd kes img tl ta tn sl bey wt un ed kwt kun ked tb sb sz sbs G K P wk wh isK isB fed at_ ltr ab ps g kp nx fa tp rs rv ct it ex pl pf h
  obtain ⟨⟨N, R⟩, RKp, TT, S, F, PP, PXp⟩ := h
  obtain ⟨r, u1, u2, u3, u4, u5, f1, f2, R1⟩ := o_without R wk isB nx (xs (5 * j + 1)) (xs (5 * j + 2))
  refine bv_aload_n C 2 dL_law_951 rfl ?_
  refine lw_arg C (fun _ _ h => h.2.2.2) hL hj 1 (by decide) rfl dL_law_952 dL_law_953 dL_law_954 dL_law_955 dL_law_956 ?_
  refine lw_arg C (fun _ _ h => h.2.2.2) hL hj 2 (by decide) rfl dL_law_957 dL_law_958 dL_law_959 dL_law_960 dL_law_961 ?_
  refine bv_kV C (As := [.int (xs (5 * j + 1)), .int (xs (5 * j + 2))]) (st := []) (fun l9 => k_X5_without hq f1) rfl cut_left rfl (fun _ h => h) (NTo.of lwN_ok (fun _ _ h => h.1.1) (List.range _) rg_left rfl) xN_ok gL_law_X5_without 0 rfl rfl rfl rfl nL_X5_without ⟨rfl, rfl, (Nat.le_of_ble_eq_true rfl), (Nat.le_of_ble_eq_true rfl), by show 44 + 140 * j + 0 ≤ 600000; omega, by show 18765 + 12000 * j + 0 ≤ 7302249; omega⟩ dL_law_962 (Nat.le_of_ble_eq_true rfl) rfl ?_
  refine bv_eqw (List.append_assoc _ _ _) ?_
  refine bv_aload_n C 1 dL_law_965 rfl ?_
  refine lw_arg C (fun _ _ h => h.2.2.2) hL hj 1 (by decide) rfl dL_law_966 dL_law_967 dL_law_968 dL_law_969 dL_law_970 ?_
  refine lw_arg C (fun _ _ h => h.2.2.2) hL hj 2 (by decide) rfl dL_law_971 dL_law_972 dL_law_973 dL_law_974 dL_law_975 ?_
  refine bv_kV C (As := [.int (xs (5 * j + 1)), .int (xs (5 * j + 2))]) (st := [.int r]) (fun l9 => k_X6_without (N := NT) hm NT_ok f2) rfl cut_left rfl (fun _ h => h.sub [0, 1] rfl) NTo.nt NT_ok gL_law_X6_without 0 rfl rfl rfl rfl nL_X6_without ⟨rfl, rfl, (Nat.le_of_ble_eq_true rfl), (Nat.le_of_ble_eq_true rfl), by show 44 + 140 * j + 0 ≤ 600000; omega, by show 18765 + 12000 * j + 0 ≤ 7302249; omega⟩ dL_law_976 (Nat.le_of_ble_eq_true rfl) rfl ?_
  refine bv_icmp_eq_t C dL_law_979 (tgt := 2090) (by decide) rfl ?_
  refine bv_rot ?_
  refine bv_widen (cs1 := 44 + 140 * (j + 1)) (sl1 := 18765 + 12000 * (j + 1)) (by omega) (by omega) ?_
  exact lw_tail C (by decide) dL_law_2090 dL_law_2093 (nx_ _ _ _ _ _ _ _ _ _ _ _ _ _ _ _ _ _ _ _ _ _ _ _ _ _ _ _ _ _ _ _ _ _ _ _ _ _ _ _ _ _ _ _ _ _ _ ⟨⟨_, R1⟩, RKp, TT, S, F, PP, PXp⟩)

theorem nL_X5_join : NameIn yX5_join 3 := ⟨by decide +kernel, by decide +kernel, by decide +kernel⟩
theorem nL_X6_join : NameIn yX6_join 3 := ⟨by decide +kernel, by decide +kernel, by decide +kernel⟩
set_option maxRecDepth 100000 in
set_option maxHeartbeats 4000000 in
theorem lc_21 (C : O2 X cL_law 4 (some .boolean) wsL_law RL room_1 D vwCl (xT cs) [] (lwN tF tO tT e0 k0 x0 e1 k1 x1 e2 k2 x2 fv b L xs)) (hq : (xA qx).Nodup) (hm : (mA qm).Nodup) (hL : L ≤ 2560) (hj : 5 * j + 5 ≤ L) (nx_ : LI X cs qx qm e0 x0 b (j + 1) 18) : LI X cs qx qm e0 x0 b j 984 := by
  intro n nd es kn knd kes img tl ta tn sl bey wt un ed kwt kun ked tb sb sz sbs G K P wk wh isK isB fed at_ ltr ab ps g kp nx fa tp rs rv ct it ex pl pf h
  obtain ⟨⟨N, R⟩, RKp, TT, S, F, PP, PXp⟩ := h
  obtain ⟨r, u1, u2, u3, u4, u5, f1, f2, R1⟩ := o_join R wk isB nx (xs (5 * j + 1)) (xs (5 * j + 2)) (xs (5 * j + 3))
  refine bv_aload_n C 2 dL_law_984 rfl ?_
  refine lw_arg C (fun _ _ h => h.2.2.2) hL hj 1 (by decide) rfl dL_law_985 dL_law_986 dL_law_987 dL_law_988 dL_law_989 ?_
  refine lw_arg C (fun _ _ h => h.2.2.2) hL hj 2 (by decide) rfl dL_law_990 dL_law_991 dL_law_992 dL_law_993 dL_law_994 ?_
  refine lw_arg C (fun _ _ h => h.2.2.2) hL hj 3 (by decide) rfl dL_law_995 dL_law_996 dL_law_997 dL_law_998 dL_law_999 ?_
  refine bv_kV C (As := [.int (xs (5 * j + 1)), .int (xs (5 * j + 2)), .int (xs (5 * j + 3))]) (st := []) (fun l9 => k_X5_join hq f1) rfl cut_left rfl (fun _ h => h) (NTo.of lwN_ok (fun _ _ h => h.1.1) (List.range _) rg_left rfl) xN_ok gL_law_X5_join 0 rfl rfl rfl rfl nL_X5_join ⟨rfl, rfl, (Nat.le_of_ble_eq_true rfl), (Nat.le_of_ble_eq_true rfl), by show 44 + 140 * j + 0 ≤ 600000; omega, by show 18765 + 12000 * j + 0 ≤ 7302249; omega⟩ dL_law_1000 (Nat.le_of_ble_eq_true rfl) rfl ?_
  refine bv_eqw (List.append_assoc _ _ _) ?_
  refine bv_aload_n C 1 dL_law_1003 rfl ?_
  refine lw_arg C (fun _ _ h => h.2.2.2) hL hj 1 (by decide) rfl dL_law_1004 dL_law_1005 dL_law_1006 dL_law_1007 dL_law_1008 ?_
  refine lw_arg C (fun _ _ h => h.2.2.2) hL hj 2 (by decide) rfl dL_law_1009 dL_law_1010 dL_law_1011 dL_law_1012 dL_law_1013 ?_
  refine lw_arg C (fun _ _ h => h.2.2.2) hL hj 3 (by decide) rfl dL_law_1014 dL_law_1015 dL_law_1016 dL_law_1017 dL_law_1018 ?_
  refine bv_kV C (As := [.int (xs (5 * j + 1)), .int (xs (5 * j + 2)), .int (xs (5 * j + 3))]) (st := [.int r]) (fun l9 => k_X6_join (N := NT) hm NT_ok f2) rfl cut_left rfl (fun _ h => h.sub [0, 1] rfl) NTo.nt NT_ok gL_law_X6_join 0 rfl rfl rfl rfl nL_X6_join ⟨rfl, rfl, (Nat.le_of_ble_eq_true rfl), (Nat.le_of_ble_eq_true rfl), by show 44 + 140 * j + 0 ≤ 600000; omega, by show 18765 + 12000 * j + 0 ≤ 7302249; omega⟩ dL_law_1019 (Nat.le_of_ble_eq_true rfl) rfl ?_
  refine bv_icmp_eq_t C dL_law_1022 (tgt := 2090) (by decide) rfl ?_
  refine bv_rot ?_
  refine bv_widen (cs1 := 44 + 140 * (j + 1)) (sl1 := 18765 + 12000 * (j + 1)) (by omega) (by omega) ?_
  exact lw_tail C (by decide) dL_law_2090 dL_law_2093 (nx_ _ _ _ _ _ _ _ _ _ _ _ _ _ _ _ _ _ _ _ _ _ _ _ _ _ _ _ _ _ _ _ _ _ _ _ _ _ _ _ _ _ _ _ _ _ _ ⟨⟨_, R1⟩, RKp, TT, S, F, PP, PXp⟩)

theorem nL_X5_swap : NameIn yX5_swap 3 := ⟨by decide +kernel, by decide +kernel, by decide +kernel⟩
theorem nL_X6_swap : NameIn yX6_swap 3 := ⟨by decide +kernel, by decide +kernel, by decide +kernel⟩
set_option maxRecDepth 100000 in
set_option maxHeartbeats 4000000 in
theorem lc_22 (C : O2 X cL_law 4 (some .boolean) wsL_law RL room_1 D vwCl (xT cs) [] (lwN tF tO tT e0 k0 x0 e1 k1 x1 e2 k2 x2 fv b L xs)) (hq : (xA qx).Nodup) (hm : (mA qm).Nodup) (hL : L ≤ 2560) (hj : 5 * j + 5 ≤ L) (nx_ : LI X cs qx qm e0 x0 b (j + 1) 18) : LI X cs qx qm e0 x0 b j 1027 := by
  intro n nd es kn knd kes img tl ta tn sl bey wt un ed kwt kun ked tb sb sz sbs G K P wk wh isK isB fed at_ ltr ab ps g kp nx fa tp rs rv ct it ex pl pf h
  obtain ⟨⟨N, R⟩, RKp, TT, S, F, PP, PXp⟩ := h
  obtain ⟨r, u1, u2, u3, u4, u5, f1, f2, R1⟩ := o_swap R wk isB nx (xs (5 * j + 1)) (xs (5 * j + 2)) (xs (5 * j + 3))
  refine bv_aload_n C 2 dL_law_1027 rfl ?_
  refine lw_arg C (fun _ _ h => h.2.2.2) hL hj 1 (by decide) rfl dL_law_1028 dL_law_1029 dL_law_1030 dL_law_1031 dL_law_1032 ?_
  refine lw_arg C (fun _ _ h => h.2.2.2) hL hj 2 (by decide) rfl dL_law_1033 dL_law_1034 dL_law_1035 dL_law_1036 dL_law_1037 ?_
  refine lw_arg C (fun _ _ h => h.2.2.2) hL hj 3 (by decide) rfl dL_law_1038 dL_law_1039 dL_law_1040 dL_law_1041 dL_law_1042 ?_
  refine bv_kV C (As := [.int (xs (5 * j + 1)), .int (xs (5 * j + 2)), .int (xs (5 * j + 3))]) (st := []) (fun l9 => k_X5_swap hq f1) rfl cut_left rfl (fun _ h => h) (NTo.of lwN_ok (fun _ _ h => h.1.1) (List.range _) rg_left rfl) xN_ok gL_law_X5_swap 0 rfl rfl rfl rfl nL_X5_swap ⟨rfl, rfl, (Nat.le_of_ble_eq_true rfl), (Nat.le_of_ble_eq_true rfl), by show 44 + 140 * j + 0 ≤ 600000; omega, by show 18765 + 12000 * j + 0 ≤ 7302249; omega⟩ dL_law_1043 (Nat.le_of_ble_eq_true rfl) rfl ?_
  refine bv_eqw (List.append_assoc _ _ _) ?_
  refine bv_aload_n C 1 dL_law_1046 rfl ?_
  refine lw_arg C (fun _ _ h => h.2.2.2) hL hj 1 (by decide) rfl dL_law_1047 dL_law_1048 dL_law_1049 dL_law_1050 dL_law_1051 ?_
  refine lw_arg C (fun _ _ h => h.2.2.2) hL hj 2 (by decide) rfl dL_law_1052 dL_law_1053 dL_law_1054 dL_law_1055 dL_law_1056 ?_
  refine lw_arg C (fun _ _ h => h.2.2.2) hL hj 3 (by decide) rfl dL_law_1057 dL_law_1058 dL_law_1059 dL_law_1060 dL_law_1061 ?_
  refine bv_kV C (As := [.int (xs (5 * j + 1)), .int (xs (5 * j + 2)), .int (xs (5 * j + 3))]) (st := [.int r]) (fun l9 => k_X6_swap (N := NT) hm NT_ok f2) rfl cut_left rfl (fun _ h => h.sub [0, 1] rfl) NTo.nt NT_ok gL_law_X6_swap 0 rfl rfl rfl rfl nL_X6_swap ⟨rfl, rfl, (Nat.le_of_ble_eq_true rfl), (Nat.le_of_ble_eq_true rfl), by show 44 + 140 * j + 0 ≤ 600000; omega, by show 18765 + 12000 * j + 0 ≤ 7302249; omega⟩ dL_law_1062 (Nat.le_of_ble_eq_true rfl) rfl ?_
  refine bv_icmp_eq_t C dL_law_1065 (tgt := 2090) (by decide) rfl ?_
  refine bv_rot ?_
  refine bv_widen (cs1 := 44 + 140 * (j + 1)) (sl1 := 18765 + 12000 * (j + 1)) (by omega) (by omega) ?_
  exact lw_tail C (by decide) dL_law_2090 dL_law_2093 (nx_ _ _ _ _ _ _ _ _ _ _ _ _ _ _ _ _ _ _ _ _ _ _ _ _ _ _ _ _ _ _ _ _ _ _ _ _ _ _ _ _ _ _ _ _ _ _ ⟨⟨_, R1⟩, RKp, TT, S, F, PP, PXp⟩)

theorem nL_X5_differ : NameIn yX5_differ 2 := ⟨by decide +kernel, by decide +kernel, by decide +kernel⟩
theorem nL_X6_differ : NameIn yX6_differ 2 := ⟨by decide +kernel, by decide +kernel, by decide +kernel⟩
set_option maxRecDepth 100000 in
set_option maxHeartbeats 4000000 in
theorem lc_23 (C : O2 X cL_law 4 (some .boolean) wsL_law RL room_1 D vwCl (xT cs) [] (lwN tF tO tT e0 k0 x0 e1 k1 x1 e2 k2 x2 fv b L xs)) (hq : (xA qx).Nodup) (hm : (mA qm).Nodup) (hL : L ≤ 2560) (hj : 5 * j + 5 ≤ L) (nx_ : LI X cs qx qm e0 x0 b (j + 1) 18) : LI X cs qx qm e0 x0 b j 1070 := by
  intro n nd es kn knd kes img tl ta tn sl bey wt un ed kwt kun ked tb sb sz sbs G K P wk wh isK isB fed at_ ltr ab ps g kp nx fa tp rs rv ct it ex pl pf h
  obtain ⟨⟨N, R⟩, RKp, TT, S, F, PP, PXp⟩ := h
  obtain ⟨r, f1, f2⟩ := o_differ R (xs (5 * j + 1)) (xs (5 * j + 2))
  refine bv_aload_n C 2 dL_law_1070 rfl ?_
  refine lw_arg C (fun _ _ h => h.2.2.2) hL hj 1 (by decide) rfl dL_law_1071 dL_law_1072 dL_law_1073 dL_law_1074 dL_law_1075 ?_
  refine lw_arg C (fun _ _ h => h.2.2.2) hL hj 2 (by decide) rfl dL_law_1076 dL_law_1077 dL_law_1078 dL_law_1079 dL_law_1080 ?_
  refine bv_kV C (As := [.int (xs (5 * j + 1)), .int (xs (5 * j + 2))]) (st := []) (fun l9 => k_X5_differ hq f1) rfl cut_left rfl (fun _ h => h) (NTo.of lwN_ok (fun _ _ h => h.1.1) (List.range _) rg_left rfl) xN_ok gL_law_X5_differ 0 rfl rfl rfl rfl nL_X5_differ ⟨rfl, rfl, (Nat.le_of_ble_eq_true rfl), (Nat.le_of_ble_eq_true rfl), by show 44 + 140 * j + 0 ≤ 600000; omega, by show 18765 + 12000 * j + 0 ≤ 7302249; omega⟩ dL_law_1081 (Nat.le_of_ble_eq_true rfl) rfl ?_
  refine bv_eqw (List.append_assoc _ _ _) ?_
  refine bv_aload_n C 1 dL_law_1084 rfl ?_
  refine lw_arg C (fun _ _ h => h.2.2.2) hL hj 1 (by decide) rfl dL_law_1085 dL_law_1086 dL_law_1087 dL_law_1088 dL_law_1089 ?_
  refine lw_arg C (fun _ _ h => h.2.2.2) hL hj 2 (by decide) rfl dL_law_1090 dL_law_1091 dL_law_1092 dL_law_1093 dL_law_1094 ?_
  refine bv_kV C (As := [.int (xs (5 * j + 1)), .int (xs (5 * j + 2))]) (st := [.int r]) (fun l9 => k_X6_differ (N := NT) hm NT_ok f2) rfl cut_left rfl (fun _ h => h.sub [0, 1] rfl) NTo.nt NT_ok gL_law_X6_differ 0 rfl rfl rfl rfl nL_X6_differ ⟨rfl, rfl, (Nat.le_of_ble_eq_true rfl), (Nat.le_of_ble_eq_true rfl), by show 44 + 140 * j + 0 ≤ 600000; omega, by show 18765 + 12000 * j + 0 ≤ 7302249; omega⟩ dL_law_1095 (Nat.le_of_ble_eq_true rfl) rfl ?_
  refine bv_icmp_eq_t C dL_law_1098 (tgt := 2090) (by decide) rfl ?_
  refine bv_rot ?_
  refine bv_widen (cs1 := 44 + 140 * (j + 1)) (sl1 := 18765 + 12000 * (j + 1)) (by omega) (by omega) ?_
  exact lw_tail C (by decide) dL_law_2090 dL_law_2093 (nx_ _ _ _ _ _ _ _ _ _ _ _ _ _ _ _ _ _ _ _ _ _ _ _ _ _ _ _ _ _ _ _ _ _ _ _ _ _ _ _ _ _ _ _ _ _ _ ⟨⟨_, R⟩, RKp, TT, S, F, PP, PXp⟩)

theorem nL_X5_unlike : NameIn yX5_unlike 1 := ⟨by decide +kernel, by decide +kernel, by decide +kernel⟩
theorem nL_X6_unlike : NameIn yX6_unlike 1 := ⟨by decide +kernel, by decide +kernel, by decide +kernel⟩
set_option maxRecDepth 100000 in
set_option maxHeartbeats 4000000 in
theorem lc_24 (C : O2 X cL_law 4 (some .boolean) wsL_law RL room_1 D vwCl (xT cs) [] (lwN tF tO tT e0 k0 x0 e1 k1 x1 e2 k2 x2 fv b L xs)) (hq : (xA qx).Nodup) (hm : (mA qm).Nodup) (hL : L ≤ 2560) (hj : 5 * j + 5 ≤ L) (nx_ : LI X cs qx qm e0 x0 b (j + 1) 18) : LI X cs qx qm e0 x0 b j 1103 := by
  intro n nd es kn knd kes img tl ta tn sl bey wt un ed kwt kun ked tb sb sz sbs G K P wk wh isK isB fed at_ ltr ab ps g kp nx fa tp rs rv ct it ex pl pf h
  obtain ⟨⟨N, R⟩, RKp, TT, S, F, PP, PXp⟩ := h
  obtain ⟨r, f1, f2⟩ := o_unlike R (xs (5 * j + 1))
  refine bv_aload_n C 2 dL_law_1103 rfl ?_
  refine lw_arg C (fun _ _ h => h.2.2.2) hL hj 1 (by decide) rfl dL_law_1104 dL_law_1105 dL_law_1106 dL_law_1107 dL_law_1108 ?_
  refine bv_kV C (As := [.int (xs (5 * j + 1))]) (st := []) (fun l9 => k_X5_unlike hq f1) rfl cut_left rfl (fun _ h => h) (NTo.of lwN_ok (fun _ _ h => h.1.1) (List.range _) rg_left rfl) xN_ok gL_law_X5_unlike 0 rfl rfl rfl rfl nL_X5_unlike ⟨rfl, rfl, (Nat.le_of_ble_eq_true rfl), (Nat.le_of_ble_eq_true rfl), by show 44 + 140 * j + 0 ≤ 600000; omega, by show 18765 + 12000 * j + 0 ≤ 7302249; omega⟩ dL_law_1109 (Nat.le_of_ble_eq_true rfl) rfl ?_
  refine bv_eqw (List.append_assoc _ _ _) ?_
  refine bv_aload_n C 1 dL_law_1112 rfl ?_
  refine lw_arg C (fun _ _ h => h.2.2.2) hL hj 1 (by decide) rfl dL_law_1113 dL_law_1114 dL_law_1115 dL_law_1116 dL_law_1117 ?_
  refine bv_kV C (As := [.int (xs (5 * j + 1))]) (st := [.int r]) (fun l9 => k_X6_unlike (N := NT) hm NT_ok f2) rfl cut_left rfl (fun _ h => h.sub [0, 1] rfl) NTo.nt NT_ok gL_law_X6_unlike 0 rfl rfl rfl rfl nL_X6_unlike ⟨rfl, rfl, (Nat.le_of_ble_eq_true rfl), (Nat.le_of_ble_eq_true rfl), by show 44 + 140 * j + 0 ≤ 600000; omega, by show 18765 + 12000 * j + 0 ≤ 7302249; omega⟩ dL_law_1118 (Nat.le_of_ble_eq_true rfl) rfl ?_
  refine bv_icmp_eq_t C dL_law_1121 (tgt := 2090) (by decide) rfl ?_
  refine bv_rot ?_
  refine bv_widen (cs1 := 44 + 140 * (j + 1)) (sl1 := 18765 + 12000 * (j + 1)) (by omega) (by omega) ?_
  exact lw_tail C (by decide) dL_law_2090 dL_law_2093 (nx_ _ _ _ _ _ _ _ _ _ _ _ _ _ _ _ _ _ _ _ _ _ _ _ _ _ _ _ _ _ _ _ _ _ _ _ _ _ _ _ _ _ _ _ _ _ _ ⟨⟨_, R⟩, RKp, TT, S, F, PP, PXp⟩)

theorem nL_X5_adds : NameIn yX5_adds 4 := ⟨by decide +kernel, by decide +kernel, by decide +kernel⟩
theorem nL_X6_adds : NameIn yX6_adds 4 := ⟨by decide +kernel, by decide +kernel, by decide +kernel⟩
set_option maxRecDepth 100000 in
set_option maxHeartbeats 4000000 in
theorem lc_25 (C : O2 X cL_law 4 (some .boolean) wsL_law RL room_1 D vwCl (xT cs) [] (lwN tF tO tT e0 k0 x0 e1 k1 x1 e2 k2 x2 fv b L xs)) (hq : (xA qx).Nodup) (hm : (mA qm).Nodup) (hL : L ≤ 2560) (hj : 5 * j + 5 ≤ L) (nx_ : LI X cs qx qm e0 x0 b (j + 1) 18) : LI X cs qx qm e0 x0 b j 1126 := by
  intro n nd es kn knd kes img tl ta tn sl bey wt un ed kwt kun ked tb sb sz sbs G K P wk wh isK isB fed at_ ltr ab ps g kp nx fa tp rs rv ct it ex pl pf h
  obtain ⟨⟨N, R⟩, RKp, TT, S, F, PP, PXp⟩ := h
  obtain ⟨r, u1, u2, f1, f2⟩ := o_adds R S bey isB (xs (5 * j + 1)) (xs (5 * j + 2)) (xs (5 * j + 3)) (xs (5 * j + 4))
  refine bv_aload_n C 2 dL_law_1126 rfl ?_
  refine lw_arg C (fun _ _ h => h.2.2.2) hL hj 1 (by decide) rfl dL_law_1127 dL_law_1128 dL_law_1129 dL_law_1130 dL_law_1131 ?_
  refine lw_arg C (fun _ _ h => h.2.2.2) hL hj 2 (by decide) rfl dL_law_1132 dL_law_1133 dL_law_1134 dL_law_1135 dL_law_1136 ?_
  refine lw_arg C (fun _ _ h => h.2.2.2) hL hj 3 (by decide) rfl dL_law_1137 dL_law_1138 dL_law_1139 dL_law_1140 dL_law_1141 ?_
  refine lw_arg C (fun _ _ h => h.2.2.2) hL hj 4 (by decide) rfl dL_law_1142 dL_law_1143 dL_law_1144 dL_law_1145 dL_law_1146 ?_
  refine bv_kV C (As := [.int (xs (5 * j + 1)), .int (xs (5 * j + 2)), .int (xs (5 * j + 3)), .int (xs (5 * j + 4))]) (st := []) (fun l9 => k_X5_adds hq f1) rfl cut_left rfl (fun _ h => h) (NTo.of lwN_ok (fun _ _ h => h.1.1) (List.range _) rg_left rfl) xN_ok gL_law_X5_adds 0 rfl rfl rfl rfl nL_X5_adds ⟨rfl, rfl, (Nat.le_of_ble_eq_true rfl), (Nat.le_of_ble_eq_true rfl), by show 44 + 140 * j + 0 ≤ 600000; omega, by show 18765 + 12000 * j + 0 ≤ 7302249; omega⟩ dL_law_1147 (Nat.le_of_ble_eq_true rfl) rfl ?_
  refine bv_eqw (List.append_assoc _ _ _) ?_
  refine bv_aload_n C 1 dL_law_1150 rfl ?_
  refine lw_arg C (fun _ _ h => h.2.2.2) hL hj 1 (by decide) rfl dL_law_1151 dL_law_1152 dL_law_1153 dL_law_1154 dL_law_1155 ?_
  refine lw_arg C (fun _ _ h => h.2.2.2) hL hj 2 (by decide) rfl dL_law_1156 dL_law_1157 dL_law_1158 dL_law_1159 dL_law_1160 ?_
  refine lw_arg C (fun _ _ h => h.2.2.2) hL hj 3 (by decide) rfl dL_law_1161 dL_law_1162 dL_law_1163 dL_law_1164 dL_law_1165 ?_
  refine lw_arg C (fun _ _ h => h.2.2.2) hL hj 4 (by decide) rfl dL_law_1166 dL_law_1167 dL_law_1168 dL_law_1169 dL_law_1170 ?_
  refine bv_kV C (As := [.int (xs (5 * j + 1)), .int (xs (5 * j + 2)), .int (xs (5 * j + 3)), .int (xs (5 * j + 4))]) (st := [.long r]) (fun l9 => k_X6_adds (N := NT) hm NT_ok f2) rfl cut_left rfl (fun _ h => h.sub [0, 1] rfl) NTo.nt NT_ok gL_law_X6_adds 0 rfl rfl rfl rfl nL_X6_adds ⟨rfl, rfl, (Nat.le_of_ble_eq_true rfl), (Nat.le_of_ble_eq_true rfl), by show 44 + 140 * j + 0 ≤ 600000; omega, by show 18765 + 12000 * j + 0 ≤ 7302249; omega⟩ dL_law_1171 (Nat.le_of_ble_eq_true rfl) rfl ?_
  refine bv_lcmp_eq C dL_law_1174 dL_law_1175 (tgt := 2090) (by decide) (fun _ => ?_) (fun z => absurd rfl z)
  refine bv_rot ?_
  refine bv_widen (cs1 := 44 + 140 * (j + 1)) (sl1 := 18765 + 12000 * (j + 1)) (by omega) (by omega) ?_
  exact lw_tail C (by decide) dL_law_2090 dL_law_2093 (nx_ _ _ _ _ _ _ _ _ _ _ _ _ _ _ _ _ _ _ _ _ _ _ _ _ _ _ _ _ _ _ _ _ _ _ _ _ _ _ _ _ _ _ _ _ _ _ ⟨⟨_, R⟩, RKp, TT, S, F, PP, PXp⟩)

theorem nL_X5_pivot : NameIn yX5_pivot 2 := ⟨by decide +kernel, by decide +kernel, by decide +kernel⟩
theorem nL_X6_pivot : NameIn yX6_pivot 2 := ⟨by decide +kernel, by decide +kernel, by decide +kernel⟩
set_option maxRecDepth 100000 in
set_option maxHeartbeats 4000000 in
theorem lc_26 (C : O2 X cL_law 4 (some .boolean) wsL_law RL room_1 D vwCl (xT cs) [] (lwN tF tO tT e0 k0 x0 e1 k1 x1 e2 k2 x2 fv b L xs)) (hq : (xA qx).Nodup) (hm : (mA qm).Nodup) (hL : L ≤ 2560) (hj : 5 * j + 5 ≤ L) (nx_ : LI X cs qx qm e0 x0 b (j + 1) 18) : LI X cs qx qm e0 x0 b j 1180 := by
  intro n nd es kn knd kes img tl ta tn sl bey wt un ed kwt kun ked tb sb sz sbs G K P wk wh isK isB fed at_ ltr ab ps g kp nx fa tp rs rv ct it ex pl pf h
  obtain ⟨⟨N, R⟩, RKp, TT, S, F, PP, PXp⟩ := h
  obtain ⟨r, f1, f2⟩ := o_pivot R S (xs (5 * j + 1)) (xs (5 * j + 2))
  refine bv_aload_n C 2 dL_law_1180 rfl ?_
  refine lw_arg C (fun _ _ h => h.2.2.2) hL hj 1 (by decide) rfl dL_law_1181 dL_law_1182 dL_law_1183 dL_law_1184 dL_law_1185 ?_
  refine lw_arg C (fun _ _ h => h.2.2.2) hL hj 2 (by decide) rfl dL_law_1186 dL_law_1187 dL_law_1188 dL_law_1189 dL_law_1190 ?_
  refine bv_kV C (As := [.int (xs (5 * j + 1)), .int (xs (5 * j + 2))]) (st := []) (fun l9 => k_X5_pivot hq f1) rfl cut_left rfl (fun _ h => h) (NTo.of lwN_ok (fun _ _ h => h.1.1) (List.range _) rg_left rfl) xN_ok gL_law_X5_pivot 0 rfl rfl rfl rfl nL_X5_pivot ⟨rfl, rfl, (Nat.le_of_ble_eq_true rfl), (Nat.le_of_ble_eq_true rfl), by show 44 + 140 * j + 0 ≤ 600000; omega, by show 18765 + 12000 * j + 0 ≤ 7302249; omega⟩ dL_law_1191 (Nat.le_of_ble_eq_true rfl) rfl ?_
  refine bv_eqw (List.append_assoc _ _ _) ?_
  refine bv_aload_n C 1 dL_law_1194 rfl ?_
  refine lw_arg C (fun _ _ h => h.2.2.2) hL hj 1 (by decide) rfl dL_law_1195 dL_law_1196 dL_law_1197 dL_law_1198 dL_law_1199 ?_
  refine lw_arg C (fun _ _ h => h.2.2.2) hL hj 2 (by decide) rfl dL_law_1200 dL_law_1201 dL_law_1202 dL_law_1203 dL_law_1204 ?_
  refine bv_kV C (As := [.int (xs (5 * j + 1)), .int (xs (5 * j + 2))]) (st := [.int r]) (fun l9 => k_X6_pivot (N := NT) hm NT_ok f2) rfl cut_left rfl (fun _ h => h.sub [0, 1] rfl) NTo.nt NT_ok gL_law_X6_pivot 0 rfl rfl rfl rfl nL_X6_pivot ⟨rfl, rfl, (Nat.le_of_ble_eq_true rfl), (Nat.le_of_ble_eq_true rfl), by show 44 + 140 * j + 0 ≤ 600000; omega, by show 18765 + 12000 * j + 0 ≤ 7302249; omega⟩ dL_law_1205 (Nat.le_of_ble_eq_true rfl) rfl ?_
  refine bv_icmp_eq_t C dL_law_1208 (tgt := 2090) (by decide) rfl ?_
  refine bv_rot ?_
  refine bv_widen (cs1 := 44 + 140 * (j + 1)) (sl1 := 18765 + 12000 * (j + 1)) (by omega) (by omega) ?_
  exact lw_tail C (by decide) dL_law_2090 dL_law_2093 (nx_ _ _ _ _ _ _ _ _ _ _ _ _ _ _ _ _ _ _ _ _ _ _ _ _ _ _ _ _ _ _ _ _ _ _ _ _ _ _ _ _ _ _ _ _ _ _ ⟨⟨_, R⟩, RKp, TT, S, F, PP, PXp⟩)

theorem nL_X5_share : NameIn yX5_share 3 := ⟨by decide +kernel, by decide +kernel, by decide +kernel⟩
theorem nL_X6_share : NameIn yX6_share 3 := ⟨by decide +kernel, by decide +kernel, by decide +kernel⟩
set_option maxRecDepth 100000 in
set_option maxHeartbeats 4000000 in
theorem lc_27 (C : O2 X cL_law 4 (some .boolean) wsL_law RL room_1 D vwCl (xT cs) [] (lwN tF tO tT e0 k0 x0 e1 k1 x1 e2 k2 x2 fv b L xs)) (hq : (xA qx).Nodup) (hm : (mA qm).Nodup) (hL : L ≤ 2560) (hj : 5 * j + 5 ≤ L) (nx_ : LI X cs qx qm e0 x0 b (j + 1) 18) : LI X cs qx qm e0 x0 b j 1213 := by
  intro n nd es kn knd kes img tl ta tn sl bey wt un ed kwt kun ked tb sb sz sbs G K P wk wh isK isB fed at_ ltr ab ps g kp nx fa tp rs rv ct it ex pl pf h
  obtain ⟨⟨N, R⟩, RKp, TT, S, F, PP, PXp⟩ := h
  obtain ⟨r, u1, u2, u3, f1, f2⟩ := o_share R F bey isB ab (xs (5 * j + 1)) (xs (5 * j + 2)) (xs (5 * j + 3))
  refine bv_aload_n C 2 dL_law_1213 rfl ?_
  refine lw_arg C (fun _ _ h => h.2.2.2) hL hj 1 (by decide) rfl dL_law_1214 dL_law_1215 dL_law_1216 dL_law_1217 dL_law_1218 ?_
  refine lw_arg C (fun _ _ h => h.2.2.2) hL hj 2 (by decide) rfl dL_law_1219 dL_law_1220 dL_law_1221 dL_law_1222 dL_law_1223 ?_
  refine lw_arg C (fun _ _ h => h.2.2.2) hL hj 3 (by decide) rfl dL_law_1224 dL_law_1225 dL_law_1226 dL_law_1227 dL_law_1228 ?_
  refine bv_kV C (As := [.int (xs (5 * j + 1)), .int (xs (5 * j + 2)), .int (xs (5 * j + 3))]) (st := []) (fun l9 => k_X5_share hq f1) rfl cut_left rfl (fun _ h => h) (NTo.of lwN_ok (fun _ _ h => h.1.1) (List.range _) rg_left rfl) xN_ok gL_law_X5_share 0 rfl rfl rfl rfl nL_X5_share ⟨rfl, rfl, (Nat.le_of_ble_eq_true rfl), (Nat.le_of_ble_eq_true rfl), by show 44 + 140 * j + 0 ≤ 600000; omega, by show 18765 + 12000 * j + 0 ≤ 7302249; omega⟩ dL_law_1229 (Nat.le_of_ble_eq_true rfl) rfl ?_
  refine bv_eqw (List.append_assoc _ _ _) ?_
  refine bv_aload_n C 1 dL_law_1232 rfl ?_
  refine lw_arg C (fun _ _ h => h.2.2.2) hL hj 1 (by decide) rfl dL_law_1233 dL_law_1234 dL_law_1235 dL_law_1236 dL_law_1237 ?_
  refine lw_arg C (fun _ _ h => h.2.2.2) hL hj 2 (by decide) rfl dL_law_1238 dL_law_1239 dL_law_1240 dL_law_1241 dL_law_1242 ?_
  refine lw_arg C (fun _ _ h => h.2.2.2) hL hj 3 (by decide) rfl dL_law_1243 dL_law_1244 dL_law_1245 dL_law_1246 dL_law_1247 ?_
  refine bv_kV C (As := [.int (xs (5 * j + 1)), .int (xs (5 * j + 2)), .int (xs (5 * j + 3))]) (st := [.long r]) (fun l9 => k_X6_share (N := NT) hm NT_ok f2) rfl cut_left rfl (fun _ h => h.sub [0, 1] rfl) NTo.nt NT_ok gL_law_X6_share 0 rfl rfl rfl rfl nL_X6_share ⟨rfl, rfl, (Nat.le_of_ble_eq_true rfl), (Nat.le_of_ble_eq_true rfl), by show 44 + 140 * j + 0 ≤ 600000; omega, by show 18765 + 12000 * j + 0 ≤ 7302249; omega⟩ dL_law_1248 (Nat.le_of_ble_eq_true rfl) rfl ?_
  refine bv_lcmp_eq C dL_law_1251 dL_law_1252 (tgt := 2090) (by decide) (fun _ => ?_) (fun z => absurd rfl z)
  refine bv_rot ?_
  refine bv_widen (cs1 := 44 + 140 * (j + 1)) (sl1 := 18765 + 12000 * (j + 1)) (by omega) (by omega) ?_
  exact lw_tail C (by decide) dL_law_2090 dL_law_2093 (nx_ _ _ _ _ _ _ _ _ _ _ _ _ _ _ _ _ _ _ _ _ _ _ _ _ _ _ _ _ _ _ _ _ _ _ _ _ _ _ _ _ _ _ _ _ _ _ ⟨⟨_, R⟩, RKp, TT, S, F, PP, PXp⟩)
end LC
