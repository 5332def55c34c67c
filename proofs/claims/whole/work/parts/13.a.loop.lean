theorem lw_mod (x : Int32) : ∃ k : Nat, k < 64 ∧ x &&& 63 = nI k := by
  refine ⟨(x.toBitVec &&& 63#32).toNat, ?_, ?_⟩
  · rw [BitVec.toNat_and]
    exact Nat.and_lt_two_pow _ (by decide : (63#32).toNat < 2 ^ 6)
  · apply Int32.toBitVec_inj.mp
    rw [Int32.toBitVec_and]
    show _ = BitVec.ofNat 32 _
    rw [BitVec.ofNat_toNat, BitVec.setWidth_eq]
    rfl
theorem lw_sub {L : Nat} (h : L ≤ 2560) : (nI L - 5).toInt = (L : Int) - 5 := by
  rw [Int32.toInt_sub, nI_toInt (by omega), show (5 : Int32).toInt = 5 from by decide, Int.bmod_def]
  split <;> omega
section LP
variable {X : CX} {cs : Nat → ClassId} {qx qm : Nat → Nat} {D : va_G} {tF tO tT e0 k0 e1 k1 e2 k2 b L j : Nat} {x0 x1 x2 xs : Nat → Int32} {fv : Value}

theorem lw_head (C : O2 X cL_law 4 (some .boolean) wsL_law RL room_1 D vwCl (xT cs) [] (lwN tF tO tT e0 k0 x0 e1 k1 x1 e2 k2 x2 fv b L xs)) (hq : (xA qx).Nodup) (hm : (mA qm).Nodup) (hL : L ≤ 2560) (h5 : 5 * j ≤ L) (hE : ∀ (c9 s9 : Nat) (w : va_W) (lv : List (Nat × Value)), c9 ≤ 600000 → s9 ≤ 7302249 → V2 X c9 s9 w 2097 lv [.int 1]) (go : 5 * j + 5 ≤ L → LI X cs qx qm e0 x0 b j 26) : LI X cs qx qm e0 x0 b j 18 := by
  intro n nd es kn knd kes img tl ta tn sl bey wt un ed kwt kun ked tb sb sz sbs G K P wk wh isK isB fed at_ ltr ab ps g kp nx fa tp rs rv ct it ex pl pf h
  refine bv_iload_n C 0 dL_law_18 rfl ?_
  refine bv_aload_n C 3 dL_law_19 rfl ?_
  refine bv_tlen C (v := nI L) (fun _ _ h => h.2.2.2) rfl dL_law_20 ?_
  refine bv_iconst C dL_law_21 (v := 5) (by decide) ?_
  refine bv_isub C dL_law_22 (v := nI L - 5) rfl ?_
  by_cases h9 : 5 * j + 5 ≤ L
  · refine bv_icmp_gt_f C 2096 dL_law_23 (by decide) ?_ (go h9 _ _ _ _ _ _ _ _ _ _ _ _ _ _ _ _ _ _ _ _ _ _ _ _ _ _ _ _ _ _ _ _ _ _ _ _ _ _ _ _ _ _ _ _ _ _ h)
    rw [Int32.lt_iff_toInt_lt, lw_sub hL, nI_toInt (by omega)]
    omega
  · refine bv_icmp_gt_t C dL_law_23 (tgt := 2096) (by decide) ?_ ?_
    · rw [Int32.lt_iff_toInt_lt, lw_sub hL, nI_toInt (by omega)]
      omega
    · refine bv_iconst C dL_law_2096 (v := 1) (by decide) ?_
      exact hE _ _ _ _ (by omega) (by omega)
set_option maxRecDepth 100000 in
set_option maxHeartbeats 4000000 in
theorem lw_sw (C : O2 X cL_law 4 (some .boolean) wsL_law RL room_1 D vwCl (xT cs) [] (lwN tF tO tT e0 k0 x0 e1 k1 x1 e2 k2 x2 fv b L xs)) (hq : (xA qx).Nodup) (hm : (mA qm).Nodup) (hL : L ≤ 2560) (hj : 5 * j + 5 ≤ L) (hfv : isQ fv) (hk0 : sb_Fit x0) (hk1 : sb_Fit x1) (hk2 : sb_Fit x2) (ht1 : sb_Lat (fun _ => 32) 1 x1) (ht2 : sb_Lat (fun _ => 47) 1 x2) (nx_ : LI X cs qx qm e0 x0 b (j + 1) 18) : LI X cs qx qm e0 x0 b j 26 := by
  intro n nd es kn knd kes img tl ta tn sl bey wt un ed kwt kun ked tb sb sz sbs G K P wk wh isK isB fed at_ ltr ab ps g kp nx fa tp rs rv ct it ex pl pf h
  refine bv_aload_n C 3 dL_law_26 rfl ?_
  refine bv_iload_n C 0 dL_law_27 rfl ?_
  refine bv_ti C (fun _ _ h => h.2.2.2) (vp_in_nI (by omega) (by omega)) dL_law_28 ?_
  refine bv_bipush C dL_law_29 (v := 63) (by decide) ?_
  obtain ⟨k, hk, ek⟩ := lw_mod (xs (nI (5 * j)).toNatClampNeg)
  refine bv_iand C dL_law_31 (v := nI k) ek ?_
  clear ek
  match k, hk with
  | 0, _ => exact bv_tin C dL_law_32 (by decide) (by decide) (off := 228) (by decide) (tgt := 260) (by decide) (lc_0 C hq hm hL hj nx_ _ _ _ _ _ _ _ _ _ _ _ _ _ _ _ _ _ _ _ _ _ _ _ _ _ _ _ _ _ _ _ _ _ _ _ _ _ _ _ _ _ _ _ _ _ _ h)
  | 1, _ => exact bv_tin C dL_law_32 (by decide) (by decide) (off := 251) (by decide) (tgt := 283) (by decide) (lc_1 C hq hm hL hj nx_ _ _ _ _ _ _ _ _ _ _ _ _ _ _ _ _ _ _ _ _ _ _ _ _ _ _ _ _ _ _ _ _ _ _ _ _ _ _ _ _ _ _ _ _ _ _ h)
  | 2, _ => exact bv_tin C dL_law_32 (by decide) (by decide) (off := 324) (by decide) (tgt := 356) (by decide) (lc_2 C hq hm hL hj nx_ _ _ _ _ _ _ _ _ _ _ _ _ _ _ _ _ _ _ _ _ _ _ _ _ _ _ _ _ _ _ _ _ _ _ _ _ _ _ _ _ _ _ _ _ _ _ h)
  | 3, _ => exact bv_tin C dL_law_32 (by decide) (by decide) (off := 358) (by decide) (tgt := 390) (by decide) (lc_3 C hq hm hL hj nx_ _ _ _ _ _ _ _ _ _ _ _ _ _ _ _ _ _ _ _ _ _ _ _ _ _ _ _ _ _ _ _ _ _ _ _ _ _ _ _ _ _ _ _ _ _ _ h)
  | 4, _ => exact bv_tin C dL_law_32 (by decide) (by decide) (off := 391) (by decide) (tgt := 423) (by decide) (lc_4 C hq hm hL hj nx_ _ _ _ _ _ _ _ _ _ _ _ _ _ _ _ _ _ _ _ _ _ _ _ _ _ _ _ _ _ _ _ _ _ _ _ _ _ _ _ _ _ _ _ _ _ _ h)
  | 5, _ => exact bv_tin C dL_law_32 (by decide) (by decide) (off := 424) (by decide) (tgt := 456) (by decide) (lc_5 C hq hm hL hj nx_ _ _ _ _ _ _ _ _ _ _ _ _ _ _ _ _ _ _ _ _ _ _ _ _ _ _ _ _ _ _ _ _ _ _ _ _ _ _ _ _ _ _ _ _ _ _ h)
  | 6, _ => exact bv_tin C dL_law_32 (by decide) (by decide) (off := 467) (by decide) (tgt := 499) (by decide) (lc_6 C hq hm hL hj nx_ _ _ _ _ _ _ _ _ _ _ _ _ _ _ _ _ _ _ _ _ _ _ _ _ _ _ _ _ _ _ _ _ _ _ _ _ _ _ _ _ _ _ _ _ _ _ h)
  | 7, _ => exact bv_tin C dL_law_32 (by decide) (by decide) (off := 500) (by decide) (tgt := 532) (by decide) (lc_7 C hq hm hL hj nx_ _ _ _ _ _ _ _ _ _ _ _ _ _ _ _ _ _ _ _ _ _ _ _ _ _ _ _ _ _ _ _ _ _ _ _ _ _ _ _ _ _ _ _ _ _ _ h)
  | 8, _ => exact bv_tin C dL_law_32 (by decide) (by decide) (off := 533) (by decide) (tgt := 565) (by decide) (lc_8 C hq hm hL hj nx_ _ _ _ _ _ _ _ _ _ _ _ _ _ _ _ _ _ _ _ _ _ _ _ _ _ _ _ _ _ _ _ _ _ _ _ _ _ _ _ _ _ _ _ _ _ _ h)
  | 9, _ => exact bv_tin C dL_law_32 (by decide) (by decide) (off := 556) (by decide) (tgt := 588) (by decide) (lc_9 C hq hm hL hj nx_ _ _ _ _ _ _ _ _ _ _ _ _ _ _ _ _ _ _ _ _ _ _ _ _ _ _ _ _ _ _ _ _ _ _ _ _ _ _ _ _ _ _ _ _ _ _ h)
  | 10, _ => exact bv_tin C dL_law_32 (by decide) (by decide) (off := 569) (by decide) (tgt := 601) (by decide) (lc_10 C hq hm hL hj nx_ _ _ _ _ _ _ _ _ _ _ _ _ _ _ _ _ _ _ _ _ _ _ _ _ _ _ _ _ _ _ _ _ _ _ _ _ _ _ _ _ _ _ _ _ _ _ h)
  | 11, _ => exact bv_tin C dL_law_32 (by decide) (by decide) (off := 592) (by decide) (tgt := 624) (by decide) (lc_11 C hq hm hL hj nx_ _ _ _ _ _ _ _ _ _ _ _ _ _ _ _ _ _ _ _ _ _ _ _ _ _ _ _ _ _ _ _ _ _ _ _ _ _ _ _ _ _ _ _ _ _ _ h)
  | 12, _ => exact bv_tin C dL_law_32 (by decide) (by decide) (off := 625) (by decide) (tgt := 657) (by decide) (lc_12 C hq hm hL hj nx_ _ _ _ _ _ _ _ _ _ _ _ _ _ _ _ _ _ _ _ _ _ _ _ _ _ _ _ _ _ _ _ _ _ _ _ _ _ _ _ _ _ _ _ _ _ _ h)
  | 13, _ => exact bv_tin C dL_law_32 (by decide) (by decide) (off := 668) (by decide) (tgt := 700) (by decide) (lc_13 C hq hm hL hj nx_ _ _ _ _ _ _ _ _ _ _ _ _ _ _ _ _ _ _ _ _ _ _ _ _ _ _ _ _ _ _ _ _ _ _ _ _ _ _ _ _ _ _ _ _ _ _ h)
  | 14, _ => exact bv_tin C dL_law_32 (by decide) (by decide) (off := 701) (by decide) (tgt := 733) (by decide) (lc_14 C hq hm hL hj nx_ _ _ _ _ _ _ _ _ _ _ _ _ _ _ _ _ _ _ _ _ _ _ _ _ _ _ _ _ _ _ _ _ _ _ _ _ _ _ _ _ _ _ _ _ _ _ h)
  | 15, _ => exact bv_tin C dL_law_32 (by decide) (by decide) (off := 734) (by decide) (tgt := 766) (by decide) (lc_15 C hq hm hL hj nx_ _ _ _ _ _ _ _ _ _ _ _ _ _ _ _ _ _ _ _ _ _ _ _ _ _ _ _ _ _ _ _ _ _ _ _ _ _ _ _ _ _ _ _ _ _ _ h)
  | 16, _ => exact bv_tin C dL_law_32 (by decide) (by decide) (off := 767) (by decide) (tgt := 799) (by decide) (lc_16 C hq hm hL hj nx_ _ _ _ _ _ _ _ _ _ _ _ _ _ _ _ _ _ _ _ _ _ _ _ _ _ _ _ _ _ _ _ _ _ _ _ _ _ _ _ _ _ _ _ _ _ _ h)
  | 17, _ => exact bv_tin C dL_law_32 (by decide) (by decide) (off := 790) (by decide) (tgt := 822) (by decide) (lc_17 C hq hm hL hj nx_ _ _ _ _ _ _ _ _ _ _ _ _ _ _ _ _ _ _ _ _ _ _ _ _ _ _ _ _ _ _ _ _ _ _ _ _ _ _ _ _ _ _ _ _ _ _ h)
  | 18, _ => exact bv_tin C dL_law_32 (by decide) (by decide) (off := 813) (by decide) (tgt := 845) (by decide) (lc_18 C hq hm hL hj nx_ _ _ _ _ _ _ _ _ _ _ _ _ _ _ _ _ _ _ _ _ _ _ _ _ _ _ _ _ _ _ _ _ _ _ _ _ _ _ _ _ _ _ _ _ _ _ h)
  | 19, _ => exact bv_tin C dL_law_32 (by decide) (by decide) (off := 846) (by decide) (tgt := 878) (by decide) (lc_19 C hq hm hL hj nx_ _ _ _ _ _ _ _ _ _ _ _ _ _ _ _ _ _ _ _ _ _ _ _ _ _ _ _ _ _ _ _ _ _ _ _ _ _ _ _ _ _ _ _ _ _ _ h)
  | 20, _ => exact bv_tin C dL_law_32 (by decide) (by decide) (off := 919) (by decide) (tgt := 951) (by decide) (lc_20 C hq hm hL hj nx_ _ _ _ _ _ _ _ _ _ _ _ _ _ _ _ _ _ _ _ _ _ _ _ _ _ _ _ _ _ _ _ _ _ _ _ _ _ _ _ _ _ _ _ _ _ _ h)
  | 21, _ => exact bv_tin C dL_law_32 (by decide) (by decide) (off := 952) (by decide) (tgt := 984) (by decide) (lc_21 C hq hm hL hj nx_ _ _ _ _ _ _ _ _ _ _ _ _ _ _ _ _ _ _ _ _ _ _ _ _ _ _ _ _ _ _ _ _ _ _ _ _ _ _ _ _ _ _ _ _ _ _ h)
  | 22, _ => exact bv_tin C dL_law_32 (by decide) (by decide) (off := 995) (by decide) (tgt := 1027) (by decide) (lc_22 C hq hm hL hj nx_ _ _ _ _ _ _ _ _ _ _ _ _ _ _ _ _ _ _ _ _ _ _ _ _ _ _ _ _ _ _ _ _ _ _ _ _ _ _ _ _ _ _ _ _ _ _ h)
  | 23, _ => exact bv_tin C dL_law_32 (by decide) (by decide) (off := 1038) (by decide) (tgt := 1070) (by decide) (lc_23 C hq hm hL hj nx_ _ _ _ _ _ _ _ _ _ _ _ _ _ _ _ _ _ _ _ _ _ _ _ _ _ _ _ _ _ _ _ _ _ _ _ _ _ _ _ _ _ _ _ _ _ _ h)
  | 24, _ => exact bv_tin C dL_law_32 (by decide) (by decide) (off := 1071) (by decide) (tgt := 1103) (by decide) (lc_24 C hq hm hL hj nx_ _ _ _ _ _ _ _ _ _ _ _ _ _ _ _ _ _ _ _ _ _ _ _ _ _ _ _ _ _ _ _ _ _ _ _ _ _ _ _ _ _ _ _ _ _ _ h)
  | 25, _ => exact bv_tin C dL_law_32 (by decide) (by decide) (off := 1094) (by decide) (tgt := 1126) (by decide) (lc_25 C hq hm hL hj nx_ _ _ _ _ _ _ _ _ _ _ _ _ _ _ _ _ _ _ _ _ _ _ _ _ _ _ _ _ _ _ _ _ _ _ _ _ _ _ _ _ _ _ _ _ _ _ h)
  | 26, _ => exact bv_tin C dL_law_32 (by decide) (by decide) (off := 1148) (by decide) (tgt := 1180) (by decide) (lc_26 C hq hm hL hj nx_ _ _ _ _ _ _ _ _ _ _ _ _ _ _ _ _ _ _ _ _ _ _ _ _ _ _ _ _ _ _ _ _ _ _ _ _ _ _ _ _ _ _ _ _ _ _ h)
  | 27, _ => exact bv_tin C dL_law_32 (by decide) (by decide) (off := 1181) (by decide) (tgt := 1213) (by decide) (lc_27 C hq hm hL hj nx_ _ _ _ _ _ _ _ _ _ _ _ _ _ _ _ _ _ _ _ _ _ _ _ _ _ _ _ _ _ _ _ _ _ _ _ _ _ _ _ _ _ _ _ _ _ _ h)
  | 28, _ => exact bv_tin C dL_law_32 (by decide) (by decide) (off := 1225) (by decide) (tgt := 1257) (by decide) (lc_28 C hq hm hL hj nx_ _ _ _ _ _ _ _ _ _ _ _ _ _ _ _ _ _ _ _ _ _ _ _ _ _ _ _ _ _ _ _ _ _ _ _ _ _ _ _ _ _ _ _ _ _ _ h)
  | 29, _ => exact bv_tin C dL_law_32 (by decide) (by decide) (off := 1259) (by decide) (tgt := 1291) (by decide) (lc_29 C hq hm hL hj nx_ _ _ _ _ _ _ _ _ _ _ _ _ _ _ _ _ _ _ _ _ _ _ _ _ _ _ _ _ _ _ _ _ _ _ _ _ _ _ _ _ _ _ _ _ _ _ h)
  | 30, _ => exact bv_tin C dL_law_32 (by decide) (by decide) (off := 1303) (by decide) (tgt := 1335) (by decide) (lc_30 C hq hm hL hj nx_ _ _ _ _ _ _ _ _ _ _ _ _ _ _ _ _ _ _ _ _ _ _ _ _ _ _ _ _ _ _ _ _ _ _ _ _ _ _ _ _ _ _ _ _ _ _ h)
  | 31, _ => exact bv_tin C dL_law_32 (by decide) (by decide) (off := 1337) (by decide) (tgt := 1369) (by decide) (lc_31 C hq hm hL hj nx_ _ _ _ _ _ _ _ _ _ _ _ _ _ _ _ _ _ _ _ _ _ _ _ _ _ _ _ _ _ _ _ _ _ _ _ _ _ _ _ _ _ _ _ _ _ _ h)
  | 32, _ => exact bv_tin C dL_law_32 (by decide) (by decide) (off := 1370) (by decide) (tgt := 1402) (by decide) (lc_32 C hq hm hL hj nx_ _ _ _ _ _ _ _ _ _ _ _ _ _ _ _ _ _ _ _ _ _ _ _ _ _ _ _ _ _ _ _ _ _ _ _ _ _ _ _ _ _ _ _ _ _ _ h)
  | 33, _ => exact bv_tin C dL_law_32 (by decide) (by decide) (off := 1404) (by decide) (tgt := 1436) (by decide) (lc_33 C hq hm hL hj nx_ _ _ _ _ _ _ _ _ _ _ _ _ _ _ _ _ _ _ _ _ _ _ _ _ _ _ _ _ _ _ _ _ _ _ _ _ _ _ _ _ _ _ _ _ _ _ h)
  | 34, _ => exact bv_tin C dL_law_32 (by decide) (by decide) (off := 1438) (by decide) (tgt := 1470) (by decide) (lc_34 C hq hm hL hj nx_ _ _ _ _ _ _ _ _ _ _ _ _ _ _ _ _ _ _ _ _ _ _ _ _ _ _ _ _ _ _ _ _ _ _ _ _ _ _ _ _ _ _ _ _ _ _ h)
  | 35, _ => exact bv_tin C dL_law_32 (by decide) (by decide) (off := 1461) (by decide) (tgt := 1493) (by decide) (lc_35 C hq hm hL hj nx_ _ _ _ _ _ _ _ _ _ _ _ _ _ _ _ _ _ _ _ _ _ _ _ _ _ _ _ _ _ _ _ _ _ _ _ _ _ _ _ _ _ _ _ _ _ _ h)
  | 36, _ => exact bv_tin C dL_law_32 (by decide) (by decide) (off := 1494) (by decide) (tgt := 1526) (by decide) (lc_36 C hq hm hL hj nx_ _ _ _ _ _ _ _ _ _ _ _ _ _ _ _ _ _ _ _ _ _ _ _ _ _ _ _ _ _ _ _ _ _ _ _ _ _ _ _ _ _ _ _ _ _ _ h)
  | 37, _ => exact bv_tin C dL_law_32 (by decide) (by decide) (off := 1527) (by decide) (tgt := 1559) (by decide) (lc_37 C hq hm hL hj nx_ _ _ _ _ _ _ _ _ _ _ _ _ _ _ _ _ _ _ _ _ _ _ _ _ _ _ _ _ _ _ _ _ _ _ _ _ _ _ _ _ _ _ _ _ _ _ h)
  | 38, _ => exact bv_tin C dL_law_32 (by decide) (by decide) (off := 1550) (by decide) (tgt := 1582) (by decide) (lc_38 C hq hm hL hj nx_ _ _ _ _ _ _ _ _ _ _ _ _ _ _ _ _ _ _ _ _ _ _ _ _ _ _ _ _ _ _ _ _ _ _ _ _ _ _ _ _ _ _ _ _ _ _ h)
  | 39, _ => exact bv_tin C dL_law_32 (by decide) (by decide) (off := 1583) (by decide) (tgt := 1615) (by decide) (lc_39 C hq hm hL hj nx_ _ _ _ _ _ _ _ _ _ _ _ _ _ _ _ _ _ _ _ _ _ _ _ _ _ _ _ _ _ _ _ _ _ _ _ _ _ _ _ _ _ _ _ _ _ _ h)
  | 40, _ => exact bv_tin C dL_law_32 (by decide) (by decide) (off := 1606) (by decide) (tgt := 1638) (by decide) (lc_40 C hq hm hL hj nx_ _ _ _ _ _ _ _ _ _ _ _ _ _ _ _ _ _ _ _ _ _ _ _ _ _ _ _ _ _ _ _ _ _ _ _ _ _ _ _ _ _ _ _ _ _ _ h)
  | 41, _ => exact bv_tin C dL_law_32 (by decide) (by decide) (off := 1649) (by decide) (tgt := 1681) (by decide) (lc_41 C hq hm hL hj nx_ _ _ _ _ _ _ _ _ _ _ _ _ _ _ _ _ _ _ _ _ _ _ _ _ _ _ _ _ _ _ _ _ _ _ _ _ _ _ _ _ _ _ _ _ _ _ h)
  | 42, _ => exact bv_tin C dL_law_32 (by decide) (by decide) (off := 1692) (by decide) (tgt := 1724) (by decide) (lc_42 C hq hm hL hj nx_ _ _ _ _ _ _ _ _ _ _ _ _ _ _ _ _ _ _ _ _ _ _ _ _ _ _ _ _ _ _ _ _ _ _ _ _ _ _ _ _ _ _ _ _ _ _ h)
  | 43, _ => exact bv_tin C dL_law_32 (by decide) (by decide) (off := 1746) (by decide) (tgt := 1778) (by decide) (lc_43 C hq hm hL hj hk0 hk1 hk2 ht1 ht2 nx_ _ _ _ _ _ _ _ _ _ _ _ _ _ _ _ _ _ _ _ _ _ _ _ _ _ _ _ _ _ _ _ _ _ _ _ _ _ _ _ _ _ _ _ _ _ _ h)
  | 44, _ => exact bv_tin C dL_law_32 (by decide) (by decide) (off := 1769) (by decide) (tgt := 1801) (by decide) (lc_44 C hq hm hL hj hfv nx_ _ _ _ _ _ _ _ _ _ _ _ _ _ _ _ _ _ _ _ _ _ _ _ _ _ _ _ _ _ _ _ _ _ _ _ _ _ _ _ _ _ _ _ _ _ _ h)
  | 45, _ => exact bv_tin C dL_law_32 (by decide) (by decide) (off := 1792) (by decide) (tgt := 1824) (by decide) (lc_45 C hq hm hL hj hfv nx_ _ _ _ _ _ _ _ _ _ _ _ _ _ _ _ _ _ _ _ _ _ _ _ _ _ _ _ _ _ _ _ _ _ _ _ _ _ _ _ _ _ _ _ _ _ _ h)
  | 46, _ => exact bv_tin C dL_law_32 (by decide) (by decide) (off := 1815) (by decide) (tgt := 1847) (by decide) (lc_46 C hq hm hL hj nx_ _ _ _ _ _ _ _ _ _ _ _ _ _ _ _ _ _ _ _ _ _ _ _ _ _ _ _ _ _ _ _ _ _ _ _ _ _ _ _ _ _ _ _ _ _ _ h)
  | 47, _ => exact bv_tin C dL_law_32 (by decide) (by decide) (off := 1849) (by decide) (tgt := 1881) (by decide) (lc_47 C hq hm hL hj nx_ _ _ _ _ _ _ _ _ _ _ _ _ _ _ _ _ _ _ _ _ _ _ _ _ _ _ _ _ _ _ _ _ _ _ _ _ _ _ _ _ _ _ _ _ _ _ h)
  | 48, _ => exact bv_tin C dL_law_32 (by decide) (by decide) (off := 1882) (by decide) (tgt := 1914) (by decide) (lc_48 C hq hm hL hj nx_ _ _ _ _ _ _ _ _ _ _ _ _ _ _ _ _ _ _ _ _ _ _ _ _ _ _ _ _ _ _ _ _ _ _ _ _ _ _ _ _ _ _ _ _ _ _ h)
  | 49, _ => exact bv_tin C dL_law_32 (by decide) (by decide) (off := 1955) (by decide) (tgt := 1987) (by decide) (lc_49 C hq hm hL hj nx_ _ _ _ _ _ _ _ _ _ _ _ _ _ _ _ _ _ _ _ _ _ _ _ _ _ _ _ _ _ _ _ _ _ _ _ _ _ _ _ _ _ _ _ _ _ _ h)
  | 50, _ => exact bv_tin C dL_law_32 (by decide) (by decide) (off := 1989) (by decide) (tgt := 2021) (by decide) (lc_50 C hq hm hL hj nx_ _ _ _ _ _ _ _ _ _ _ _ _ _ _ _ _ _ _ _ _ _ _ _ _ _ _ _ _ _ _ _ _ _ _ _ _ _ _ _ _ _ _ _ _ _ _ h)
  | 51, _ => exact bv_tin C dL_law_32 (by decide) (by decide) (off := 2032) (by decide) (tgt := 2064) (by decide) (lc_51 C hq hm hL hj nx_ _ _ _ _ _ _ _ _ _ _ _ _ _ _ _ _ _ _ _ _ _ _ _ _ _ _ _ _ _ _ _ _ _ _ _ _ _ _ _ _ _ _ _ _ _ _ h)
  | 52, _ => exact bv_tin C dL_law_32 (by decide) (by decide) (off := 2045) (by decide) (tgt := 2077) (by decide) (lc_52 C hq hm hL hj nx_ _ _ _ _ _ _ _ _ _ _ _ _ _ _ _ _ _ _ _ _ _ _ _ _ _ _ _ _ _ _ _ _ _ _ _ _ _ _ _ _ _ _ _ _ _ _ h)
  | k + 53, hk =>
    refine bv_tout C dL_law_32 (Or.inr ?_) (tgt := 2090) (by decide) ?_
    · rw [nI_toInt (by omega)]
      omega
    · refine bv_widen (cs1 := 44 + 140 * (j + 1)) (sl1 := 18765 + 12000 * (j + 1)) (by omega) (by omega) ?_
      exact lw_tail C (by decide) dL_law_2090 dL_law_2093 (nx_ _ _ _ _ _ _ _ _ _ _ _ _ _ _ _ _ _ _ _ _ _ _ _ _ _ _ _ _ _ _ _ _ _ _ _ _ _ _ _ _ _ _ _ _ _ _ h)
theorem lw_loop (C : O2 X cL_law 4 (some .boolean) wsL_law RL room_1 D vwCl (xT cs) [] (lwN tF tO tT e0 k0 x0 e1 k1 x1 e2 k2 x2 fv b L xs)) (hq : (xA qx).Nodup) (hm : (mA qm).Nodup) (hL : L ≤ 2560) (hfv : isQ fv) (hk0 : sb_Fit x0) (hk1 : sb_Fit x1) (hk2 : sb_Fit x2) (ht1 : sb_Lat (fun _ => 32) 1 x1) (ht2 : sb_Lat (fun _ => 47) 1 x2) (hE : ∀ (c9 s9 : Nat) (w : va_W) (lv : List (Nat × Value)), c9 ≤ 600000 → s9 ≤ 7302249 → V2 X c9 s9 w 2097 lv [.int 1]) : ∀ (d j : Nat), 5 * j ≤ L → L ≤ 5 * j + d → LI X cs qx qm e0 x0 b j 18 := by
  intro d
  induction d with
  | zero => exact fun j h1 h2 => lw_head C hq hm hL h1 hE (fun h => by omega)
  | succ d ih => exact fun j h1 h2 => lw_head C hq hm hL h1 hE (fun h => lw_sw C hq hm hL h hfv hk0 hk1 hk2 ht1 ht2 (ih (j + 1) (by omega) (by omega)))
end LP
theorem o_first : ∃ n' nd' es' wt' un' ed' G' g', f_X0_begin 0 0 0 (fun _ => 0) (fun _ => 0) (fun _ => 0) (fun _ _ => 0) 1 = some (n', nd', es', wt', un', ed', G') ∧ f_X6_begins (fun _ => 0) 1 = some g' ∧ RG 1 n' nd' es' wt' un' ed' G' g' := by
  have e1 : (1 : Int32) = nI 1 := rfl
  rw [e1]
  simp only [f_X0_begin, nm_eq, z_filli (show 9 ≤ 99999 by omega), z_filli (show 81 ≤ 99999 by omega), Option.bind_some, z_begin1 (ρ := Unit), z_begin2, z_first _ 1 (by omega)]
  refine ⟨_, _, _, _, _, _, _, _, rfl, rfl, RG.first (by omega) (by omega) rfl (fun p hp => if_pos hp) (fun p hp => if_pos hp) (fun p hp => if_pos hp) (fun j hj s hs => if_pos ⟨hj, hs⟩) ?_ ?_ (fun p hp => ?_) (fun k hk k0 k1 k2 => ?_)⟩
  · rw [if_neg (by omega), pk_uLn (by omega), pk_uLs]
  · rw [if_neg (by omega), pk_uLs]
  · rw [if_pos (by omega), Nat.add_sub_cancel_left]
  · rw [if_neg (by omega), pk_uLn k1, pk_uLn k0, if_pos hk]
