theorem lw_ni {l : List Nat} {a b : Nat} {r : List Nat} (h : (l ++ (a :: b :: r)).Nodup) : a ∉ l ∧ b ∉ l := by
  have h3 := (List.nodup_append.mp h).2.2
  exact ⟨fun z => h3 a z a List.mem_cons_self rfl, fun z => h3 b z b (List.mem_cons_of_mem _ List.mem_cons_self) rfl⟩
theorem bv_drop {X : CX} {cs sl : Nat} {a b : va_W} {pc : Nat} {lv : List (Nat × Value)} {st : List Value} (k : V2 X cs sl a pc lv st) : V2 X cs sl (a ++ b) pc lv st := bv_w (List.range a.length) rg_left nd_range k
section LW
variable {X : CX} {cs : Nat → ClassId} {qx qm : Nat → Nat} {D : va_G} {tF tO tT e0 k0 e1 k1 e2 k2 b L j : Nat} {x0 x1 x2 xs : Nat → Int32} {fv : Value}
theorem nL_X5_paper : NameIn yX5_paper 1 := ⟨by decide +kernel, by decide +kernel, by decide +kernel⟩
theorem nL_X6_paper : NameIn yX6_paper 1 := ⟨by decide +kernel, by decide +kernel, by decide +kernel⟩
set_option maxRecDepth 100000 in
set_option maxHeartbeats 4000000 in
theorem lc_44 (C : O2 X cL_law 4 (some .boolean) wsL_law RL room_1 D vwCl (xT cs) [] (lwN tF tO tT e0 k0 x0 e1 k1 x1 e2 k2 x2 fv b L xs)) (hq : (xA qx).Nodup) (hm : (mA qm).Nodup) (hL : L ≤ 2560) (hj : 5 * j + 5 ≤ L) (hfv : isQ fv) (nx_ : LI X cs qx qm e0 x0 b (j + 1) 18) : LI X cs qx qm e0 x0 b j 1801 := by
  intro n nd es kn knd kes img tl ta tn sl bey wt un ed kwt kun ked tb sb sz sbs G K P wk wh isK isB fed at_ ltr ab ps g kp nx fa tp rs rv ct it ex pl pf h
  obtain ⟨⟨N, R⟩, RKp, TT, S, F, PP, PXp⟩ := h
  obtain ⟨r, f1, f2⟩ := o_paper PP (xs (5 * j + 1))
  refine bv_aload_n C 2 dL_law_1801 rfl ?_
  refine lw_arg C (fun _ _ h => h.2.2.2) hL hj 1 (by decide) rfl dL_law_1802 dL_law_1803 dL_law_1804 dL_law_1805 dL_law_1806 ?_
  refine bv_kV C (As := [.int (xs (5 * j + 1))]) (st := []) (fun l9 => k_X5_paper hq f1) rfl cut_left rfl (fun _ h => h) (NTo.of lwN_ok (fun _ _ h => h.1.1) (List.range _) rg_left rfl) xN_ok gL_law_X5_paper 0 rfl rfl rfl rfl nL_X5_paper ⟨rfl, rfl, (Nat.le_of_ble_eq_true rfl), (Nat.le_of_ble_eq_true rfl), by show 44 + 140 * j + 0 ≤ 600000; omega, by show 18765 + 12000 * j + 0 ≤ 7302249; omega⟩ dL_law_1807 (Nat.le_of_ble_eq_true rfl) rfl ?_
  refine bv_eqw (List.append_assoc _ _ _) ?_
  refine bv_aload_n C 1 dL_law_1810 rfl ?_
  refine lw_arg C (fun _ _ h => h.2.2.2) hL hj 1 (by decide) rfl dL_law_1811 dL_law_1812 dL_law_1813 dL_law_1814 dL_law_1815 ?_
  refine bv_apart (fun hap => ?_)
  have hpl : pl < 2 ^ 31 := Nat.lt_of_le_of_lt PP.1 (by decide)
  obtain ⟨pv, hto⟩ : ∃ pv, NTo wsL_law D vwCl (xT cs) (lwN tF tO tT e0 k0 x0 e1 k1 x1 e2 k2 x2 fv b L xs) [] ((mW qm cs isK isB fed at_ ltr ab ps g kp nx fa tp rs rv ct it) ++ (ex ++ (xW qx cs n nd es kn knd kes img tl ta tn sl bey wt un ed kwt kun ked tb sb sz sbs G K P wk wh))) (cV fv ps pv pl pf) (mA qm) := by
    rcases PXp with ⟨rfl, rfl, rfl, rfl⟩ | ⟨tv, rfl⟩
    · exact ⟨k0, NTo.of (wc := (mW qm cs isK isB fed at_ ltr ab ps g kp nx fa tp rs rv ct it)) lwN_ok (fun _ _ h => ⟨⟨h.2.1.1, h.2.1.2.2.2.2.1⟩, h.2.2.1⟩) (List.range _) rg_left rfl⟩
    · have hni := lw_ni (l := mA qm) (r := (((xW qx cs n nd es kn knd kes img tl ta tn sl bey wt un ed kwt kun ked tb sb sz sbs G K P wk wh) : va_W).map Prod.fst)) hap
      exact ⟨tv, NTo.and (NTo.and (NTo.of (wc := (mW qm cs isK isB fed at_ ltr ab ps g kp nx fa tp rs rv ct it)) lwN_ok (fun _ _ h => h.2.1.1) (List.range _) rg_left rfl) (NTo.str inlJ0 10 11 2 rfl rfl rfl hni.1 hni.2)) (NTo.of (wc := (mW qm cs isK isB fed at_ ltr ab ps g kp nx fa tp rs rv ct it)) lwN_ok (fun _ _ h => h.2.2.1) (List.range _) rg_left rfl)⟩
  refine bv_kV C (As := [.int (xs (5 * j + 1))]) (st := [.int r]) (fun l9 => k_X6_paper (fv := fv) (pv := pv) (pf := pf) hm hfv hpl f2) rfl cut_left rfl (fun _ h => h.sub [0, 1] rfl) hto cV_ok gL_law_X6_paper 0 rfl rfl rfl rfl nL_X6_paper ⟨rfl, rfl, (Nat.le_of_ble_eq_true rfl), (Nat.le_of_ble_eq_true rfl), by show 44 + 140 * j + 0 ≤ 600000; omega, by show 18765 + 12000 * j + 0 ≤ 7302249; omega⟩ dL_law_1816 (Nat.le_of_ble_eq_true rfl) rfl ?_
  refine bv_icmp_eq_t C dL_law_1819 (tgt := 2090) (by decide) rfl ?_
  refine bv_rot ?_
  refine bv_widen (cs1 := 44 + 140 * (j + 1)) (sl1 := 18765 + 12000 * (j + 1)) (by omega) (by omega) ?_
  exact lw_tail C (by decide) dL_law_2090 dL_law_2093 (nx_ _ _ _ _ _ _ _ _ _ _ _ _ _ _ _ _ _ _ _ _ _ _ _ _ _ _ _ _ _ _ _ _ _ _ _ _ _ _ _ _ _ _ _ _ _ _ ⟨⟨_, R⟩, RKp, TT, S, F, PP, PXp⟩)
theorem nL_X5_told : NameIn yX5_told 1 := ⟨by decide +kernel, by decide +kernel, by decide +kernel⟩
theorem nL_X6_told : NameIn yX6_told 1 := ⟨by decide +kernel, by decide +kernel, by decide +kernel⟩
set_option maxRecDepth 100000 in
set_option maxHeartbeats 4000000 in
theorem lc_45 (C : O2 X cL_law 4 (some .boolean) wsL_law RL room_1 D vwCl (xT cs) [] (lwN tF tO tT e0 k0 x0 e1 k1 x1 e2 k2 x2 fv b L xs)) (hq : (xA qx).Nodup) (hm : (mA qm).Nodup) (hL : L ≤ 2560) (hj : 5 * j + 5 ≤ L) (hfv : isQ fv) (nx_ : LI X cs qx qm e0 x0 b (j + 1) 18) : LI X cs qx qm e0 x0 b j 1824 := by
  intro n nd es kn knd kes img tl ta tn sl bey wt un ed kwt kun ked tb sb sz sbs G K P wk wh isK isB fed at_ ltr ab ps g kp nx fa tp rs rv ct it ex pl pf h
  obtain ⟨⟨N, R⟩, RKp, TT, S, F, PP, PXp⟩ := h
  obtain ⟨r, f1, f2⟩ := o_told R TT PP (xs (5 * j + 1))
  refine bv_aload_n C 2 dL_law_1824 rfl ?_
  refine lw_arg C (fun _ _ h => h.2.2.2) hL hj 1 (by decide) rfl dL_law_1825 dL_law_1826 dL_law_1827 dL_law_1828 dL_law_1829 ?_
  refine bv_kV C (As := [.int (xs (5 * j + 1))]) (st := []) (fun l9 => k_X5_told hq f1) rfl cut_left rfl (fun _ h => h) (NTo.of lwN_ok (fun _ _ h => h.1.1) (List.range _) rg_left rfl) xN_ok gL_law_X5_told 0 rfl rfl rfl rfl nL_X5_told ⟨rfl, rfl, (Nat.le_of_ble_eq_true rfl), (Nat.le_of_ble_eq_true rfl), by show 44 + 140 * j + 0 ≤ 600000; omega, by show 18765 + 12000 * j + 0 ≤ 7302249; omega⟩ dL_law_1830 (Nat.le_of_ble_eq_true rfl) rfl ?_
  refine bv_eqw (List.append_assoc _ _ _) ?_
  refine bv_aload_n C 1 dL_law_1833 rfl ?_
  refine lw_arg C (fun _ _ h => h.2.2.2) hL hj 1 (by decide) rfl dL_law_1834 dL_law_1835 dL_law_1836 dL_law_1837 dL_law_1838 ?_
  refine bv_apart (fun hap => ?_)
  have hpl : pl < 2 ^ 31 := Nat.lt_of_le_of_lt PP.1 (by decide)
  obtain ⟨pv, hto⟩ : ∃ pv, NTo wsL_law D vwCl (xT cs) (lwN tF tO tT e0 k0 x0 e1 k1 x1 e2 k2 x2 fv b L xs) [] ((mW qm cs isK isB fed at_ ltr ab ps g kp nx fa tp rs rv ct it) ++ (ex ++ (xW qx cs n nd es kn knd kes img tl ta tn sl bey wt un ed kwt kun ked tb sb sz sbs G K P wk wh))) (cV fv ps pv pl pf) (mA qm) := by
    rcases PXp with ⟨rfl, rfl, rfl, rfl⟩ | ⟨tv, rfl⟩
    · exact ⟨k0, NTo.of (wc := (mW qm cs isK isB fed at_ ltr ab ps g kp nx fa tp rs rv ct it)) lwN_ok (fun _ _ h => ⟨⟨h.2.1.1, h.2.1.2.2.2.2.1⟩, h.2.2.1⟩) (List.range _) rg_left rfl⟩
    · have hni := lw_ni (l := mA qm) (r := (((xW qx cs n nd es kn knd kes img tl ta tn sl bey wt un ed kwt kun ked tb sb sz sbs G K P wk wh) : va_W).map Prod.fst)) hap
      exact ⟨tv, NTo.and (NTo.and (NTo.of (wc := (mW qm cs isK isB fed at_ ltr ab ps g kp nx fa tp rs rv ct it)) lwN_ok (fun _ _ h => h.2.1.1) (List.range _) rg_left rfl) (NTo.str inlJ0 10 11 2 rfl rfl rfl hni.1 hni.2)) (NTo.of (wc := (mW qm cs isK isB fed at_ ltr ab ps g kp nx fa tp rs rv ct it)) lwN_ok (fun _ _ h => h.2.2.1) (List.range _) rg_left rfl)⟩
  refine bv_kV C (As := [.int (xs (5 * j + 1))]) (st := [.int r]) (fun l9 => k_X6_told (fv := fv) (pv := pv) (pf := pf) hm hfv hpl f2) rfl cut_left rfl (fun _ h => h.sub [0, 1] rfl) hto cV_ok gL_law_X6_told 0 rfl rfl rfl rfl nL_X6_told ⟨rfl, rfl, (Nat.le_of_ble_eq_true rfl), (Nat.le_of_ble_eq_true rfl), by show 44 + 140 * j + 0 ≤ 600000; omega, by show 18765 + 12000 * j + 0 ≤ 7302249; omega⟩ dL_law_1839 (Nat.le_of_ble_eq_true rfl) rfl ?_
  refine bv_icmp_eq_t C dL_law_1842 (tgt := 2090) (by decide) rfl ?_
  refine bv_rot ?_
  refine bv_widen (cs1 := 44 + 140 * (j + 1)) (sl1 := 18765 + 12000 * (j + 1)) (by omega) (by omega) ?_
  exact lw_tail C (by decide) dL_law_2090 dL_law_2093 (nx_ _ _ _ _ _ _ _ _ _ _ _ _ _ _ _ _ _ _ _ _ _ _ _ _ _ _ _ _ _ _ _ _ _ _ _ _ _ _ _ _ _ _ _ _ _ _ ⟨⟨_, R⟩, RKp, TT, S, F, PP, PXp⟩)
theorem nL_X5_spell : NameIn yX5_spell 1 := ⟨by decide +kernel, by decide +kernel, by decide +kernel⟩
theorem nL_X6_spell : NameIn yX6_spell 1 := ⟨by decide +kernel, by decide +kernel, by decide +kernel⟩
set_option maxRecDepth 100000 in
set_option maxHeartbeats 4000000 in
theorem lc_43 (C : O2 X cL_law 4 (some .boolean) wsL_law RL room_1 D vwCl (xT cs) [] (lwN tF tO tT e0 k0 x0 e1 k1 x1 e2 k2 x2 fv b L xs)) (hq : (xA qx).Nodup) (hm : (mA qm).Nodup) (hL : L ≤ 2560) (hj : 5 * j + 5 ≤ L) (hk0 : sb_Fit x0) (hk1 : sb_Fit x1) (hk2 : sb_Fit x2) (ht1 : sb_Lat (fun _ => 32) 1 x1) (ht2 : sb_Lat (fun _ => 47) 1 x2) (nx_ : LI X cs qx qm e0 x0 b (j + 1) 18) : LI X cs qx qm e0 x0 b j 1778 := by
  intro n nd es kn knd kes img tl ta tn sl bey wt un ed kwt kun ked tb sb sz sbs G K P wk wh isK isB fed at_ ltr ab ps g kp nx fa tp rs rv ct it ex pl pf h
  obtain ⟨⟨N, R⟩, RKp, TT, S, F, PP, PXp⟩ := h
  refine bv_aload_n C 2 dL_law_1778 rfl ?_
  refine lw_arg C (fun _ _ h => h.2.2.2) hL hj 1 (by decide) rfl dL_law_1779 dL_law_1780 dL_law_1781 dL_law_1782 dL_law_1783 ?_
  cases hg : inb (xs (5 * j + 1)) 4 with
  | false =>
    have f1 : f_X5_spell n sl bey sb G wh (xs (5 * j + 1)) = some (-1, sl, bey, sb, wh) := by
      rw [f_X5_spell, z_isGame, hg, Option.bind_some]
      rfl
    refine bv_kV C (As := [.int (xs (5 * j + 1))]) (st := []) (fun l9 => k_X5_spell hq f1) rfl cut_left rfl (fun _ h => h) (NTo.of lwN_ok (fun _ _ h => h.1.1) (List.range _) rg_left rfl) xN_ok gL_law_X5_spell 0 rfl rfl rfl rfl nL_X5_spell ⟨rfl, rfl, (Nat.le_of_ble_eq_true rfl), (Nat.le_of_ble_eq_true rfl), by show 44 + 140 * j + 0 ≤ 600000; omega, by show 18765 + 12000 * j + 0 ≤ 7302249; omega⟩ dL_law_1784 (Nat.le_of_ble_eq_true rfl) rfl ?_
    refine bv_eqw (List.append_assoc _ _ _) ?_
    refine bv_aload_n C 1 dL_law_1787 rfl ?_
    refine lw_arg C (fun _ _ h => h.2.2.2) hL hj 1 (by decide) rfl dL_law_1788 dL_law_1789 dL_law_1790 dL_law_1791 dL_law_1792 ?_
    refine bv_aV C (As := [.int (xs (5 * j + 1))]) (st := [.int (-1)]) (fun l9 => aX6_spell_no (tO := tO) (tT := tT) (k0 := k0) (e1 := e1) (k1 := k1) (x1 := x1) (e2 := e2) (k2 := k2) (x2 := x2) ((z_isGameM _).trans (congrArg some hg))) cut_left rfl (fun _ h => h.sub [0, 1, 2] rfl) (NTo.of lwN_ok (fun _ _ h => h.2.1) (List.range _) rg_left rfl) spN_ok gL_law_X6_spell 0 rfl rfl rfl rfl nL_X6_spell ⟨rfl, rfl, (Nat.le_of_ble_eq_true rfl), (Nat.le_of_ble_eq_true rfl), by show 44 + 140 * j + 140 ≤ 600000; omega, by show 18765 + 12000 * j + 12000 ≤ 7302249; omega⟩ dL_law_1793 (Nat.le_of_ble_eq_true rfl) rfl (fun rv9 w9 hp9 => ?_)
    obtain ⟨rfl, rfl⟩ := hp9
    refine bv_icmp_eq_t C dL_law_1796 (tgt := 2090) (by decide) rfl ?_
    refine bv_rot ?_
    refine bv_eqc (cs1 := 44 + 140 * (j + 1)) (sl1 := 18765 + 12000 * (j + 1)) (by omega) (by omega) ?_
    exact lw_tail C (by decide) dL_law_2090 dL_law_2093 (nx_ _ _ _ _ _ _ _ _ _ _ _ _ _ _ _ _ _ _ _ _ _ _ _ _ _ _ _ _ _ _ _ _ _ _ _ _ _ _ _ _ _ _ _ _ _ _ ⟨⟨_, R⟩, RKp, TT, S, F, PP, PXp⟩)
  | true =>
    obtain ⟨jj, hjj, _, ha⟩ := inb_of hg
    have hN := R.1
    obtain ⟨hN1, hN9, hn, hg0⟩ := hN
    subst hn
    have hgM : f_X6_isGame (xs (5 * j + 1)) = some true := (z_isGameM _).trans (congrArg some hg)
    obtain ⟨m1, m2, m3⟩ := o_spellM R F hjj
    obtain ⟨y1, y2⟩ := o_spellX (G := G) hN9 hN1 hjj sl bey sb wh
    rw [← ha] at m1 y1 y2
    have hM : ∀ l : Launch, aMet l yX6_spell wsX6_spell { frames := 6, cells := 140, slots := 12000, locals := 171 } D vwCl [(cs 0, .int), (cs 1, .long), (cs 2, .byte)] (spN tO tT e0 k0 x0 e1 k1 x1 e2 k2 x2) (mA qm) [.ref (qm 0), .int (xs (5 * j + 1))] (mW qm cs isK isB fed at_ ltr ab ps g kp nx fa tp rs rv ct it) 140 12000 (spP qm cs isK fed at_ ltr ps g kp nx fa tp rs rv ct it N (spB N (G jj)) (spT N (G jj))) := fun l => aX6_spell (lo := spL N (G jj)) (up := spU N (G jj)) (abv := shW N (G jj)) (zu := fun p => dln (spU N (G jj) p)) (zl := fun p => dln (spL N (G jj) p)) (su := fun p => dtn (spU N (G jj) p)) (sv := fun p => dtn (spL N (G jj) p)) hgM hm hN1 (by omega) (z_nM hg0) m1 (fun p _ _ => m2 p) (fun p _ _ => m3 p) (fun p _ _ => z_dec _) (fun p _ _ _ => ⟨z_dec _, spL_6 (by omega) _ p⟩) hk0 hk1 hk2 ht1 ht2
    by_cases hb : ∃ p, p < N ∧ spB N (G jj) p = true
    · refine bv_kV C (As := [.int (xs (5 * j + 1))]) (st := []) (fun l9 => k_X5_spell hq (y1 hb)) rfl cut_left rfl (fun _ h => h) (NTo.of lwN_ok (fun _ _ h => h.1.1) (List.range _) rg_left rfl) xN_ok gL_law_X5_spell 0 rfl rfl rfl rfl nL_X5_spell ⟨rfl, rfl, (Nat.le_of_ble_eq_true rfl), (Nat.le_of_ble_eq_true rfl), by show 44 + 140 * j + 0 ≤ 600000; omega, by show 18765 + 12000 * j + 0 ≤ 7302249; omega⟩ dL_law_1784 (Nat.le_of_ble_eq_true rfl) rfl ?_
      refine bv_eqw (List.append_assoc _ _ _) ?_
      refine bv_aload_n C 1 dL_law_1787 rfl ?_
      refine lw_arg C (fun _ _ h => h.2.2.2) hL hj 1 (by decide) rfl dL_law_1788 dL_law_1789 dL_law_1790 dL_law_1791 dL_law_1792 ?_
      refine bv_aV C (As := [.int (xs (5 * j + 1))]) (st := [.int (-6)]) (fun l9 => hM l9) cut_left rfl (fun _ h => h.sub [0, 1, 2] rfl) (NTo.of lwN_ok (fun _ _ h => h.2.1) (List.range _) rg_left rfl) spN_ok gL_law_X6_spell 0 rfl rfl rfl rfl nL_X6_spell ⟨rfl, rfl, (Nat.le_of_ble_eq_true rfl), (Nat.le_of_ble_eq_true rfl), by show 44 + 140 * j + 140 ≤ 600000; omega, by show 18765 + 12000 * j + 12000 ≤ 7302249; omega⟩ dL_law_1793 (Nat.le_of_ble_eq_true rfl) rfl (fun rv9 w9 hp9 => ?_)
      rcases hp9 with ⟨_, _, _, rfl, _, _, rfl⟩ | ⟨hall, _⟩
      rotate_left
      · obtain ⟨p, hp, hbp⟩ := hb
        rw [hall p hp] at hbp
        cases hbp
      refine bv_icmp_eq_t C dL_law_1796 (tgt := 2090) (by decide) rfl ?_
      refine bv_rot ?_
      refine bv_eqc (cs1 := 44 + 140 * (j + 1)) (sl1 := 18765 + 12000 * (j + 1)) (by omega) (by omega) ?_
      exact lw_tail C (by decide) dL_law_2090 dL_law_2093 (nx_ _ _ _ _ _ _ _ _ _ _ _ _ _ _ _ _ _ _ _ _ _ _ _ _ _ _ _ _ _ _ _ _ _ _ _ _ _ _ _ _ _ _ _ _ _ _ ⟨⟨_, R⟩, RKp, TT, S, F, PP, PXp⟩)
    · have hall : ∀ p, p < N → spB N (G jj) p = false := fun p hp => by
        cases z : spB N (G jj) p with
        | false => rfl
        | true => exact absurd ⟨p, hp, z⟩ hb
      obtain ⟨sb', f1, hpq⟩ := y2 hall
      refine bv_kV C (As := [.int (xs (5 * j + 1))]) (st := []) (fun l9 => k_X5_spell hq f1) rfl cut_left rfl (fun _ h => h) (NTo.of lwN_ok (fun _ _ h => h.1.1) (List.range _) rg_left rfl) xN_ok gL_law_X5_spell 0 rfl rfl rfl rfl nL_X5_spell ⟨rfl, rfl, (Nat.le_of_ble_eq_true rfl), (Nat.le_of_ble_eq_true rfl), by show 44 + 140 * j + 0 ≤ 600000; omega, by show 18765 + 12000 * j + 0 ≤ 7302249; omega⟩ dL_law_1784 (Nat.le_of_ble_eq_true rfl) rfl ?_
      refine bv_eqw (List.append_assoc _ _ _) ?_
      refine bv_aload_n C 1 dL_law_1787 rfl ?_
      refine lw_arg C (fun _ _ h => h.2.2.2) hL hj 1 (by decide) rfl dL_law_1788 dL_law_1789 dL_law_1790 dL_law_1791 dL_law_1792 ?_
      refine bv_aV C (As := [.int (xs (5 * j + 1))]) (st := [.int (nI (spT N (G jj) N).2)]) (fun l9 => hM l9) cut_left rfl (fun _ h => h.sub [0, 1, 2] rfl) (NTo.of lwN_ok (fun _ _ h => h.2.1) (List.range _) rg_left rfl) spN_ok gL_law_X6_spell 0 rfl rfl rfl rfl nL_X6_spell ⟨rfl, rfl, (Nat.le_of_ble_eq_true rfl), (Nat.le_of_ble_eq_true rfl), by show 44 + 140 * j + 140 ≤ 600000; omega, by show 18765 + 12000 * j + 12000 ≤ 7302249; omega⟩ dL_law_1793 (Nat.le_of_ble_eq_true rfl) rfl (fun rv9 w9 hp9 => ?_)
      rcases hp9 with ⟨p, hp, hbp, _⟩ | ⟨_, t1, t2, ff, _, _, rfl, rfl, hF, hLt⟩
      · rw [hall p hp] at hbp
        cases hbp
      refine bv_icmp_eq_t C dL_law_1796 (tgt := 2090) (by decide) rfl ?_
      refine bv_rot ?_
      refine bv_eqw (List.append_assoc _ _ _).symm ?_
      refine bv_drop ?_
      refine bv_eqc (cs1 := 44 + 140 * (j + 1)) (sl1 := 18765 + 12000 * (j + 1)) (by omega) (by omega) ?_
      exact lw_tail C (by decide) dL_law_2090 dL_law_2093 (nx_ _ _ _ _ _ _ _ _ _ _ _ _ _ _ _ _ _ _ _ _ _ _ _ _ _ _ _ _ _ _ _ _ _ _ _ _ _ _ _ _ _ _ _ _ _ _ ⟨⟨_, R⟩, RKp, TT, S, F, RP.new (by omega) hpq hLt, Or.inr ⟨t2, rfl⟩⟩)
end LW
