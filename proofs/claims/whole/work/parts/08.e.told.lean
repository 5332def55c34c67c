section WKT
variable {q : Nat → Nat} {cs : Nat → ClassId} {D : va_G} {fv : Value} {pv : Nat} {isK : Bool} {isB : Bool} {fed : Int32} {at_ : Int32} {ltr : Int32} {ab : Int64} {ps : Nat} {g : Nat → Int64} {kp : Nat → Int64} {nx : Nat → Int64} {fa : Nat → Int64} {tp : Nat → Int32} {rs : Nat → Int32} {rv : Nat → Int64} {ct : Nat → Int32} {it : Nat → Int64} {pl : Nat} {pf : Nat → Int32}
def f_X6_told (fed : Int32) (g : Nat → Int64) (pl : Nat) (a1 : Int32) : Option (Int32) :=
if (a1 : Int32) = 0 then (
ck (inb a1 2231) (
some ((g a1.toNatClampNeg).toInt32))) else (
if (a1 : Int32) = 1 then (
ck (inb a1 2231) (
some ((g a1.toNatClampNeg).toInt32))) else (
if (a1 : Int32) = 2 then (
ck (inb a1 2231) (
some ((g a1.toNatClampNeg).toInt32))) else (
if (a1 : Int32) = 3 then (
(f_X6_edges g).bind (fun (r1 : Int32) =>
some r1)) else (
if (a1 : Int32) = 4 then (
(f_X6_unions g).bind (fun (r2 : Int32) =>
some r2)) else (
if (a1 : Int32) = 5 then (
some fed) else (
if (a1 : Int32) = 6 then (
some (nI pl)) else (
if (a1 : Int32) = 7 then (
(f_X6_all g).bind (fun (r3 : Int32) =>
(f_X6_weighs g r3).bind (fun (r4 : Int64) =>
some r4.toInt32))) else (
jn0 (some (-1)) (fun k5 =>
if (a1 : Int32) < 10 then (
k5) else (
(f_X6_isPartner g (a1 - 10)).bind (fun (r6 : Bool) =>
if r6 = true then (
ck (inb ((3 + a1) - 10) 2231) (
some ((g ((3 + a1) - 10).toNatClampNeg).toInt32))) else (
k5))))))))))))

theorem nI_X6_told : NameIn yX6_told 1 := ⟨by decide +kernel, by decide +kernel, by decide +kernel⟩
set_option maxRecDepth 100000 in
set_option maxHeartbeats 4000000 in
theorem k_X6_told {l : Launch} {a1 : Int32}  {res : Int32} (hq : (mA q).Nodup) (hfv : isQ fv) (hpl : pl < 2 ^ 31)  (hf : f_X6_told fed g pl a1 = some res) : kMet l yX6_told wsX6_told { frames := 8, cells := 0, slots := 0, locals := 200 } D vwCl (mT cs) (cV fv ps pv pl pf) (mA q) [.ref (q 0), .int a1] (mW q cs isK isB fed at_ ltr ab ps g kp nx fa tp rs rv ct it) (some (.int res)) (mW q cs isK isB fed at_ ltr ab ps g kp nx fa tp rs rv ct it) := by
  have iX6 : ∀ w ∈ wsX60, w ∈ wsX6_told := fun _ h => List.mem_cons_of_mem _ (List.mem_append_left _ (List.mem_append_right _ h))
  refine kMet.of (cc := cX6_told) (nL := 2) (ret := (some .int)) (own := RX6) (lv := [(0, .ref (q 0)), (1, .int a1)]) (by decide +kernel) rfl rfl cV_ok hq (Nat.le_of_ble_eq_true rfl) rfl (fun X C => ?_)
  refine VF.of hf ?_
  unfold f_X6_told
  refine v_iload_n C 1 dX6_told_0 rfl ?_
  refine v_split (fun h0 => ?_) (fun h0 => ?_)
  · refine v_tin C dX6_told_1 (tgt := 48) (off := 47) (by rw [h0]; decide) (by rw [h0]; decide) (by rw [h0]; rfl) (by decide) ?_
    refine v_aload_n C 0 dX6_told_48 rfl ?_
    refine v_get C (T := TX6) (n := 16) (C9 := RX6) iX6 0 rfl rfl 0 (by decide) (List.mem_of_getElem? (i := 1) rfl) rfl rfl dX6_told_49 ?_
    refine v_iload_n C 1 dX6_told_52 rfl ?_
    refine v_lald C 1 1 rfl rfl dX6_told_53 ?_
    refine v_l2i C dX6_told_54 ?_
    exact v_iret (rvf := fun (res : Int32) => (some (.int res))) (wf := fun (res : Int32) => (mW q cs isK isB fed at_ ltr ab ps g kp nx fa tp rs rv ct it)) C dX6_told_55 rfl rfl
  · refine v_split (fun h1 => ?_) (fun h1 => ?_)
    · refine v_tin C dX6_told_1 (tgt := 48) (off := 47) (by rw [h1]; decide) (by rw [h1]; decide) (by rw [h1]; rfl) (by decide) ?_
      refine v_aload_n C 0 dX6_told_48 rfl ?_
      refine v_get C (T := TX6) (n := 16) (C9 := RX6) iX6 0 rfl rfl 0 (by decide) (List.mem_of_getElem? (i := 1) rfl) rfl rfl dX6_told_49 ?_
      refine v_iload_n C 1 dX6_told_52 rfl ?_
      refine v_lald C 1 1 rfl rfl dX6_told_53 ?_
      refine v_l2i C dX6_told_54 ?_
      exact v_iret (rvf := fun (res : Int32) => (some (.int res))) (wf := fun (res : Int32) => (mW q cs isK isB fed at_ ltr ab ps g kp nx fa tp rs rv ct it)) C dX6_told_55 rfl rfl
    · refine v_split (fun h2 => ?_) (fun h2 => ?_)
      · refine v_tin C dX6_told_1 (tgt := 48) (off := 47) (by rw [h2]; decide) (by rw [h2]; decide) (by rw [h2]; rfl) (by decide) ?_
        refine v_aload_n C 0 dX6_told_48 rfl ?_
        refine v_get C (T := TX6) (n := 16) (C9 := RX6) iX6 0 rfl rfl 0 (by decide) (List.mem_of_getElem? (i := 1) rfl) rfl rfl dX6_told_49 ?_
        refine v_iload_n C 1 dX6_told_52 rfl ?_
        refine v_lald C 1 1 rfl rfl dX6_told_53 ?_
        refine v_l2i C dX6_told_54 ?_
        exact v_iret (rvf := fun (res : Int32) => (some (.int res))) (wf := fun (res : Int32) => (mW q cs isK isB fed at_ ltr ab ps g kp nx fa tp rs rv ct it)) C dX6_told_55 rfl rfl
      · refine v_split (fun h3 => ?_) (fun h3 => ?_)
        · refine v_tin C dX6_told_1 (tgt := 56) (off := 55) (by rw [h3]; decide) (by rw [h3]; decide) (by rw [h3]; rfl) (by decide) ?_
          refine v_aload_n C 0 dX6_told_56 rfl ?_
          refine v_callV0v C 0 rfl rfl rfl (fun l9 r9 h9 => k_X6_edges (l := l9) hq cV_ok  h9) gX6_told_X6_edges rfl nI_X6_edges ⟨rfl, rfl, Nat.le_of_ble_eq_true rfl, Nat.le_of_ble_eq_true rfl⟩ dX6_told_57 (Nat.le_of_ble_eq_true rfl) (fun r1 => ?_)
          exact v_iret (rvf := fun (res : Int32) => (some (.int res))) (wf := fun (res : Int32) => (mW q cs isK isB fed at_ ltr ab ps g kp nx fa tp rs rv ct it)) C dX6_told_60 rfl rfl
        · refine v_split (fun h4 => ?_) (fun h4 => ?_)
          · refine v_tin C dX6_told_1 (tgt := 61) (off := 60) (by rw [h4]; decide) (by rw [h4]; decide) (by rw [h4]; rfl) (by decide) ?_
            refine v_aload_n C 0 dX6_told_61 rfl ?_
            refine v_callV0v C 0 rfl rfl rfl (fun l9 r9 h9 => k_X6_unions (l := l9) hq cV_ok  h9) gX6_told_X6_unions rfl nI_X6_unions ⟨rfl, rfl, Nat.le_of_ble_eq_true rfl, Nat.le_of_ble_eq_true rfl⟩ dX6_told_62 (Nat.le_of_ble_eq_true rfl) (fun r2 => ?_)
            exact v_iret (rvf := fun (res : Int32) => (some (.int res))) (wf := fun (res : Int32) => (mW q cs isK isB fed at_ ltr ab ps g kp nx fa tp rs rv ct it)) C dX6_told_65 rfl rfl
          · refine v_split (fun h5 => ?_) (fun h5 => ?_)
            · refine v_tin C dX6_told_1 (tgt := 66) (off := 65) (by rw [h5]; decide) (by rw [h5]; decide) (by rw [h5]; rfl) (by decide) ?_
              refine v_aload_n C 0 dX6_told_66 rfl ?_
              refine v_get C (T := TX6) (n := 16) (C9 := RX6) iX6 0 rfl rfl 9 (by decide) (List.mem_of_getElem? (i := 2) rfl) rfl rfl dX6_told_67 ?_
              exact v_iret (rvf := fun (res : Int32) => (some (.int res))) (wf := fun (res : Int32) => (mW q cs isK isB fed at_ ltr ab ps g kp nx fa tp rs rv ct it)) C dX6_told_70 rfl rfl
            · refine v_split (fun h6 => ?_) (fun h6 => ?_)
              · refine v_tin C dX6_told_1 (tgt := 71) (off := 70) (by rw [h6]; decide) (by rw [h6]; decide) (by rw [h6]; rfl) (by decide) ?_
                refine v_aload_n C 0 dX6_told_71 rfl ?_
                refine v_get C (T := TX6) (n := 16) (C9 := RX6) iX6 0 rfl rfl 13 (by decide) (List.mem_of_getElem? (i := 3) rfl) rfl rfl dX6_told_72 ?_
                refine v_strLen C (fun _ _ h => h.1) gX6_told_J0_length_8abf5 ⟨rfl, rfl, Nat.le_of_ble_eq_true rfl, Nat.le_of_ble_eq_true rfl⟩ dX6_told_75 (Nat.le_of_ble_eq_true rfl) ?_
                exact v_iret (rvf := fun (res : Int32) => (some (.int res))) (wf := fun (res : Int32) => (mW q cs isK isB fed at_ ltr ab ps g kp nx fa tp rs rv ct it)) C dX6_told_78 rfl rfl
              · refine v_split (fun h7 => ?_) (fun h7 => ?_)
                · refine v_tin C dX6_told_1 (tgt := 79) (off := 78) (by rw [h7]; decide) (by rw [h7]; decide) (by rw [h7]; rfl) (by decide) ?_
                  refine v_aload_n C 0 dX6_told_79 rfl ?_
                  refine v_aload_n C 0 dX6_told_80 rfl ?_
                  refine v_callV0v C 0 rfl rfl rfl (fun l9 r9 h9 => k_X6_all (l := l9) hq cV_ok  h9) gX6_told_X6_all rfl nI_X6_all ⟨rfl, rfl, Nat.le_of_ble_eq_true rfl, Nat.le_of_ble_eq_true rfl⟩ dX6_told_81 (Nat.le_of_ble_eq_true rfl) (fun r3 => ?_)
                  refine v_callV1v C 0 rfl rfl rfl (fun l9 r9 h9 => k_X6_weighs (l := l9) hq cV_ok  h9) gX6_told_X6_weighs rfl nI_X6_weighs ⟨rfl, rfl, Nat.le_of_ble_eq_true rfl, Nat.le_of_ble_eq_true rfl⟩ dX6_told_84 (Nat.le_of_ble_eq_true rfl) (fun r4 => ?_)
                  refine v_l2i C dX6_told_87 ?_
                  exact v_iret (rvf := fun (res : Int32) => (some (.int res))) (wf := fun (res : Int32) => (mW q cs isK isB fed at_ ltr ab ps g kp nx fa tp rs rv ct it)) C dX6_told_88 rfl rfl
                · have g0 := i32n h0
                  have g1 := i32n h1
                  have g2 := i32n h2
                  have g3 := i32n h3
                  have g4 := i32n h4
                  have g5 := i32n h5
                  have g6 := i32n h6
                  have g7 := i32n h7
                  rw [show ((0 : Int32).toInt) = 0 from by decide] at g0
                  rw [show ((1 : Int32).toInt) = 1 from by decide] at g1
                  rw [show ((2 : Int32).toInt) = 2 from by decide] at g2
                  rw [show ((3 : Int32).toInt) = 3 from by decide] at g3
                  rw [show ((4 : Int32).toInt) = 4 from by decide] at g4
                  rw [show ((5 : Int32).toInt) = 5 from by decide] at g5
                  rw [show ((6 : Int32).toInt) = 6 from by decide] at g6
                  rw [show ((7 : Int32).toInt) = 7 from by decide] at g7
                  refine v_tout C dX6_told_1 (tgt := 89) (by omega) (by decide) ?_
                  refine v_iload_n C 1 dX6_told_89 rfl ?_
                  refine v_bipush C dX6_told_90 (v := 10) (by decide) ?_
                  refine v_jn0 (wj := ((mW q cs isK isB fed at_ ltr ab ps g kp nx fa tp rs rv ct it))) (pcj := 121) (lvj := ([])) (stj := ([])) ?_ (fun k5 hk5 => ?_)
                  · refine v_iconst C dX6_told_121 (v := (-1)) (by decide) ?_
                    exact v_iret (rvf := fun (res : Int32) => (some (.int res))) (wf := fun (res : Int32) => (mW q cs isK isB fed at_ ltr ab ps g kp nx fa tp rs rv ct it)) C dX6_told_122 rfl rfl
                  · refine v_icmp_lt C dX6_told_92 (tgt := 121) (by decide) ?_ ?_
                    · exact v_sub [] rfl (hk5)
                    · refine v_aload_n C 0 dX6_told_95 rfl ?_
                      refine v_iload_n C 1 dX6_told_96 rfl ?_
                      refine v_bipush C dX6_told_97 (v := 10) (by decide) ?_
                      refine v_isub C dX6_told_99 ?_
                      refine v_callV1v C 0 rfl rfl rfl (fun l9 r9 h9 => k_X6_isPartner (l := l9) hq cV_ok  h9) gX6_told_X6_isPartner rfl nI_X6_isPartner ⟨rfl, rfl, Nat.le_of_ble_eq_true rfl, Nat.le_of_ble_eq_true rfl⟩ dX6_told_100 (Nat.le_of_ble_eq_true rfl) (fun r6 => ?_)
                      refine v_ifb_eq C (b := r6) dX6_told_103 (tgt := 121) (by decide) ?_ ?_
                      · exact v_sub [] rfl (hk5)
                      · refine v_aload_n C 0 dX6_told_106 rfl ?_
                        refine v_get C (T := TX6) (n := 16) (C9 := RX6) iX6 0 rfl rfl 0 (by decide) (List.mem_of_getElem? (i := 1) rfl) rfl rfl dX6_told_107 ?_
                        refine v_iconst C dX6_told_110 (v := 3) (by decide) ?_
                        refine v_iload_n C 1 dX6_told_111 rfl ?_
                        refine v_iadd C dX6_told_112 ?_
                        refine v_bipush C dX6_told_113 (v := 10) (by decide) ?_
                        refine v_isub C dX6_told_115 ?_
                        refine v_lald C 1 1 rfl rfl dX6_told_116 ?_
                        refine v_l2i C dX6_told_117 ?_
                        refine v_goto C dX6_told_118 (tgt := 122) (by decide) ?_
                        exact v_iret (rvf := fun (res : Int32) => (some (.int res))) (wf := fun (res : Int32) => (mW q cs isK isB fed at_ ltr ab ps g kp nx fa tp rs rv ct it)) C dX6_told_122 rfl rfl

def f_X6_paper (pl : Nat) (pf : Nat → Int32) (a1 : Int32) : Option (Int32) :=
(f_X6_isIn a1.toInt64 0 (((nI pl) - 1).toInt64)).bind (fun (r1 : Bool) =>
if r1 = true then (
ck (inb a1 pl) (
some (chB (pf a1.toNatClampNeg)))) else (
some (-1)))

theorem nI_X6_paper : NameIn yX6_paper 1 := ⟨by decide +kernel, by decide +kernel, by decide +kernel⟩
set_option maxRecDepth 100000 in
set_option maxHeartbeats 4000000 in
theorem k_X6_paper {l : Launch} {a1 : Int32}  {res : Int32} (hq : (mA q).Nodup) (hfv : isQ fv) (hpl : pl < 2 ^ 31)  (hf : f_X6_paper pl pf a1 = some res) : kMet l yX6_paper wsX6_paper { frames := 8, cells := 0, slots := 0, locals := 200 } D vwCl (mT cs) (cV fv ps pv pl pf) (mA q) [.ref (q 0), .int a1] (mW q cs isK isB fed at_ ltr ab ps g kp nx fa tp rs rv ct it) (some (.int res)) (mW q cs isK isB fed at_ ltr ab ps g kp nx fa tp rs rv ct it) := by
  have iX6 : ∀ w ∈ wsX60, w ∈ wsX6_paper := fun _ h => List.mem_cons_of_mem _ (List.mem_append_left _ (List.mem_append_right _ h))
  refine kMet.of (cc := cX6_paper) (nL := 2) (ret := (some .int)) (own := RX6) (lv := [(0, .ref (q 0)), (1, .int a1)]) (by decide +kernel) rfl rfl cV_ok hq (Nat.le_of_ble_eq_true rfl) rfl (fun X C => ?_)
  refine VF.of hf ?_
  unfold f_X6_paper
  refine v_iload_n C 1 dX6_paper_0 rfl ?_
  refine v_i2l C dX6_paper_1 ?_
  refine v_lconst C dX6_paper_2 (v := 0) (by decide) ?_
  refine v_aload_n C 0 dX6_paper_3 rfl ?_
  refine v_get C (T := TX6) (n := 16) (C9 := RX6) iX6 0 rfl rfl 13 (by decide) (List.mem_of_getElem? (i := 1) rfl) rfl rfl dX6_paper_4 ?_
  refine v_strLen C (fun _ _ h => h.1) gX6_paper_J0_length_8abf5 ⟨rfl, rfl, Nat.le_of_ble_eq_true rfl, Nat.le_of_ble_eq_true rfl⟩ dX6_paper_7 (Nat.le_of_ble_eq_true rfl) ?_
  refine v_iconst C dX6_paper_10 (v := 1) (by decide) ?_
  refine v_isub C dX6_paper_11 ?_
  refine v_i2l C dX6_paper_12 ?_
  refine v_callSP3v C (fun l9 r9 h9 => k_X6_isIn (l := l9) h9) gX6_paper_X6_isIn rfl nI_X6_isIn ⟨rfl, rfl, Nat.le_of_ble_eq_true rfl, Nat.le_of_ble_eq_true rfl⟩ dX6_paper_13 (Nat.le_of_ble_eq_true rfl) (fun r1 => ?_)
  refine v_ifb_eq C (b := r1) dX6_paper_16 (tgt := 30) (by decide) ?_ ?_
  · refine v_iconst C dX6_paper_30 (v := (-1)) (by decide) ?_
    exact v_iret (rvf := fun (res : Int32) => (some (.int res))) (wf := fun (res : Int32) => (mW q cs isK isB fed at_ ltr ab ps g kp nx fa tp rs rv ct it)) C dX6_paper_31 rfl rfl
  · refine v_aload_n C 0 dX6_paper_19 rfl ?_
    refine v_get C (T := TX6) (n := 16) (C9 := RX6) iX6 0 rfl rfl 13 (by decide) (List.mem_of_getElem? (i := 1) rfl) rfl rfl dX6_paper_20 ?_
    refine v_iload_n C 1 dX6_paper_23 rfl ?_
    refine v_charAt C hfv hpl (fun _ _ h => h) gX6_paper_J0_charAt_5068e ⟨rfl, rfl, Nat.le_of_ble_eq_true rfl, Nat.le_of_ble_eq_true rfl⟩ dX6_paper_24 (Nat.le_of_ble_eq_true rfl) ?_
    refine v_goto C dX6_paper_27 (tgt := 31) (by decide) ?_
    exact v_iret (rvf := fun (res : Int32) => (some (.int res))) (wf := fun (res : Int32) => (mW q cs isK isB fed at_ ltr ab ps g kp nx fa tp rs rv ct it)) C dX6_paper_31 rfl rfl

end WKT
