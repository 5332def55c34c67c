section WK
variable {q : Nat → Nat} {cs : Nat → ClassId} {D : va_G} {N : (Nat → Prop) → State → Prop} {isK : Bool} {isB : Bool} {fed : Int32} {at_ : Int32} {ltr : Int32} {ab : Int64} {ps : Nat} {g : Nat → Int64} {kp : Nat → Int64} {nx : Nat → Int64} {fa : Nat → Int64} {tp : Nat → Int32} {rs : Nat → Int32} {rv : Nat → Int64} {ct : Nat → Int32} {it : Nat → Int64}
def f_X6_weight (g : Nat → Int64) (a1 : Int32) (a2 : Int32) : Option (Int32 × (Nat → Int64)) :=
(f_X6_isPartner g a1).bind (fun (r1 : Bool) =>
if r1 = true then (
(f_X6_isIn a2.toInt64 0 1000).bind (fun (r2 : Bool) =>
if r2 = true then (
(f_X6_becomes g (3 + a1) a2.toInt64).bind (fun (r3 : Int32 × (Nat → Int64)) =>
some (r3.1, r3.2))) else (
some ((-2), g)))) else (
some ((-1), g)))

theorem nI_X6_weight : NameIn yX6_weight 2 := ⟨by decide +kernel, by decide +kernel, by decide +kernel⟩
set_option maxRecDepth 100000 in
set_option maxHeartbeats 4000000 in
theorem k_X6_weight {l : Launch} {a1 : Int32} {a2 : Int32}  {res : Int32 × (Nat → Int64)} (hq : (mA q).Nodup) (hNK : NOK N)  (hf : f_X6_weight g a1 a2 = some res) : kMet l yX6_weight wsX6_weight { frames := 2, cells := 0, slots := 0, locals := 46 } D vwCl (mT cs) N (mA q) [.ref (q 0), .int a1, .int a2] (mW q cs isK isB fed at_ ltr ab ps g kp nx fa tp rs rv ct it) (some (.int res.1)) (mW q cs isK isB fed at_ ltr ab ps res.2 kp nx fa tp rs rv ct it) := by
  refine kMet.of (cc := cX6_weight) (nL := 3) (ret := (some .int)) (own := RX6) (lv := [(0, .ref (q 0)), (1, .int a1), (2, .int a2)]) (by decide +kernel) rfl rfl hNK hq (Nat.le_of_ble_eq_true rfl) rfl (fun X C => ?_)
  refine VF.of hf ?_
  unfold f_X6_weight
  refine v_aload_n C 0 dX6_weight_0 rfl ?_
  refine v_iload_n C 1 dX6_weight_1 rfl ?_
  refine v_callV1v C 0 rfl rfl rfl (fun l9 r9 h9 => k_X6_isPartner (l := l9) hq hNK  h9) gX6_weight_X6_isPartner rfl nI_X6_isPartner ⟨rfl, rfl, Nat.le_of_ble_eq_true rfl, Nat.le_of_ble_eq_true rfl⟩ dX6_weight_2 (Nat.le_of_ble_eq_true rfl) (fun r1 => ?_)
  refine v_ifb_ne C (b := r1) dX6_weight_5 (tgt := 12) (by decide) ?_ ?_
  · refine v_iload_n C 2 dX6_weight_12 rfl ?_
    refine v_i2l C dX6_weight_13 ?_
    refine v_lconst C dX6_weight_14 (v := 0) (by decide) ?_
    refine v_ldc2 C (v := 1000) (List.mem_of_getElem? (i := 1) rfl) dX6_weight_15 ?_
    refine v_callSP3v C (fun l9 r9 h9 => k_X6_isIn (l := l9) h9) gX6_weight_X6_isIn rfl nI_X6_isIn ⟨rfl, rfl, Nat.le_of_ble_eq_true rfl, Nat.le_of_ble_eq_true rfl⟩ dX6_weight_18 (Nat.le_of_ble_eq_true rfl) (fun r2 => ?_)
    refine v_ifb_eq C (b := r2) dX6_weight_21 (tgt := 36) (by decide) ?_ ?_
    · refine v_bipush C dX6_weight_36 (v := (-2)) (by decide) ?_
      exact v_iret (rvf := fun (res : Int32 × (Nat → Int64)) => (some (.int res.1))) (wf := fun (res : Int32 × (Nat → Int64)) => (mW q cs isK isB fed at_ ltr ab ps res.2 kp nx fa tp rs rv ct it)) C dX6_weight_38 rfl rfl
    · refine v_aload_n C 0 dX6_weight_24 rfl ?_
      refine v_iconst C dX6_weight_25 (v := 3) (by decide) ?_
      refine v_iload_n C 1 dX6_weight_26 rfl ?_
      refine v_iadd C dX6_weight_27 ?_
      refine v_iload_n C 2 dX6_weight_28 rfl ?_
      refine v_i2l C dX6_weight_29 ?_
      refine v_callV2v C 0 rfl rfl rfl (fun l9 r9 h9 => k_X6_becomes (l := l9) hq hNK  h9) gX6_weight_X6_becomes rfl nI_X6_becomes ⟨rfl, rfl, Nat.le_of_ble_eq_true rfl, Nat.le_of_ble_eq_true rfl⟩ dX6_weight_30 (Nat.le_of_ble_eq_true rfl) (fun r3 => ?_)
      refine v_goto C dX6_weight_33 (tgt := 38) (by decide) ?_
      exact v_iret (rvf := fun (res : Int32 × (Nat → Int64)) => (some (.int res.1))) (wf := fun (res : Int32 × (Nat → Int64)) => (mW q cs isK isB fed at_ ltr ab ps res.2 kp nx fa tp rs rv ct it)) C dX6_weight_38 rfl rfl
  · refine v_iconst C dX6_weight_8 (v := (-1)) (by decide) ?_
    refine v_goto C dX6_weight_9 (tgt := 38) (by decide) ?_
    exact v_iret (rvf := fun (res : Int32 × (Nat → Int64)) => (some (.int res.1))) (wf := fun (res : Int32 × (Nat → Int64)) => (mW q cs isK isB fed at_ ltr ab ps res.2 kp nx fa tp rs rv ct it)) C dX6_weight_38 rfl rfl

def f_X6_quota (g : Nat → Int64) (a1 : Int32) (a2 : Int32) : Option (Int32 × (Nat → Int64)) :=
(f_X6_isIn a1.toInt64 0 1).bind (fun (r1 : Bool) =>
if r1 = true then (
(f_X6_isIn a2.toInt64 0 9999).bind (fun (r2 : Bool) =>
if r2 = true then (
(f_X6_becomes g (1 + a1) a2.toInt64).bind (fun (r3 : Int32 × (Nat → Int64)) =>
some (r3.1, r3.2))) else (
some ((-2), g)))) else (
some ((-1), g)))

theorem nI_X6_quota : NameIn yX6_quota 2 := ⟨by decide +kernel, by decide +kernel, by decide +kernel⟩
set_option maxRecDepth 100000 in
set_option maxHeartbeats 4000000 in
theorem k_X6_quota {l : Launch} {a1 : Int32} {a2 : Int32}  {res : Int32 × (Nat → Int64)} (hq : (mA q).Nodup) (hNK : NOK N)  (hf : f_X6_quota g a1 a2 = some res) : kMet l yX6_quota wsX6_quota { frames := 1, cells := 0, slots := 0, locals := 25 } D vwCl (mT cs) N (mA q) [.ref (q 0), .int a1, .int a2] (mW q cs isK isB fed at_ ltr ab ps g kp nx fa tp rs rv ct it) (some (.int res.1)) (mW q cs isK isB fed at_ ltr ab ps res.2 kp nx fa tp rs rv ct it) := by
  refine kMet.of (cc := cX6_quota) (nL := 3) (ret := (some .int)) (own := RX6) (lv := [(0, .ref (q 0)), (1, .int a1), (2, .int a2)]) (by decide +kernel) rfl rfl hNK hq (Nat.le_of_ble_eq_true rfl) rfl (fun X C => ?_)
  refine VF.of hf ?_
  unfold f_X6_quota
  refine v_iload_n C 1 dX6_quota_0 rfl ?_
  refine v_i2l C dX6_quota_1 ?_
  refine v_lconst C dX6_quota_2 (v := 0) (by decide) ?_
  refine v_lconst C dX6_quota_3 (v := 1) (by decide) ?_
  refine v_callSP3v C (fun l9 r9 h9 => k_X6_isIn (l := l9) h9) gX6_quota_X6_isIn rfl nI_X6_isIn ⟨rfl, rfl, Nat.le_of_ble_eq_true rfl, Nat.le_of_ble_eq_true rfl⟩ dX6_quota_4 (Nat.le_of_ble_eq_true rfl) (fun r1 => ?_)
  refine v_ifb_ne C (b := r1) dX6_quota_7 (tgt := 14) (by decide) ?_ ?_
  · refine v_iload_n C 2 dX6_quota_14 rfl ?_
    refine v_i2l C dX6_quota_15 ?_
    refine v_lconst C dX6_quota_16 (v := 0) (by decide) ?_
    refine v_ldc2 C (v := 9999) (List.mem_of_getElem? (i := 1) rfl) dX6_quota_17 ?_
    refine v_callSP3v C (fun l9 r9 h9 => k_X6_isIn (l := l9) h9) gX6_quota_X6_isIn rfl nI_X6_isIn ⟨rfl, rfl, Nat.le_of_ble_eq_true rfl, Nat.le_of_ble_eq_true rfl⟩ dX6_quota_20 (Nat.le_of_ble_eq_true rfl) (fun r2 => ?_)
    refine v_ifb_eq C (b := r2) dX6_quota_23 (tgt := 38) (by decide) ?_ ?_
    · refine v_bipush C dX6_quota_38 (v := (-2)) (by decide) ?_
      exact v_iret (rvf := fun (res : Int32 × (Nat → Int64)) => (some (.int res.1))) (wf := fun (res : Int32 × (Nat → Int64)) => (mW q cs isK isB fed at_ ltr ab ps res.2 kp nx fa tp rs rv ct it)) C dX6_quota_40 rfl rfl
    · refine v_aload_n C 0 dX6_quota_26 rfl ?_
      refine v_iconst C dX6_quota_27 (v := 1) (by decide) ?_
      refine v_iload_n C 1 dX6_quota_28 rfl ?_
      refine v_iadd C dX6_quota_29 ?_
      refine v_iload_n C 2 dX6_quota_30 rfl ?_
      refine v_i2l C dX6_quota_31 ?_
      refine v_callV2v C 0 rfl rfl rfl (fun l9 r9 h9 => k_X6_becomes (l := l9) hq hNK  h9) gX6_quota_X6_becomes rfl nI_X6_becomes ⟨rfl, rfl, Nat.le_of_ble_eq_true rfl, Nat.le_of_ble_eq_true rfl⟩ dX6_quota_32 (Nat.le_of_ble_eq_true rfl) (fun r3 => ?_)
      refine v_goto C dX6_quota_35 (tgt := 40) (by decide) ?_
      exact v_iret (rvf := fun (res : Int32 × (Nat → Int64)) => (some (.int res.1))) (wf := fun (res : Int32 × (Nat → Int64)) => (mW q cs isK isB fed at_ ltr ab ps res.2 kp nx fa tp rs rv ct it)) C dX6_quota_40 rfl rfl
  · refine v_iconst C dX6_quota_10 (v := (-1)) (by decide) ?_
    refine v_goto C dX6_quota_11 (tgt := 40) (by decide) ?_
    exact v_iret (rvf := fun (res : Int32 × (Nat → Int64)) => (some (.int res.1))) (wf := fun (res : Int32 × (Nat → Int64)) => (mW q cs isK isB fed at_ ltr ab ps res.2 kp nx fa tp rs rv ct it)) C dX6_quota_40 rfl rfl

def f_X6_edge (g : Nat → Int64) (a1 : Int32) (a2 : Int32) (a3 : Int32) : Option (Int32 × (Nat → Int64)) :=
(f_X6_isTwo g a1 a2).bind (fun (r1 : Bool) =>
if r1 = true then (
(f_X6_isIn a3.toInt64 (-9999) 9999).bind (fun (r2 : Bool) =>
if r2 = true then (
(f_X6_edgeOf a1 a2).bind (fun (r3 : Int32) =>
ck (inb (21 + r3) 2231) (
jn1 (fun (v5 : Bool) =>
ck (inb (21 + r3) 2231) (
nm (vp_updL g (21 + r3).toNatClampNeg 1) (fun (g6 : Nat → Int64) =>
ck (inb (102 + r3) 2231) (
nm (vp_updL g6 (102 + r3).toNatClampNeg a3.toInt64) (fun (g7 : Nat → Int64) =>
if v5 = true then (
some (0, g7)) else (
some (1, g7))))))) (fun k4 =>
jn0 (k4 false) (fun k8 =>
if (g (21 + r3).toNatClampNeg : Int64) = 1 then (
ck (inb (102 + r3) 2231) (
if (g (102 + r3).toNatClampNeg : Int64) = a3.toInt64 then (
k4 true) else (
k8))) else (
k8)))))) else (
some ((-2), g)))) else (
some ((-1), g)))

theorem nI_X6_edge : NameIn yX6_edge 3 := ⟨by decide +kernel, by decide +kernel, by decide +kernel⟩
set_option maxRecDepth 100000 in
set_option maxHeartbeats 4000000 in
theorem k_X6_edge {l : Launch} {a1 : Int32} {a2 : Int32} {a3 : Int32}  {res : Int32 × (Nat → Int64)} (hq : (mA q).Nodup) (hNK : NOK N)  (hf : f_X6_edge g a1 a2 a3 = some res) : kMet l yX6_edge wsX6_edge { frames := 3, cells := 0, slots := 0, locals := 68 } D vwCl (mT cs) N (mA q) [.ref (q 0), .int a1, .int a2, .int a3] (mW q cs isK isB fed at_ ltr ab ps g kp nx fa tp rs rv ct it) (some (.int res.1)) (mW q cs isK isB fed at_ ltr ab ps res.2 kp nx fa tp rs rv ct it) := by
  have iX6 : ∀ w ∈ wsX60, w ∈ wsX6_edge := fun _ h => List.mem_cons_of_mem _ (List.mem_append_right _ h)
  refine kMet.of (cc := cX6_edge) (nL := 6) (ret := (some .int)) (own := RX6) (lv := [(0, .ref (q 0)), (1, .int a1), (2, .int a2), (3, .int a3)]) (by decide +kernel) rfl rfl hNK hq (Nat.le_of_ble_eq_true rfl) rfl (fun X C => ?_)
  refine VF.of hf ?_
  unfold f_X6_edge
  refine v_aload_n C 0 dX6_edge_0 rfl ?_
  refine v_iload_n C 1 dX6_edge_1 rfl ?_
  refine v_iload_n C 2 dX6_edge_2 rfl ?_
  refine v_callV2v C 0 rfl rfl rfl (fun l9 r9 h9 => k_X6_isTwo (l := l9) hq hNK  h9) gX6_edge_X6_isTwo rfl nI_X6_isTwo ⟨rfl, rfl, Nat.le_of_ble_eq_true rfl, Nat.le_of_ble_eq_true rfl⟩ dX6_edge_3 (Nat.le_of_ble_eq_true rfl) (fun r1 => ?_)
  refine v_ifb_ne C (b := r1) dX6_edge_6 (tgt := 11) (by decide) ?_ ?_
  · refine v_iload_n C 3 dX6_edge_11 rfl ?_
    refine v_i2l C dX6_edge_12 ?_
    refine v_ldc2 C (v := (-9999)) (List.mem_of_getElem? (i := 1) rfl) dX6_edge_13 ?_
    refine v_ldc2 C (v := 9999) (List.mem_of_getElem? (i := 2) rfl) dX6_edge_16 ?_
    refine v_callSP3v C (fun l9 r9 h9 => k_X6_isIn (l := l9) h9) gX6_edge_X6_isIn rfl nI_X6_isIn ⟨rfl, rfl, Nat.le_of_ble_eq_true rfl, Nat.le_of_ble_eq_true rfl⟩ dX6_edge_19 (Nat.le_of_ble_eq_true rfl) (fun r2 => ?_)
    refine v_ifb_ne C (b := r2) dX6_edge_22 (tgt := 28) (by decide) ?_ ?_
    · refine v_iload_n C 1 dX6_edge_28 rfl ?_
      refine v_iload_n C 2 dX6_edge_29 rfl ?_
      refine v_callSP2v C (fun l9 r9 h9 => k_X6_edgeOf (l := l9) h9) gX6_edge_X6_edgeOf rfl nI_X6_edgeOf ⟨rfl, rfl, Nat.le_of_ble_eq_true rfl, Nat.le_of_ble_eq_true rfl⟩ dX6_edge_30 (Nat.le_of_ble_eq_true rfl) (fun r3 => ?_)
      refine v_istore C (lv' := [(4, .int r3), (0, .ref (q 0)), (1, .int a1), (2, .int a2), (3, .int a3)]) dX6_edge_33 (by decide) rfl ?_
      refine v_aload_n C 1 dX6_edge_35 rfl ?_
      refine v_get C (T := TX6) (n := 16) (C9 := RX6) iX6 0 rfl rfl 0 (by decide) (List.mem_of_getElem? (i := 3) rfl) rfl rfl dX6_edge_36 ?_
      refine v_bipush C dX6_edge_39 (v := 21) (by decide) ?_
      refine v_iload C 0 dX6_edge_41 rfl ?_
      refine v_iadd C dX6_edge_43 ?_
      refine v_lald C 1 1 rfl rfl dX6_edge_44 ?_
      refine v_lconst C dX6_edge_45 (v := 1) (by decide) ?_
      refine v_jn1 (wj := (fun v5 => (mW q cs isK isB fed at_ ltr ab ps g kp nx fa tp rs rv ct it))) (pcj := 71) (lvj := (fun v5 => [(0, .ref (q 0)), (3, .int a3), (4, .int r3)])) (stj := (fun v5 => [.int (bI v5)])) (fun v5 => ?_) (fun k4 hk4 => ?_)
      · refine v_istore C (lv' := [(5, .int (bI v5)), (0, .ref (q 0)), (3, .int a3), (4, .int r3)]) dX6_edge_71 (by decide) rfl ?_
        refine v_aload_n C 1 dX6_edge_73 rfl ?_
        refine v_get C (T := TX6) (n := 16) (C9 := RX6) iX6 0 rfl rfl 0 (by decide) (List.mem_of_getElem? (i := 3) rfl) rfl rfl dX6_edge_74 ?_
        refine v_bipush C dX6_edge_77 (v := 21) (by decide) ?_
        refine v_iload C 3 dX6_edge_79 rfl ?_
        refine v_iadd C dX6_edge_81 ?_
        refine v_lconst C dX6_edge_82 (v := 1) (by decide) ?_
        refine v_last_nm C (fun g6 => (mW q cs isK isB fed at_ ltr ab ps g6 kp nx fa tp rs rv ct it)) 1 1 rfl rfl rfl (fun _ => rfl) dX6_edge_83 (fun g6 => ?_)
        refine v_aload_n C 1 dX6_edge_84 rfl ?_
        refine v_get C (T := TX6) (n := 16) (C9 := RX6) iX6 0 rfl rfl 0 (by decide) (List.mem_of_getElem? (i := 3) rfl) rfl rfl dX6_edge_85 ?_
        refine v_bipush C dX6_edge_88 (v := 102) (by decide) ?_
        refine v_iload C 3 dX6_edge_90 rfl ?_
        refine v_iadd C dX6_edge_92 ?_
        refine v_iload_n C 2 dX6_edge_93 rfl ?_
        refine v_i2l C dX6_edge_94 ?_
        refine v_last_nm C (fun g7 => (mW q cs isK isB fed at_ ltr ab ps g7 kp nx fa tp rs rv ct it)) 1 1 rfl rfl rfl (fun _ => rfl) dX6_edge_95 (fun g7 => ?_)
        refine v_iload C 0 dX6_edge_96 rfl ?_
        refine v_ifb_eq C (b := v5) dX6_edge_98 (tgt := 105) (by decide) ?_ ?_
        · refine v_iconst C dX6_edge_105 (v := 1) (by decide) ?_
          exact v_iret (rvf := fun (res : Int32 × (Nat → Int64)) => (some (.int res.1))) (wf := fun (res : Int32 × (Nat → Int64)) => (mW q cs isK isB fed at_ ltr ab ps res.2 kp nx fa tp rs rv ct it)) C dX6_edge_106 rfl rfl
        · refine v_iconst C dX6_edge_101 (v := 0) (by decide) ?_
          refine v_goto C dX6_edge_102 (tgt := 106) (by decide) ?_
          exact v_iret (rvf := fun (res : Int32 × (Nat → Int64)) => (some (.int res.1))) (wf := fun (res : Int32 × (Nat → Int64)) => (mW q cs isK isB fed at_ ltr ab ps res.2 kp nx fa tp rs rv ct it)) C dX6_edge_106 rfl rfl
      · refine v_jn0 (wj := ((mW q cs isK isB fed at_ ltr ab ps g kp nx fa tp rs rv ct it))) (pcj := 70) (lvj := ([(0, .ref (q 0)), (3, .int a3), (4, .int r3)])) (stj := ([])) ?_ (fun k8 hk8 => ?_)
        · refine v_iconst C dX6_edge_70 (v := 0) (by decide) ?_
          exact v_sub [0, 1, 2] rfl (hk4 false)
        · refine v_lcmp_ne C dX6_edge_46 dX6_edge_47 (tgt := 70) (by decide) ?_ ?_
          · exact v_sub [1, 4, 0] rfl (hk8)
          · refine v_aload_n C 1 dX6_edge_50 rfl ?_
            refine v_get C (T := TX6) (n := 16) (C9 := RX6) iX6 0 rfl rfl 0 (by decide) (List.mem_of_getElem? (i := 3) rfl) rfl rfl dX6_edge_51 ?_
            refine v_bipush C dX6_edge_54 (v := 102) (by decide) ?_
            refine v_iload C 0 dX6_edge_56 rfl ?_
            refine v_iadd C dX6_edge_58 ?_
            refine v_lald C 1 1 rfl rfl dX6_edge_59 ?_
            refine v_iload_n C 4 dX6_edge_60 rfl ?_
            refine v_i2l C dX6_edge_61 ?_
            refine v_lcmp_ne C dX6_edge_62 dX6_edge_63 (tgt := 70) (by decide) ?_ ?_
            · exact v_sub [1, 4, 0] rfl (hk8)
            · refine v_iconst C dX6_edge_66 (v := 1) (by decide) ?_
              refine v_goto C dX6_edge_67 (tgt := 71) (by decide) ?_
              exact v_sub [1, 4, 0] rfl (hk4 true)
    · refine v_bipush C dX6_edge_25 (v := (-2)) (by decide) ?_
      exact v_iret (rvf := fun (res : Int32 × (Nat → Int64)) => (some (.int res.1))) (wf := fun (res : Int32 × (Nat → Int64)) => (mW q cs isK isB fed at_ ltr ab ps res.2 kp nx fa tp rs rv ct it)) C dX6_edge_27 rfl rfl
  · refine v_iconst C dX6_edge_9 (v := (-1)) (by decide) ?_
    exact v_iret (rvf := fun (res : Int32 × (Nat → Int64)) => (some (.int res.1))) (wf := fun (res : Int32 × (Nat → Int64)) => (mW q cs isK isB fed at_ ltr ab ps res.2 kp nx fa tp rs rv ct it)) C dX6_edge_10 rfl rfl

def f_X6_cut (g : Nat → Int64) (a1 : Int32) (a2 : Int32) : Option (Int32 × (Nat → Int64)) :=
(f_X6_isTwo g a1 a2).bind (fun (r1 : Bool) =>
if r1 = true then (
(f_X6_edgeOf a1 a2).bind (fun (r2 : Int32) =>
(f_X6_becomes g (21 + r2) 0).bind (fun (r3 : Int32 × (Nat → Int64)) =>
if (r3.1 : Int32) = 1 then (
some (1, r3.2)) else (
some ((-3), r3.2))))) else (
some ((-1), g)))

theorem nI_X6_cut : NameIn yX6_cut 2 := ⟨by decide +kernel, by decide +kernel, by decide +kernel⟩
set_option maxRecDepth 100000 in
set_option maxHeartbeats 4000000 in
theorem k_X6_cut {l : Launch} {a1 : Int32} {a2 : Int32}  {res : Int32 × (Nat → Int64)} (hq : (mA q).Nodup) (hNK : NOK N)  (hf : f_X6_cut g a1 a2 = some res) : kMet l yX6_cut wsX6_cut { frames := 3, cells := 0, slots := 0, locals := 68 } D vwCl (mT cs) N (mA q) [.ref (q 0), .int a1, .int a2] (mW q cs isK isB fed at_ ltr ab ps g kp nx fa tp rs rv ct it) (some (.int res.1)) (mW q cs isK isB fed at_ ltr ab ps res.2 kp nx fa tp rs rv ct it) := by
  refine kMet.of (cc := cX6_cut) (nL := 3) (ret := (some .int)) (own := RX6) (lv := [(0, .ref (q 0)), (1, .int a1), (2, .int a2)]) (by decide +kernel) rfl rfl hNK hq (Nat.le_of_ble_eq_true rfl) rfl (fun X C => ?_)
  refine VF.of hf ?_
  unfold f_X6_cut
  refine v_aload_n C 0 dX6_cut_0 rfl ?_
  refine v_iload_n C 1 dX6_cut_1 rfl ?_
  refine v_iload_n C 2 dX6_cut_2 rfl ?_
  refine v_callV2v C 0 rfl rfl rfl (fun l9 r9 h9 => k_X6_isTwo (l := l9) hq hNK  h9) gX6_cut_X6_isTwo rfl nI_X6_isTwo ⟨rfl, rfl, Nat.le_of_ble_eq_true rfl, Nat.le_of_ble_eq_true rfl⟩ dX6_cut_3 (Nat.le_of_ble_eq_true rfl) (fun r1 => ?_)
  refine v_ifb_ne C (b := r1) dX6_cut_6 (tgt := 11) (by decide) ?_ ?_
  · refine v_aload_n C 0 dX6_cut_11 rfl ?_
    refine v_bipush C dX6_cut_12 (v := 21) (by decide) ?_
    refine v_iload_n C 1 dX6_cut_14 rfl ?_
    refine v_iload_n C 2 dX6_cut_15 rfl ?_
    refine v_callSP2v C (fun l9 r9 h9 => k_X6_edgeOf (l := l9) h9) gX6_cut_X6_edgeOf rfl nI_X6_edgeOf ⟨rfl, rfl, Nat.le_of_ble_eq_true rfl, Nat.le_of_ble_eq_true rfl⟩ dX6_cut_16 (Nat.le_of_ble_eq_true rfl) (fun r2 => ?_)
    refine v_iadd C dX6_cut_19 ?_
    refine v_lconst C dX6_cut_20 (v := 0) (by decide) ?_
    refine v_callV2v C 0 rfl rfl rfl (fun l9 r9 h9 => k_X6_becomes (l := l9) hq hNK  h9) gX6_cut_X6_becomes rfl nI_X6_becomes ⟨rfl, rfl, Nat.le_of_ble_eq_true rfl, Nat.le_of_ble_eq_true rfl⟩ dX6_cut_21 (Nat.le_of_ble_eq_true rfl) (fun r3 => ?_)
    refine v_iconst C dX6_cut_24 (v := 1) (by decide) ?_
    refine v_icmp_ne C dX6_cut_25 (tgt := 32) (by decide) ?_ ?_
    · refine v_bipush C dX6_cut_32 (v := (-3)) (by decide) ?_
      exact v_iret (rvf := fun (res : Int32 × (Nat → Int64)) => (some (.int res.1))) (wf := fun (res : Int32 × (Nat → Int64)) => (mW q cs isK isB fed at_ ltr ab ps res.2 kp nx fa tp rs rv ct it)) C dX6_cut_34 rfl rfl
    · refine v_iconst C dX6_cut_28 (v := 1) (by decide) ?_
      refine v_goto C dX6_cut_29 (tgt := 34) (by decide) ?_
      exact v_iret (rvf := fun (res : Int32 × (Nat → Int64)) => (some (.int res.1))) (wf := fun (res : Int32 × (Nat → Int64)) => (mW q cs isK isB fed at_ ltr ab ps res.2 kp nx fa tp rs rv ct it)) C dX6_cut_34 rfl rfl
  · refine v_iconst C dX6_cut_9 (v := (-1)) (by decide) ?_
    exact v_iret (rvf := fun (res : Int32 × (Nat → Int64)) => (some (.int res.1))) (wf := fun (res : Int32 × (Nat → Int64)) => (mW q cs isK isB fed at_ ltr ab ps res.2 kp nx fa tp rs rv ct it)) C dX6_cut_10 rfl rfl

def f_X6_worth (g : Nat → Int64) (a1 : Int32) (a2 : Int32) : Option (Int64) :=
(f_X6_isTwo g a1 a2).bind (fun (r1 : Bool) =>
jn0 (some (-9223372036854775808)) (fun k2 =>
if r1 = true then (
(f_X6_edgeOf a1 a2).bind (fun (r3 : Int32) =>
ck (inb (21 + r3) 2231) (
if (g (21 + r3).toNatClampNeg : Int64) = 1 then (
(f_X6_edgeOf a1 a2).bind (fun (r4 : Int32) =>
ck (inb (102 + r4) 2231) (
some (g (102 + r4).toNatClampNeg)))) else (
k2)))) else (
k2)))

theorem nI_X6_worth : NameIn yX6_worth 2 := ⟨by decide +kernel, by decide +kernel, by decide +kernel⟩
set_option maxRecDepth 100000 in
set_option maxHeartbeats 4000000 in
theorem k_X6_worth {l : Launch} {a1 : Int32} {a2 : Int32}  {res : Int64} (hq : (mA q).Nodup) (hNK : NOK N)  (hf : f_X6_worth g a1 a2 = some res) : kMet l yX6_worth wsX6_worth { frames := 3, cells := 0, slots := 0, locals := 68 } D vwCl (mT cs) N (mA q) [.ref (q 0), .int a1, .int a2] (mW q cs isK isB fed at_ ltr ab ps g kp nx fa tp rs rv ct it) (some (.long res)) (mW q cs isK isB fed at_ ltr ab ps g kp nx fa tp rs rv ct it) := by
  have iX6 : ∀ w ∈ wsX60, w ∈ wsX6_worth := fun _ h => List.mem_cons_of_mem _ (List.mem_append_right _ h)
  refine kMet.of (cc := cX6_worth) (nL := 3) (ret := (some .long)) (own := RX6) (lv := [(0, .ref (q 0)), (1, .int a1), (2, .int a2)]) (by decide +kernel) rfl rfl hNK hq (Nat.le_of_ble_eq_true rfl) rfl (fun X C => ?_)
  refine VF.of hf ?_
  unfold f_X6_worth
  refine v_aload_n C 0 dX6_worth_0 rfl ?_
  refine v_iload_n C 1 dX6_worth_1 rfl ?_
  refine v_iload_n C 2 dX6_worth_2 rfl ?_
  refine v_callV2v C 0 rfl rfl rfl (fun l9 r9 h9 => k_X6_isTwo (l := l9) hq hNK  h9) gX6_worth_X6_isTwo rfl nI_X6_isTwo ⟨rfl, rfl, Nat.le_of_ble_eq_true rfl, Nat.le_of_ble_eq_true rfl⟩ dX6_worth_3 (Nat.le_of_ble_eq_true rfl) (fun r1 => ?_)
  refine v_jn0 (wj := ((mW q cs isK isB fed at_ ltr ab ps g kp nx fa tp rs rv ct it))) (pcj := 43) (lvj := ([])) (stj := ([])) ?_ (fun k2 hk2 => ?_)
  · refine v_ldc2 C (v := (-9223372036854775808)) (List.mem_of_getElem? (i := 2) rfl) dX6_worth_43 ?_
    exact v_lret (rvf := fun (res : Int64) => (some (.long res))) (wf := fun (res : Int64) => (mW q cs isK isB fed at_ ltr ab ps g kp nx fa tp rs rv ct it)) C dX6_worth_46 rfl rfl
  · refine v_ifb_eq C (b := r1) dX6_worth_6 (tgt := 43) (by decide) ?_ ?_
    · exact v_sub [] rfl (hk2)
    · refine v_aload_n C 0 dX6_worth_9 rfl ?_
      refine v_get C (T := TX6) (n := 16) (C9 := RX6) iX6 0 rfl rfl 0 (by decide) (List.mem_of_getElem? (i := 1) rfl) rfl rfl dX6_worth_10 ?_
      refine v_bipush C dX6_worth_13 (v := 21) (by decide) ?_
      refine v_iload_n C 1 dX6_worth_15 rfl ?_
      refine v_iload_n C 2 dX6_worth_16 rfl ?_
      refine v_callSP2v C (fun l9 r9 h9 => k_X6_edgeOf (l := l9) h9) gX6_worth_X6_edgeOf rfl nI_X6_edgeOf ⟨rfl, rfl, Nat.le_of_ble_eq_true rfl, Nat.le_of_ble_eq_true rfl⟩ dX6_worth_17 (Nat.le_of_ble_eq_true rfl) (fun r3 => ?_)
      refine v_iadd C dX6_worth_20 ?_
      refine v_lald C 1 1 rfl rfl dX6_worth_21 ?_
      refine v_lconst C dX6_worth_22 (v := 1) (by decide) ?_
      refine v_lcmp_ne C dX6_worth_23 dX6_worth_24 (tgt := 43) (by decide) ?_ ?_
      · exact v_sub [] rfl (hk2)
      · refine v_aload_n C 0 dX6_worth_27 rfl ?_
        refine v_get C (T := TX6) (n := 16) (C9 := RX6) iX6 0 rfl rfl 0 (by decide) (List.mem_of_getElem? (i := 1) rfl) rfl rfl dX6_worth_28 ?_
        refine v_bipush C dX6_worth_31 (v := 102) (by decide) ?_
        refine v_iload_n C 1 dX6_worth_33 rfl ?_
        refine v_iload_n C 2 dX6_worth_34 rfl ?_
        refine v_callSP2v C (fun l9 r9 h9 => k_X6_edgeOf (l := l9) h9) gX6_worth_X6_edgeOf rfl nI_X6_edgeOf ⟨rfl, rfl, Nat.le_of_ble_eq_true rfl, Nat.le_of_ble_eq_true rfl⟩ dX6_worth_35 (Nat.le_of_ble_eq_true rfl) (fun r4 => ?_)
        refine v_iadd C dX6_worth_38 ?_
        refine v_lald C 1 1 rfl rfl dX6_worth_39 ?_
        refine v_goto C dX6_worth_40 (tgt := 46) (by decide) ?_
        exact v_lret (rvf := fun (res : Int64) => (some (.long res))) (wf := fun (res : Int64) => (mW q cs isK isB fed at_ ltr ab ps g kp nx fa tp rs rv ct it)) C dX6_worth_46 rfl rfl

def f_X6_unionOf (g : Nat → Int64) (a1 : Int32) : Option (Int32) :=
ck (inb (12 + a1) 2231) (
some ((g (12 + a1).toNatClampNeg).toInt32))

theorem nI_X6_unionOf : NameIn yX6_unionOf 1 := ⟨by decide +kernel, by decide +kernel, by decide +kernel⟩
set_option maxRecDepth 100000 in
set_option maxHeartbeats 4000000 in
theorem k_X6_unionOf {l : Launch} {a1 : Int32}  {res : Int32} (hq : (mA q).Nodup) (hNK : NOK N)  (hf : f_X6_unionOf g a1 = some res) : kMet l yX6_unionOf wsX6_unionOf { frames := 0, cells := 0, slots := 0, locals := 0 } D vwCl (mT cs) N (mA q) [.ref (q 0), .int a1] (mW q cs isK isB fed at_ ltr ab ps g kp nx fa tp rs rv ct it) (some (.int res)) (mW q cs isK isB fed at_ ltr ab ps g kp nx fa tp rs rv ct it) := by
  have iX6 : ∀ w ∈ wsX60, w ∈ wsX6_unionOf := fun _ h => List.mem_cons_of_mem _ (List.mem_append_right _ h)
  refine kMet.of (cc := cX6_unionOf) (nL := 2) (ret := (some .int)) (own := RX6) (lv := [(0, .ref (q 0)), (1, .int a1)]) (by decide +kernel) rfl rfl hNK hq (Nat.le_of_ble_eq_true rfl) rfl (fun X C => ?_)
  refine VF.of hf ?_
  unfold f_X6_unionOf
  refine v_aload_n C 0 dX6_unionOf_0 rfl ?_
  refine v_get C (T := TX6) (n := 16) (C9 := RX6) iX6 0 rfl rfl 0 (by decide) (List.mem_of_getElem? (i := 1) rfl) rfl rfl dX6_unionOf_1 ?_
  refine v_bipush C dX6_unionOf_4 (v := 12) (by decide) ?_
  refine v_iload_n C 1 dX6_unionOf_6 rfl ?_
  refine v_iadd C dX6_unionOf_7 ?_
  refine v_lald C 1 1 rfl rfl dX6_unionOf_8 ?_
  refine v_l2i C dX6_unionOf_9 ?_
  exact v_iret (rvf := fun (res : Int32) => (some (.int res))) (wf := fun (res : Int32) => (mW q cs isK isB fed at_ ltr ab ps g kp nx fa tp rs rv ct it)) C dX6_unionOf_10 rfl rfl

def B_X6_names_1 (g : Nat → Int64) (a1 : Int32) (rec3 : Int32 → Int32 → Option ((Nat → Int64))) (kx4 : Int32 → Option ((Nat → Int64))) (v5 : Int32) (v6 : Int32) : Option ((Nat → Int64)) :=
if (v6 : Int32) < 0 then (
kx4 v5) else (
(f_X6_unionOf g v6).bind (fun (r7 : Int32) =>
jn1 (fun (v9 : Int32) =>
nm (v6 + (-1)) (fun (x10 : Int32) =>
rec3 v9 x10)) (fun k8 =>
if (r7 : Int32) = a1 then (
k8 v6) else (
k8 v5))))
def L_X6_names_1 (g : Nat → Int64) (a1 : Int32) (kx4 : Int32 → Option ((Nat → Int64))) : Nat → Int32 → Int32 → Option ((Nat → Int64))
  | 0, _, _ => none
  | m9 + 1, v5, v6 => B_X6_names_1 g a1 (L_X6_names_1 g a1 kx4 m9) kx4 v5 v6

def B_X6_names_2 (a1 : Int32) (v11 : Int32) (rec12 : Int32 → (Nat → Int64) → Option ((Nat → Int64)))  (v13 : Int32) (g14 : Nat → Int64) : Option ((Nat → Int64)) :=
(f_X6_n g14).bind (fun (r15 : Int32) =>
if (v13 : Int32) < r15 then (
(f_X6_unionOf g14 v13).bind (fun (r16 : Int32) =>
jn1 (fun (g18 : Nat → Int64) =>
nm (v13 + 1) (fun (x19 : Int32) =>
rec12 x19 g18)) (fun k17 =>
if (r16 : Int32) = a1 then (
ck (inb (12 + v13) 2231) (
nm (vp_updL g14 (12 + v13).toNatClampNeg v11.toInt64) (fun (g20 : Nat → Int64) =>
k17 g20))) else (
k17 g14)))) else (
some g14))
def L_X6_names_2 (a1 : Int32) (v11 : Int32)  : Nat → Int32 → (Nat → Int64) → Option ((Nat → Int64))
  | 0, _, _ => none
  | m9 + 1, v13, g14 => B_X6_names_2 a1 v11 (L_X6_names_2 a1 v11 m9)  v13 g14

def f_X6_names (g : Nat → Int64) (a1 : Int32) : Option ((Nat → Int64)) :=
(f_X6_n g).bind (fun (r1 : Int32) =>
nm (r1 - 1) (fun (x2 : Int32) =>
L_X6_names_1 g a1 (fun (v11 : Int32) =>
L_X6_names_2 a1 v11  FU 0 g) FU (-1) x2))

theorem nI_X6_names : NameIn yX6_names 1 := ⟨by decide +kernel, by decide +kernel, by decide +kernel⟩
set_option maxRecDepth 100000 in
set_option maxHeartbeats 4000000 in
theorem lp_X6_names_1 {X : CX} {res : (Nat → Int64)} {a1 : Int32}   (hq : (mA q).Nodup) (hNK : NOK N) (C : Ok X cX6_names 4 none wsX6_names RX6 { frames := 1, cells := 0, slots := 0, locals := 21 } D vwCl (mT cs) (mA q) N none (mW q cs isK isB fed at_ ltr ab ps res kp nx fa tp rs rv ct it))  (kx4 : Int32 → Option ((Nat → Int64))) (Jkx4 : ∀ y2 : Int32, VF X res (kx4 y2) (mW q cs isK isB fed at_ ltr ab ps g kp nx fa tp rs rv ct it) 30 [(0, .ref (q 0)), (1, .int a1), (2, .int y2)] []) : ∀ fuel : Nat, ∀ v5 : Int32, ∀ v6 : Int32, VF X res (L_X6_names_1 g a1 kx4 fuel v5 v6) (mW q cs isK isB fed at_ ltr ab ps g kp nx fa tp rs rv ct it) 9 [(0, .ref (q 0)), (1, .int a1), (2, .int v5), (3, .int v6)] [] := by
  intro fuel
  induction fuel with
  | zero =>
    intro _ _
    exact v_none
  | succ fuel ih =>
    intro v5 v6
    show VF X res (B_X6_names_1 g a1 (L_X6_names_1 g a1 kx4 fuel) kx4 v5 v6) _ _ _ _
    unfold B_X6_names_1
    refine v_iload_n C 3 dX6_names_9 rfl ?_
    refine v_if_lt C dX6_names_10 (tgt := 30) (by decide) ?_ ?_
    · exact v_sub [0, 1, 2] rfl (Jkx4 v5)
    · refine v_aload_n C 0 dX6_names_13 rfl ?_
      refine v_iload_n C 3 dX6_names_14 rfl ?_
      refine v_callV1v C 0 rfl rfl rfl (fun l9 r9 h9 => k_X6_unionOf (l := l9) hq hNK  h9) gX6_names_X6_unionOf rfl nI_X6_unionOf ⟨rfl, rfl, Nat.le_of_ble_eq_true rfl, Nat.le_of_ble_eq_true rfl⟩ dX6_names_15 (Nat.le_of_ble_eq_true rfl) (fun r7 => ?_)
      refine v_iload_n C 1 dX6_names_18 rfl ?_
      refine v_jn1 (wj := (fun v9 => (mW q cs isK isB fed at_ ltr ab ps g kp nx fa tp rs rv ct it))) (pcj := 24) (lvj := (fun v9 => [(0, .ref (q 0)), (1, .int a1), (2, .int v9), (3, .int v6)])) (stj := (fun v9 => [])) (fun v9 => ?_) (fun k8 hk8 => ?_)
      · refine v_iinc_nm C (lvf := fun x10 => [(3, .int x10), (0, .ref (q 0)), (1, .int a1), (2, .int v9)]) 3 dX6_names_24 rfl rfl (by decide) (fun _ => rfl) (fun x10 => ?_)
        refine v_goto C dX6_names_27 (tgt := 9) (by decide) ?_
        exact v_sub [1, 2, 3, 0] rfl (ih v9 x10)
      · refine v_icmp_ne C dX6_names_19 (tgt := 24) (by decide) ?_ ?_
        · exact v_sub [0, 1, 2, 3] rfl (hk8 v5)
        · refine v_iload_n C 3 dX6_names_22 rfl ?_
          refine v_istore_n C (lv' := [(2, .int v6), (0, .ref (q 0)), (1, .int a1), (3, .int v6)]) dX6_names_23 rfl (by decide) rfl ?_
          exact v_sub [1, 2, 0, 3] rfl (hk8 v6)

set_option maxRecDepth 100000 in
set_option maxHeartbeats 4000000 in
theorem lp_X6_names_2 {X : CX} {res : (Nat → Int64)} {a1 : Int32}  {v11 : Int32} (hq : (mA q).Nodup) (hNK : NOK N) (C : Ok X cX6_names 4 none wsX6_names RX6 { frames := 1, cells := 0, slots := 0, locals := 21 } D vwCl (mT cs) (mA q) N none (mW q cs isK isB fed at_ ltr ab ps res kp nx fa tp rs rv ct it))  : ∀ fuel : Nat, ∀ v13 : Int32, ∀ g14 : Nat → Int64, VF X res (L_X6_names_2 a1 v11 fuel v13 g14) (mW q cs isK isB fed at_ ltr ab ps g14 kp nx fa tp rs rv ct it) 32 [(0, .ref (q 0)), (1, .int a1), (2, .int v11), (3, .int v13)] [] := by
  have iX6 : ∀ w ∈ wsX60, w ∈ wsX6_names := fun _ h => List.mem_cons_of_mem _ (List.mem_append_right _ h)
  intro fuel
  induction fuel with
  | zero =>
    intro _ _
    exact v_none
  | succ fuel ih =>
    intro v13 g14
    show VF X res (B_X6_names_2 a1 v11 (L_X6_names_2 a1 v11 fuel)  v13 g14) _ _ _ _
    unfold B_X6_names_2
    refine v_iload_n C 3 dX6_names_32 rfl ?_
    refine v_aload_n C 0 dX6_names_33 rfl ?_
    refine v_callV0v C 0 rfl rfl rfl (fun l9 r9 h9 => k_X6_n (l := l9) hq hNK  h9) gX6_names_X6_n rfl nI_X6_n ⟨rfl, rfl, Nat.le_of_ble_eq_true rfl, Nat.le_of_ble_eq_true rfl⟩ dX6_names_34 (Nat.le_of_ble_eq_true rfl) (fun r15 => ?_)
    refine v_icmp_ge C dX6_names_37 (tgt := 66) (by decide) ?_ ?_
    · exact v_vret (rvf := fun (res : (Nat → Int64)) => none) (wf := fun (res : (Nat → Int64)) => (mW q cs isK isB fed at_ ltr ab ps res kp nx fa tp rs rv ct it)) C dX6_names_66 rfl rfl
    · refine v_aload_n C 0 dX6_names_40 rfl ?_
      refine v_iload_n C 3 dX6_names_41 rfl ?_
      refine v_callV1v C 0 rfl rfl rfl (fun l9 r9 h9 => k_X6_unionOf (l := l9) hq hNK  h9) gX6_names_X6_unionOf rfl nI_X6_unionOf ⟨rfl, rfl, Nat.le_of_ble_eq_true rfl, Nat.le_of_ble_eq_true rfl⟩ dX6_names_42 (Nat.le_of_ble_eq_true rfl) (fun r16 => ?_)
      refine v_iload_n C 1 dX6_names_45 rfl ?_
      refine v_jn1 (wj := (fun g18 => (mW q cs isK isB fed at_ ltr ab ps g18 kp nx fa tp rs rv ct it))) (pcj := 60) (lvj := (fun g18 => [(0, .ref (q 0)), (1, .int a1), (2, .int v11), (3, .int v13)])) (stj := (fun g18 => [])) (fun g18 => ?_) (fun k17 hk17 => ?_)
      · refine v_iinc_nm C (lvf := fun x19 => [(3, .int x19), (0, .ref (q 0)), (1, .int a1), (2, .int v11)]) 3 dX6_names_60 rfl rfl (by decide) (fun _ => rfl) (fun x19 => ?_)
        refine v_goto C dX6_names_63 (tgt := 32) (by decide) ?_
        exact v_sub [1, 2, 3, 0] rfl (ih x19 g18)
      · refine v_icmp_ne C dX6_names_46 (tgt := 60) (by decide) ?_ ?_
        · exact v_sub [0, 1, 2, 3] rfl (hk17 g14)
        · refine v_aload_n C 0 dX6_names_49 rfl ?_
          refine v_get C (T := TX6) (n := 16) (C9 := RX6) iX6 0 rfl rfl 0 (by decide) (List.mem_of_getElem? (i := 1) rfl) rfl rfl dX6_names_50 ?_
          refine v_bipush C dX6_names_53 (v := 12) (by decide) ?_
          refine v_iload_n C 3 dX6_names_55 rfl ?_
          refine v_iadd C dX6_names_56 ?_
          refine v_iload_n C 2 dX6_names_57 rfl ?_
          refine v_i2l C dX6_names_58 ?_
          refine v_last_nm C (fun g20 => (mW q cs isK isB fed at_ ltr ab ps g20 kp nx fa tp rs rv ct it)) 1 1 rfl rfl rfl (fun _ => rfl) dX6_names_59 (fun g20 => ?_)
          exact v_sub [0, 1, 2, 3] rfl (hk17 g20)

set_option maxRecDepth 100000 in
set_option maxHeartbeats 4000000 in
theorem k_X6_names {l : Launch} {a1 : Int32}  {res : (Nat → Int64)} (hq : (mA q).Nodup) (hNK : NOK N)  (hf : f_X6_names g a1 = some res) : kMet l yX6_names wsX6_names { frames := 1, cells := 0, slots := 0, locals := 21 } D vwCl (mT cs) N (mA q) [.ref (q 0), .int a1] (mW q cs isK isB fed at_ ltr ab ps g kp nx fa tp rs rv ct it) none (mW q cs isK isB fed at_ ltr ab ps res kp nx fa tp rs rv ct it) := by
  refine kMet.of (cc := cX6_names) (nL := 4) (ret := none) (own := RX6) (lv := [(0, .ref (q 0)), (1, .int a1)]) (by decide +kernel) rfl rfl hNK hq (Nat.le_of_ble_eq_true rfl) rfl (fun X C => ?_)
  refine VF.of hf ?_
  unfold f_X6_names
  refine v_iconst C dX6_names_0 (v := (-1)) (by decide) ?_
  refine v_istore_n C (lv' := [(2, .int (-1)), (0, .ref (q 0)), (1, .int a1)]) dX6_names_1 rfl (by decide) rfl ?_
  refine v_aload_n C 1 dX6_names_2 rfl ?_
  refine v_callV0v C 0 rfl rfl rfl (fun l9 r9 h9 => k_X6_n (l := l9) hq hNK  h9) gX6_names_X6_n rfl nI_X6_n ⟨rfl, rfl, Nat.le_of_ble_eq_true rfl, Nat.le_of_ble_eq_true rfl⟩ dX6_names_3 (Nat.le_of_ble_eq_true rfl) (fun r1 => ?_)
  refine v_iconst C dX6_names_6 (v := 1) (by decide) ?_
  refine v_isub C dX6_names_7 ?_
  refine v_istore_n_nm C (lvf := fun x2 => [(3, .int x2), (2, .int (-1)), (0, .ref (q 0)), (1, .int a1)]) dX6_names_8 rfl (by decide) (fun _ => rfl) (fun x2 => ?_)
  refine v_sub [2, 3, 1, 0] rfl (lp_X6_names_1 hq hNK C  _ (fun v11 => ?_) FU (-1) x2)
  refine v_iconst C dX6_names_30 (v := 0) (by decide) ?_
  refine v_istore_n C (lv' := [(3, .int 0), (0, .ref (q 0)), (1, .int a1), (2, .int v11)]) dX6_names_31 rfl (by decide) rfl ?_
  refine v_sub [1, 2, 3, 0] rfl (lp_X6_names_2 hq hNK C   FU 0 g)

def f_X6_unite (g : Nat → Int64) (a1 : Int32) (a2 : Int32) : Option (Int32 × (Nat → Int64)) :=
(f_X6_isPartner g a1).bind (fun (r1 : Bool) =>
if r1 = true then (
(f_X6_isPartner g a2).bind (fun (r2 : Bool) =>
if r2 = true then (
(f_X6_unionOf g a1).bind (fun (r3 : Int32) =>
jn1 (fun (v5 : Int32) =>
ck (inb (12 + a1) 2231) (
nm (vp_updL g (12 + a1).toNatClampNeg v5.toInt64) (fun (g6 : Nat → Int64) =>
(f_X6_names g6 r3).bind (fun (r7 : (Nat → Int64)) =>
(f_X6_names r7 v5).bind (fun (r8 : (Nat → Int64)) =>
(f_X6_unionOf r8 a1).bind (fun (r9 : Int32) =>
some (r9, r8))))))) (fun k4 =>
if (a1 : Int32) = a2 then (
k4 9) else (
(f_X6_unionOf g a2).bind (fun (r10 : Int32) =>
k4 r10))))) else (
some ((-1), g)))) else (
some ((-1), g)))

theorem nI_X6_unite : NameIn yX6_unite 2 := ⟨by decide +kernel, by decide +kernel, by decide +kernel⟩
set_option maxRecDepth 100000 in
set_option maxHeartbeats 4000000 in
theorem k_X6_unite {l : Launch} {a1 : Int32} {a2 : Int32}  {res : Int32 × (Nat → Int64)} (hq : (mA q).Nodup) (hNK : NOK N)  (hf : f_X6_unite g a1 a2 = some res) : kMet l yX6_unite wsX6_unite { frames := 2, cells := 0, slots := 0, locals := 46 } D vwCl (mT cs) N (mA q) [.ref (q 0), .int a1, .int a2] (mW q cs isK isB fed at_ ltr ab ps g kp nx fa tp rs rv ct it) (some (.int res.1)) (mW q cs isK isB fed at_ ltr ab ps res.2 kp nx fa tp rs rv ct it) := by
  have iX6 : ∀ w ∈ wsX60, w ∈ wsX6_unite := fun _ h => List.mem_cons_of_mem _ (List.mem_append_right _ h)
  refine kMet.of (cc := cX6_unite) (nL := 5) (ret := (some .int)) (own := RX6) (lv := [(0, .ref (q 0)), (1, .int a1), (2, .int a2)]) (by decide +kernel) rfl rfl hNK hq (Nat.le_of_ble_eq_true rfl) rfl (fun X C => ?_)
  refine VF.of hf ?_
  unfold f_X6_unite
  refine v_aload_n C 0 dX6_unite_0 rfl ?_
  refine v_iload_n C 1 dX6_unite_1 rfl ?_
  refine v_callV1v C 0 rfl rfl rfl (fun l9 r9 h9 => k_X6_isPartner (l := l9) hq hNK  h9) gX6_unite_X6_isPartner rfl nI_X6_isPartner ⟨rfl, rfl, Nat.le_of_ble_eq_true rfl, Nat.le_of_ble_eq_true rfl⟩ dX6_unite_2 (Nat.le_of_ble_eq_true rfl) (fun r1 => ?_)
  refine v_ifb_eq C (b := r1) dX6_unite_5 (tgt := 16) (by decide) ?_ ?_
  · refine v_iconst C dX6_unite_16 (v := (-1)) (by decide) ?_
    exact v_iret (rvf := fun (res : Int32 × (Nat → Int64)) => (some (.int res.1))) (wf := fun (res : Int32 × (Nat → Int64)) => (mW q cs isK isB fed at_ ltr ab ps res.2 kp nx fa tp rs rv ct it)) C dX6_unite_17 rfl rfl
  · refine v_aload_n C 0 dX6_unite_8 rfl ?_
    refine v_iload_n C 2 dX6_unite_9 rfl ?_
    refine v_callV1v C 0 rfl rfl rfl (fun l9 r9 h9 => k_X6_isPartner (l := l9) hq hNK  h9) gX6_unite_X6_isPartner rfl nI_X6_isPartner ⟨rfl, rfl, Nat.le_of_ble_eq_true rfl, Nat.le_of_ble_eq_true rfl⟩ dX6_unite_10 (Nat.le_of_ble_eq_true rfl) (fun r2 => ?_)
    refine v_ifb_ne C (b := r2) dX6_unite_13 (tgt := 18) (by decide) ?_ ?_
    · refine v_aload_n C 0 dX6_unite_18 rfl ?_
      refine v_iload_n C 1 dX6_unite_19 rfl ?_
      refine v_callV1v C 0 rfl rfl rfl (fun l9 r9 h9 => k_X6_unionOf (l := l9) hq hNK  h9) gX6_unite_X6_unionOf rfl nI_X6_unionOf ⟨rfl, rfl, Nat.le_of_ble_eq_true rfl, Nat.le_of_ble_eq_true rfl⟩ dX6_unite_20 (Nat.le_of_ble_eq_true rfl) (fun r3 => ?_)
      refine v_istore_n C (lv' := [(3, .int r3), (0, .ref (q 0)), (1, .int a1), (2, .int a2)]) dX6_unite_23 rfl (by decide) rfl ?_
      refine v_iload_n C 2 dX6_unite_24 rfl ?_
      refine v_iload_n C 3 dX6_unite_25 rfl ?_
      refine v_jn1 (wj := (fun v5 => (mW q cs isK isB fed at_ ltr ab ps g kp nx fa tp rs rv ct it))) (pcj := 39) (lvj := (fun v5 => [(0, .ref (q 0)), (1, .int a1), (3, .int r3)])) (stj := (fun v5 => [.int v5])) (fun v5 => ?_) (fun k4 hk4 => ?_)
      · refine v_istore C (lv' := [(4, .int v5), (0, .ref (q 0)), (1, .int a1), (3, .int r3)]) dX6_unite_39 (by decide) rfl ?_
        refine v_aload_n C 1 dX6_unite_41 rfl ?_
        refine v_get C (T := TX6) (n := 16) (C9 := RX6) iX6 0 rfl rfl 0 (by decide) (List.mem_of_getElem? (i := 1) rfl) rfl rfl dX6_unite_42 ?_
        refine v_bipush C dX6_unite_45 (v := 12) (by decide) ?_
        refine v_iload_n C 2 dX6_unite_47 rfl ?_
        refine v_iadd C dX6_unite_48 ?_
        refine v_iload C 0 dX6_unite_49 rfl ?_
        refine v_i2l C dX6_unite_51 ?_
        refine v_last_nm C (fun g6 => (mW q cs isK isB fed at_ ltr ab ps g6 kp nx fa tp rs rv ct it)) 1 1 rfl rfl rfl (fun _ => rfl) dX6_unite_52 (fun g6 => ?_)
        refine v_aload_n C 1 dX6_unite_53 rfl ?_
        refine v_iload_n C 3 dX6_unite_54 rfl ?_
        refine v_callV1n C 0 rfl rfl rfl (fun l9 r9 h9 => k_X6_names (l := l9) hq hNK  h9) gX6_unite_X6_names rfl nI_X6_names ⟨rfl, rfl, Nat.le_of_ble_eq_true rfl, Nat.le_of_ble_eq_true rfl⟩ dX6_unite_55 (Nat.le_of_ble_eq_true rfl) (fun r7 => ?_)
        refine v_aload_n C 1 dX6_unite_58 rfl ?_
        refine v_iload C 0 dX6_unite_59 rfl ?_
        refine v_callV1n C 0 rfl rfl rfl (fun l9 r9 h9 => k_X6_names (l := l9) hq hNK  h9) gX6_unite_X6_names rfl nI_X6_names ⟨rfl, rfl, Nat.le_of_ble_eq_true rfl, Nat.le_of_ble_eq_true rfl⟩ dX6_unite_61 (Nat.le_of_ble_eq_true rfl) (fun r8 => ?_)
        refine v_aload_n C 1 dX6_unite_64 rfl ?_
        refine v_iload_n C 2 dX6_unite_65 rfl ?_
        refine v_callV1v C 0 rfl rfl rfl (fun l9 r9 h9 => k_X6_unionOf (l := l9) hq hNK  h9) gX6_unite_X6_unionOf rfl nI_X6_unionOf ⟨rfl, rfl, Nat.le_of_ble_eq_true rfl, Nat.le_of_ble_eq_true rfl⟩ dX6_unite_66 (Nat.le_of_ble_eq_true rfl) (fun r9 => ?_)
        exact v_iret (rvf := fun (res : Int32 × (Nat → Int64)) => (some (.int res.1))) (wf := fun (res : Int32 × (Nat → Int64)) => (mW q cs isK isB fed at_ ltr ab ps res.2 kp nx fa tp rs rv ct it)) C dX6_unite_69 rfl rfl
      · refine v_icmp_ne C dX6_unite_26 (tgt := 34) (by decide) ?_ ?_
        · refine v_aload_n C 1 dX6_unite_34 rfl ?_
          refine v_iload_n C 3 dX6_unite_35 rfl ?_
          refine v_callV1v C 0 rfl rfl rfl (fun l9 r9 h9 => k_X6_unionOf (l := l9) hq hNK  h9) gX6_unite_X6_unionOf rfl nI_X6_unionOf ⟨rfl, rfl, Nat.le_of_ble_eq_true rfl, Nat.le_of_ble_eq_true rfl⟩ dX6_unite_36 (Nat.le_of_ble_eq_true rfl) (fun r10 => ?_)
          exact v_sub [1, 2, 0] rfl (hk4 r10)
        · refine v_bipush C dX6_unite_29 (v := 9) (by decide) ?_
          refine v_goto C dX6_unite_31 (tgt := 39) (by decide) ?_
          exact v_sub [1, 2, 0] rfl (hk4 9)
    · refine v_iconst C dX6_unite_16 (v := (-1)) (by decide) ?_
      exact v_iret (rvf := fun (res : Int32 × (Nat → Int64)) => (some (.int res.1))) (wf := fun (res : Int32 × (Nat → Int64)) => (mW q cs isK isB fed at_ ltr ab ps res.2 kp nx fa tp rs rv ct it)) C dX6_unite_17 rfl rfl

def f_X6_union (g : Nat → Int64) (a1 : Int32) : Option (Int32) :=
(f_X6_isPartner g a1).bind (fun (r1 : Bool) =>
if r1 = true then (
(f_X6_unionOf g a1).bind (fun (r2 : Int32) =>
some r2)) else (
some (-1)))

theorem nI_X6_union : NameIn yX6_union 1 := ⟨by decide +kernel, by decide +kernel, by decide +kernel⟩
set_option maxRecDepth 100000 in
set_option maxHeartbeats 4000000 in
theorem k_X6_union {l : Launch} {a1 : Int32}  {res : Int32} (hq : (mA q).Nodup) (hNK : NOK N)  (hf : f_X6_union g a1 = some res) : kMet l yX6_union wsX6_union { frames := 2, cells := 0, slots := 0, locals := 46 } D vwCl (mT cs) N (mA q) [.ref (q 0), .int a1] (mW q cs isK isB fed at_ ltr ab ps g kp nx fa tp rs rv ct it) (some (.int res)) (mW q cs isK isB fed at_ ltr ab ps g kp nx fa tp rs rv ct it) := by
  refine kMet.of (cc := cX6_union) (nL := 2) (ret := (some .int)) (own := RX6) (lv := [(0, .ref (q 0)), (1, .int a1)]) (by decide +kernel) rfl rfl hNK hq (Nat.le_of_ble_eq_true rfl) rfl (fun X C => ?_)
  refine VF.of hf ?_
  unfold f_X6_union
  refine v_aload_n C 0 dX6_union_0 rfl ?_
  refine v_iload_n C 1 dX6_union_1 rfl ?_
  refine v_callV1v C 0 rfl rfl rfl (fun l9 r9 h9 => k_X6_isPartner (l := l9) hq hNK  h9) gX6_union_X6_isPartner rfl nI_X6_isPartner ⟨rfl, rfl, Nat.le_of_ble_eq_true rfl, Nat.le_of_ble_eq_true rfl⟩ dX6_union_2 (Nat.le_of_ble_eq_true rfl) (fun r1 => ?_)
  refine v_ifb_eq C (b := r1) dX6_union_5 (tgt := 16) (by decide) ?_ ?_
  · refine v_iconst C dX6_union_16 (v := (-1)) (by decide) ?_
    exact v_iret (rvf := fun (res : Int32) => (some (.int res))) (wf := fun (res : Int32) => (mW q cs isK isB fed at_ ltr ab ps g kp nx fa tp rs rv ct it)) C dX6_union_17 rfl rfl
  · refine v_aload_n C 0 dX6_union_8 rfl ?_
    refine v_iload_n C 1 dX6_union_9 rfl ?_
    refine v_callV1v C 0 rfl rfl rfl (fun l9 r9 h9 => k_X6_unionOf (l := l9) hq hNK  h9) gX6_union_X6_unionOf rfl nI_X6_unionOf ⟨rfl, rfl, Nat.le_of_ble_eq_true rfl, Nat.le_of_ble_eq_true rfl⟩ dX6_union_10 (Nat.le_of_ble_eq_true rfl) (fun r2 => ?_)
    refine v_goto C dX6_union_13 (tgt := 17) (by decide) ?_
    exact v_iret (rvf := fun (res : Int32) => (some (.int res))) (wf := fun (res : Int32) => (mW q cs isK isB fed at_ ltr ab ps g kp nx fa tp rs rv ct it)) C dX6_union_17 rfl rfl

end WK
