section WK
variable {q : Nat → Nat} {cs : Nat → ClassId} {D : va_G} {N : (Nat → Prop) → State → Prop} {isK : Bool} {isB : Bool} {fed : Int32} {at_ : Int32} {ltr : Int32} {ab : Int64} {ps : Nat} {g : Nat → Int64} {kp : Nat → Int64} {nx : Nat → Int64} {fa : Nat → Int64} {tp : Nat → Int32} {rs : Nat → Int32} {rv : Nat → Int64} {ct : Nat → Int32} {it : Nat → Int64}
def B_X6_pairs_1 (a1 : Int32) (a2 : Int32) (a3 : Int32) (rec4 : Int32 → (Nat → Int64) → Option (Int32 × (Nat → Int64)))  (v5 : Int32) (g6 : Nat → Int64) : Option (Int32 × (Nat → Int64)) :=
(f_X6_all g6).bind (fun (r7 : Int32) =>
if (r7 : Int32) < v5 then (
(f_X6_others g6 a1).bind (fun (r8 : Int32) =>
some (r8, g6))) else (
(f_X6_size (v5 &&& a2)).bind (fun (r9 : Int32) =>
(f_X6_size (v5 &&& a3)).bind (fun (r10 : Int32) =>
ck (inb ((183 + (512 * a1)) + v5) 2231) (
nm (vp_updL g6 ((183 + (512 * a1)) + v5).toNatClampNeg ((iMin r9 r10).toInt64)) (fun (g11 : Nat → Int64) =>
nm (v5 + 1) (fun (x12 : Int32) =>
rec4 x12 g11)))))))
def L_X6_pairs_1 (a1 : Int32) (a2 : Int32) (a3 : Int32)  : Nat → Int32 → (Nat → Int64) → Option (Int32 × (Nat → Int64))
  | 0, _, _ => none
  | m9 + 1, v5, g6 => B_X6_pairs_1 a1 a2 a3 (L_X6_pairs_1 a1 a2 a3 m9)  v5 g6

def f_X6_pairs (g : Nat → Int64) (a1 : Int32) (a2 : Int32) (a3 : Int32) : Option (Int32 × (Nat → Int64)) :=
(f_X6_isGame a1).bind (fun (r1 : Bool) =>
if r1 = true then (
(f_X6_isSet g a2).bind (fun (r2 : Bool) =>
if r2 = true then (
(f_X6_isSet g a3).bind (fun (r3 : Bool) =>
if r3 = true then (
L_X6_pairs_1 a1 a2 a3  FU 0 g) else (
some ((-2), g)))) else (
some ((-2), g)))) else (
some ((-1), g)))

theorem nI_X6_pairs : NameIn yX6_pairs 3 := ⟨by decide +kernel, by decide +kernel, by decide +kernel⟩
set_option maxRecDepth 100000 in
set_option maxHeartbeats 4000000 in
theorem lp_X6_pairs_1 {X : CX} {res : Int32 × (Nat → Int64)} {a1 : Int32} {a2 : Int32} {a3 : Int32}   (hq : (mA q).Nodup) (hNK : NOK N) (C : Ok X cX6_pairs 5 (some .int) wsX6_pairs RX6 { frames := 3, cells := 0, slots := 0, locals := 63 } D vwCl (mT cs) (mA q) N (some (.int res.1)) (mW q cs isK isB fed at_ ltr ab ps res.2 kp nx fa tp rs rv ct it))  : ∀ fuel : Nat, ∀ v5 : Int32, ∀ g6 : Nat → Int64, VF X res (L_X6_pairs_1 a1 a2 a3 fuel v5 g6) (mW q cs isK isB fed at_ ltr ab ps g6 kp nx fa tp rs rv ct it) 31 [(0, .ref (q 0)), (1, .int a1), (2, .int a2), (3, .int a3), (4, .int v5)] [] := by
  have iX6 : ∀ w ∈ wsX60, w ∈ wsX6_pairs := fun _ h => List.mem_cons_of_mem _ (List.mem_append_right _ h)
  intro fuel
  induction fuel with
  | zero =>
    intro _ _
    exact v_none
  | succ fuel ih =>
    intro v5 g6
    show VF X res (B_X6_pairs_1 a1 a2 a3 (L_X6_pairs_1 a1 a2 a3 fuel)  v5 g6) _ _ _ _
    unfold B_X6_pairs_1
    refine v_iload C 4 dX6_pairs_31 rfl ?_
    refine v_aload_n C 0 dX6_pairs_33 rfl ?_
    refine v_callV0v C 0 rfl rfl rfl (fun l9 r9 h9 => k_X6_all (l := l9) hq hNK  h9) gX6_pairs_X6_all rfl nI_X6_all ⟨rfl, rfl, Nat.le_of_ble_eq_true rfl, Nat.le_of_ble_eq_true rfl⟩ dX6_pairs_34 (Nat.le_of_ble_eq_true rfl) (fun r7 => ?_)
    refine v_icmp_gt C dX6_pairs_37 (tgt := 81) (by decide) ?_ ?_
    · refine v_aload_n C 0 dX6_pairs_81 rfl ?_
      refine v_iload_n C 1 dX6_pairs_82 rfl ?_
      refine v_callV1v C 0 rfl rfl rfl (fun l9 r9 h9 => k_X6_others (l := l9) hq hNK  h9) gX6_pairs_X6_others rfl nI_X6_others ⟨rfl, rfl, Nat.le_of_ble_eq_true rfl, Nat.le_of_ble_eq_true rfl⟩ dX6_pairs_83 (Nat.le_of_ble_eq_true rfl) (fun r8 => ?_)
      exact v_iret (rvf := fun (res : Int32 × (Nat → Int64)) => (some (.int res.1))) (wf := fun (res : Int32 × (Nat → Int64)) => (mW q cs isK isB fed at_ ltr ab ps res.2 kp nx fa tp rs rv ct it)) C dX6_pairs_86 rfl rfl
    · refine v_aload_n C 0 dX6_pairs_40 rfl ?_
      refine v_get C (T := TX6) (n := 16) (C9 := RX6) iX6 0 rfl rfl 0 (by decide) (List.mem_of_getElem? (i := 1) rfl) rfl rfl dX6_pairs_41 ?_
      refine v_sipush C dX6_pairs_44 (v := 183) (by decide) ?_
      refine v_sipush C dX6_pairs_47 (v := 512) (by decide) ?_
      refine v_iload_n C 1 dX6_pairs_50 rfl ?_
      refine v_imul C dX6_pairs_51 ?_
      refine v_iadd C dX6_pairs_52 ?_
      refine v_iload C 4 dX6_pairs_53 rfl ?_
      refine v_iadd C dX6_pairs_55 ?_
      refine v_iload C 4 dX6_pairs_56 rfl ?_
      refine v_iload_n C 2 dX6_pairs_58 rfl ?_
      refine v_iand C dX6_pairs_59 ?_
      refine v_callSP1v C (fun l9 r9 h9 => k_X6_size (l := l9) h9) gX6_pairs_X6_size rfl nI_X6_size ⟨rfl, rfl, Nat.le_of_ble_eq_true rfl, Nat.le_of_ble_eq_true rfl⟩ dX6_pairs_60 (Nat.le_of_ble_eq_true rfl) (fun r9 => ?_)
      refine v_iload C 4 dX6_pairs_63 rfl ?_
      refine v_iload_n C 3 dX6_pairs_65 rfl ?_
      refine v_iand C dX6_pairs_66 ?_
      refine v_callSP1v C (fun l9 r9 h9 => k_X6_size (l := l9) h9) gX6_pairs_X6_size rfl nI_X6_size ⟨rfl, rfl, Nat.le_of_ble_eq_true rfl, Nat.le_of_ble_eq_true rfl⟩ dX6_pairs_67 (Nat.le_of_ble_eq_true rfl) (fun r10 => ?_)
      refine v_mmin C (List.mem_of_getElem? (i := 2) rfl) (List.mem_of_getElem? (i := 3) rfl) (List.mem_of_getElem? (i := 4) rfl) (List.mem_of_getElem? (i := 5) rfl) (Nat.le_of_ble_eq_true rfl) (Nat.le_of_ble_eq_true rfl) dX6_pairs_70 ?_
      refine v_i2l C dX6_pairs_73 ?_
      refine v_last_nm C (fun g11 => (mW q cs isK isB fed at_ ltr ab ps g11 kp nx fa tp rs rv ct it)) 1 1 rfl rfl rfl (fun _ => rfl) dX6_pairs_74 (fun g11 => ?_)
      refine v_iinc_nm C (lvf := fun x12 => [(4, .int x12), (0, .ref (q 0)), (1, .int a1), (2, .int a2), (3, .int a3)]) 4 dX6_pairs_75 rfl rfl (by decide) (fun _ => rfl) (fun x12 => ?_)
      refine v_goto C dX6_pairs_78 (tgt := 31) (by decide) ?_
      exact v_sub [1, 2, 3, 4, 0] rfl (ih x12 g11)

set_option maxRecDepth 100000 in
set_option maxHeartbeats 4000000 in
theorem k_X6_pairs {l : Launch} {a1 : Int32} {a2 : Int32} {a3 : Int32}  {res : Int32 × (Nat → Int64)} (hq : (mA q).Nodup) (hNK : NOK N)  (hf : f_X6_pairs g a1 a2 a3 = some res) : kMet l yX6_pairs wsX6_pairs { frames := 3, cells := 0, slots := 0, locals := 63 } D vwCl (mT cs) N (mA q) [.ref (q 0), .int a1, .int a2, .int a3] (mW q cs isK isB fed at_ ltr ab ps g kp nx fa tp rs rv ct it) (some (.int res.1)) (mW q cs isK isB fed at_ ltr ab ps res.2 kp nx fa tp rs rv ct it) := by
  refine kMet.of (cc := cX6_pairs) (nL := 5) (ret := (some .int)) (own := RX6) (lv := [(0, .ref (q 0)), (1, .int a1), (2, .int a2), (3, .int a3)]) (by decide +kernel) rfl rfl hNK hq (Nat.le_of_ble_eq_true rfl) rfl (fun X C => ?_)
  refine VF.of hf ?_
  unfold f_X6_pairs
  refine v_iload_n C 1 dX6_pairs_0 rfl ?_
  refine v_callSP1v C (fun l9 r9 h9 => k_X6_isGame (l := l9) h9) gX6_pairs_X6_isGame rfl nI_X6_isGame ⟨rfl, rfl, Nat.le_of_ble_eq_true rfl, Nat.le_of_ble_eq_true rfl⟩ dX6_pairs_1 (Nat.le_of_ble_eq_true rfl) (fun r1 => ?_)
  refine v_ifb_ne C (b := r1) dX6_pairs_4 (tgt := 9) (by decide) ?_ ?_
  · refine v_aload_n C 0 dX6_pairs_9 rfl ?_
    refine v_iload_n C 2 dX6_pairs_10 rfl ?_
    refine v_callV1v C 0 rfl rfl rfl (fun l9 r9 h9 => k_X6_isSet (l := l9) hq hNK  h9) gX6_pairs_X6_isSet rfl nI_X6_isSet ⟨rfl, rfl, Nat.le_of_ble_eq_true rfl, Nat.le_of_ble_eq_true rfl⟩ dX6_pairs_11 (Nat.le_of_ble_eq_true rfl) (fun r2 => ?_)
    refine v_ifb_eq C (b := r2) dX6_pairs_14 (tgt := 25) (by decide) ?_ ?_
    · refine v_bipush C dX6_pairs_25 (v := (-2)) (by decide) ?_
      exact v_iret (rvf := fun (res : Int32 × (Nat → Int64)) => (some (.int res.1))) (wf := fun (res : Int32 × (Nat → Int64)) => (mW q cs isK isB fed at_ ltr ab ps res.2 kp nx fa tp rs rv ct it)) C dX6_pairs_27 rfl rfl
    · refine v_aload_n C 0 dX6_pairs_17 rfl ?_
      refine v_iload_n C 3 dX6_pairs_18 rfl ?_
      refine v_callV1v C 0 rfl rfl rfl (fun l9 r9 h9 => k_X6_isSet (l := l9) hq hNK  h9) gX6_pairs_X6_isSet rfl nI_X6_isSet ⟨rfl, rfl, Nat.le_of_ble_eq_true rfl, Nat.le_of_ble_eq_true rfl⟩ dX6_pairs_19 (Nat.le_of_ble_eq_true rfl) (fun r3 => ?_)
      refine v_ifb_ne C (b := r3) dX6_pairs_22 (tgt := 28) (by decide) ?_ ?_
      · refine v_iconst C dX6_pairs_28 (v := 0) (by decide) ?_
        refine v_istore C (lv' := [(4, .int 0), (0, .ref (q 0)), (1, .int a1), (2, .int a2), (3, .int a3)]) dX6_pairs_29 (by decide) rfl ?_
        refine v_sub [1, 2, 3, 4, 0] rfl (lp_X6_pairs_1 hq hNK C   FU 0 g)
      · refine v_bipush C dX6_pairs_25 (v := (-2)) (by decide) ?_
        exact v_iret (rvf := fun (res : Int32 × (Nat → Int64)) => (some (.int res.1))) (wf := fun (res : Int32 × (Nat → Int64)) => (mW q cs isK isB fed at_ ltr ab ps res.2 kp nx fa tp rs rv ct it)) C dX6_pairs_27 rfl rfl
  · refine v_iconst C dX6_pairs_7 (v := (-1)) (by decide) ?_
    exact v_iret (rvf := fun (res : Int32 × (Nat → Int64)) => (some (.int res.1))) (wf := fun (res : Int32 × (Nat → Int64)) => (mW q cs isK isB fed at_ ltr ab ps res.2 kp nx fa tp rs rv ct it)) C dX6_pairs_8 rfl rfl

def f_X6_done (isB : Bool) (g : Nat → Int64) (nx : Nat → Int64) (a1 : Int32) : Option (Int32 × (Nat → Int64)) :=
(f_X6_takes isB g nx a1).bind (fun (r1 : Int32 × (Nat → Int64)) =>
if (r1.1 : Int32) < 0 then (
some (r1.1, r1.2)) else (
some (1, r1.2)))

theorem nI_X6_done : NameIn yX6_done 1 := ⟨by decide +kernel, by decide +kernel, by decide +kernel⟩
set_option maxRecDepth 100000 in
set_option maxHeartbeats 4000000 in
theorem k_X6_done {l : Launch} {a1 : Int32}  {res : Int32 × (Nat → Int64)} (hq : (mA q).Nodup) (hNK : NOK N)  (hf : f_X6_done isB g nx a1 = some res) : kMet l yX6_done wsX6_done { frames := 3, cells := 0, slots := 0, locals := 63 } D vwCl (mT cs) N (mA q) [.ref (q 0), .int a1] (mW q cs isK isB fed at_ ltr ab ps g kp nx fa tp rs rv ct it) (some (.int res.1)) (mW q cs isK isB fed at_ ltr ab ps res.2 kp nx fa tp rs rv ct it) := by
  refine kMet.of (cc := cX6_done) (nL := 3) (ret := (some .int)) (own := RX6) (lv := [(0, .ref (q 0)), (1, .int a1)]) (by decide +kernel) rfl rfl hNK hq (Nat.le_of_ble_eq_true rfl) rfl (fun X C => ?_)
  refine VF.of hf ?_
  unfold f_X6_done
  refine v_aload_n C 0 dX6_done_0 rfl ?_
  refine v_iload_n C 1 dX6_done_1 rfl ?_
  refine v_callV1v C 0 rfl rfl rfl (fun l9 r9 h9 => k_X6_takes (l := l9) hq hNK  h9) gX6_done_X6_takes rfl nI_X6_takes ⟨rfl, rfl, Nat.le_of_ble_eq_true rfl, Nat.le_of_ble_eq_true rfl⟩ dX6_done_2 (Nat.le_of_ble_eq_true rfl) (fun r1 => ?_)
  refine v_istore_n C (lv' := [(2, .int r1.1), (0, .ref (q 0)), (1, .int a1)]) dX6_done_5 rfl (by decide) rfl ?_
  refine v_iload_n C 0 dX6_done_6 rfl ?_
  refine v_if_ge C dX6_done_7 (tgt := 14) (by decide) ?_ ?_
  · refine v_iconst C dX6_done_14 (v := 1) (by decide) ?_
    exact v_iret (rvf := fun (res : Int32 × (Nat → Int64)) => (some (.int res.1))) (wf := fun (res : Int32 × (Nat → Int64)) => (mW q cs isK isB fed at_ ltr ab ps res.2 kp nx fa tp rs rv ct it)) C dX6_done_15 rfl rfl
  · refine v_iload_n C 0 dX6_done_10 rfl ?_
    refine v_goto C dX6_done_11 (tgt := 15) (by decide) ?_
    exact v_iret (rvf := fun (res : Int32 × (Nat → Int64)) => (some (.int res.1))) (wf := fun (res : Int32 × (Nat → Int64)) => (mW q cs isK isB fed at_ ltr ab ps res.2 kp nx fa tp rs rv ct it)) C dX6_done_15 rfl rfl

def B_X6_copy_1 (a1 : Int32) (a2 : Int32) (rec3 : Int32 → (Nat → Int64) → Option (Int32 × (Nat → Int64)))  (v4 : Int32) (g5 : Nat → Int64) : Option (Int32 × (Nat → Int64)) :=
(f_X6_all g5).bind (fun (r6 : Int32) =>
if (r6 : Int32) < v4 then (
some (1, g5)) else (
(f_X6_v g5 a2 v4).bind (fun (r7 : Int64) =>
ck (inb ((183 + (512 * a1)) + v4) 2231) (
nm (vp_updL g5 ((183 + (512 * a1)) + v4).toNatClampNeg r7) (fun (g8 : Nat → Int64) =>
nm (v4 + 1) (fun (x9 : Int32) =>
rec3 x9 g8))))))
def L_X6_copy_1 (a1 : Int32) (a2 : Int32)  : Nat → Int32 → (Nat → Int64) → Option (Int32 × (Nat → Int64))
  | 0, _, _ => none
  | m9 + 1, v4, g5 => B_X6_copy_1 a1 a2 (L_X6_copy_1 a1 a2 m9)  v4 g5

def f_X6_copy (g : Nat → Int64) (a1 : Int32) (a2 : Int32) : Option (Int32 × (Nat → Int64)) :=
(f_X6_isGame a1).bind (fun (r1 : Bool) =>
if r1 = true then (
(f_X6_isGame a2).bind (fun (r2 : Bool) =>
if r2 = true then (
L_X6_copy_1 a1 a2  FU 0 g) else (
some ((-1), g)))) else (
some ((-1), g)))

theorem nI_X6_copy : NameIn yX6_copy 2 := ⟨by decide +kernel, by decide +kernel, by decide +kernel⟩
set_option maxRecDepth 100000 in
set_option maxHeartbeats 4000000 in
theorem lp_X6_copy_1 {X : CX} {res : Int32 × (Nat → Int64)} {a1 : Int32} {a2 : Int32}   (hq : (mA q).Nodup) (hNK : NOK N) (C : Ok X cX6_copy 4 (some .int) wsX6_copy RX6 { frames := 2, cells := 0, slots := 0, locals := 45 } D vwCl (mT cs) (mA q) N (some (.int res.1)) (mW q cs isK isB fed at_ ltr ab ps res.2 kp nx fa tp rs rv ct it))  : ∀ fuel : Nat, ∀ v4 : Int32, ∀ g5 : Nat → Int64, VF X res (L_X6_copy_1 a1 a2 fuel v4 g5) (mW q cs isK isB fed at_ ltr ab ps g5 kp nx fa tp rs rv ct it) 18 [(0, .ref (q 0)), (1, .int a1), (2, .int a2), (3, .int v4)] [] := by
  have iX6 : ∀ w ∈ wsX60, w ∈ wsX6_copy := fun _ h => List.mem_cons_of_mem _ (List.mem_append_right _ h)
  intro fuel
  induction fuel with
  | zero =>
    intro _ _
    exact v_none
  | succ fuel ih =>
    intro v4 g5
    show VF X res (B_X6_copy_1 a1 a2 (L_X6_copy_1 a1 a2 fuel)  v4 g5) _ _ _ _
    unfold B_X6_copy_1
    refine v_iload_n C 3 dX6_copy_18 rfl ?_
    refine v_aload_n C 0 dX6_copy_19 rfl ?_
    refine v_callV0v C 0 rfl rfl rfl (fun l9 r9 h9 => k_X6_all (l := l9) hq hNK  h9) gX6_copy_X6_all rfl nI_X6_all ⟨rfl, rfl, Nat.le_of_ble_eq_true rfl, Nat.le_of_ble_eq_true rfl⟩ dX6_copy_20 (Nat.le_of_ble_eq_true rfl) (fun r6 => ?_)
    refine v_icmp_gt C dX6_copy_23 (tgt := 54) (by decide) ?_ ?_
    · refine v_iconst C dX6_copy_54 (v := 1) (by decide) ?_
      exact v_iret (rvf := fun (res : Int32 × (Nat → Int64)) => (some (.int res.1))) (wf := fun (res : Int32 × (Nat → Int64)) => (mW q cs isK isB fed at_ ltr ab ps res.2 kp nx fa tp rs rv ct it)) C dX6_copy_55 rfl rfl
    · refine v_aload_n C 0 dX6_copy_26 rfl ?_
      refine v_get C (T := TX6) (n := 16) (C9 := RX6) iX6 0 rfl rfl 0 (by decide) (List.mem_of_getElem? (i := 1) rfl) rfl rfl dX6_copy_27 ?_
      refine v_sipush C dX6_copy_30 (v := 183) (by decide) ?_
      refine v_sipush C dX6_copy_33 (v := 512) (by decide) ?_
      refine v_iload_n C 1 dX6_copy_36 rfl ?_
      refine v_imul C dX6_copy_37 ?_
      refine v_iadd C dX6_copy_38 ?_
      refine v_iload_n C 3 dX6_copy_39 rfl ?_
      refine v_iadd C dX6_copy_40 ?_
      refine v_aload_n C 0 dX6_copy_41 rfl ?_
      refine v_iload_n C 2 dX6_copy_42 rfl ?_
      refine v_iload_n C 3 dX6_copy_43 rfl ?_
      refine v_callV2v C 0 rfl rfl rfl (fun l9 r9 h9 => k_X6_v (l := l9) hq hNK  h9) gX6_copy_X6_v rfl nI_X6_v ⟨rfl, rfl, Nat.le_of_ble_eq_true rfl, Nat.le_of_ble_eq_true rfl⟩ dX6_copy_44 (Nat.le_of_ble_eq_true rfl) (fun r7 => ?_)
      refine v_last_nm C (fun g8 => (mW q cs isK isB fed at_ ltr ab ps g8 kp nx fa tp rs rv ct it)) 1 1 rfl rfl rfl (fun _ => rfl) dX6_copy_47 (fun g8 => ?_)
      refine v_iinc_nm C (lvf := fun x9 => [(3, .int x9), (0, .ref (q 0)), (1, .int a1), (2, .int a2)]) 3 dX6_copy_48 rfl rfl (by decide) (fun _ => rfl) (fun x9 => ?_)
      refine v_goto C dX6_copy_51 (tgt := 18) (by decide) ?_
      exact v_sub [1, 2, 3, 0] rfl (ih x9 g8)

set_option maxRecDepth 100000 in
set_option maxHeartbeats 4000000 in
theorem k_X6_copy {l : Launch} {a1 : Int32} {a2 : Int32}  {res : Int32 × (Nat → Int64)} (hq : (mA q).Nodup) (hNK : NOK N)  (hf : f_X6_copy g a1 a2 = some res) : kMet l yX6_copy wsX6_copy { frames := 2, cells := 0, slots := 0, locals := 45 } D vwCl (mT cs) N (mA q) [.ref (q 0), .int a1, .int a2] (mW q cs isK isB fed at_ ltr ab ps g kp nx fa tp rs rv ct it) (some (.int res.1)) (mW q cs isK isB fed at_ ltr ab ps res.2 kp nx fa tp rs rv ct it) := by
  refine kMet.of (cc := cX6_copy) (nL := 4) (ret := (some .int)) (own := RX6) (lv := [(0, .ref (q 0)), (1, .int a1), (2, .int a2)]) (by decide +kernel) rfl rfl hNK hq (Nat.le_of_ble_eq_true rfl) rfl (fun X C => ?_)
  refine VF.of hf ?_
  unfold f_X6_copy
  refine v_iload_n C 1 dX6_copy_0 rfl ?_
  refine v_callSP1v C (fun l9 r9 h9 => k_X6_isGame (l := l9) h9) gX6_copy_X6_isGame rfl nI_X6_isGame ⟨rfl, rfl, Nat.le_of_ble_eq_true rfl, Nat.le_of_ble_eq_true rfl⟩ dX6_copy_1 (Nat.le_of_ble_eq_true rfl) (fun r1 => ?_)
  refine v_ifb_eq C (b := r1) dX6_copy_4 (tgt := 14) (by decide) ?_ ?_
  · refine v_iconst C dX6_copy_14 (v := (-1)) (by decide) ?_
    exact v_iret (rvf := fun (res : Int32 × (Nat → Int64)) => (some (.int res.1))) (wf := fun (res : Int32 × (Nat → Int64)) => (mW q cs isK isB fed at_ ltr ab ps res.2 kp nx fa tp rs rv ct it)) C dX6_copy_15 rfl rfl
  · refine v_iload_n C 2 dX6_copy_7 rfl ?_
    refine v_callSP1v C (fun l9 r9 h9 => k_X6_isGame (l := l9) h9) gX6_copy_X6_isGame rfl nI_X6_isGame ⟨rfl, rfl, Nat.le_of_ble_eq_true rfl, Nat.le_of_ble_eq_true rfl⟩ dX6_copy_8 (Nat.le_of_ble_eq_true rfl) (fun r2 => ?_)
    refine v_ifb_ne C (b := r2) dX6_copy_11 (tgt := 16) (by decide) ?_ ?_
    · refine v_iconst C dX6_copy_16 (v := 0) (by decide) ?_
      refine v_istore_n C (lv' := [(3, .int 0), (0, .ref (q 0)), (1, .int a1), (2, .int a2)]) dX6_copy_17 rfl (by decide) rfl ?_
      refine v_sub [1, 2, 3, 0] rfl (lp_X6_copy_1 hq hNK C   FU 0 g)
    · refine v_iconst C dX6_copy_14 (v := (-1)) (by decide) ?_
      exact v_iret (rvf := fun (res : Int32 × (Nat → Int64)) => (some (.int res.1))) (wf := fun (res : Int32 × (Nat → Int64)) => (mW q cs isK isB fed at_ ltr ab ps res.2 kp nx fa tp rs rv ct it)) C dX6_copy_15 rfl rfl

def B_X6_add_1 (a1 : Int32) (a2 : Int32) (rec4 : Int32 → Bool → (Nat → Int64) → (Nat → Int64) → Option (Int32 × Bool × (Nat → Int64) × (Nat → Int64)))  (v5 : Int32) (isB6 : Bool) (g7 : Nat → Int64) (nx8 : Nat → Int64) : Option (Int32 × Bool × (Nat → Int64) × (Nat → Int64)) :=
(f_X6_all g7).bind (fun (r9 : Int32) =>
if (r9 : Int32) < v5 then (
(f_X6_done isB6 g7 nx8 a1).bind (fun (r10 : Int32 × (Nat → Int64)) =>
some (r10.1, isB6, r10.2, nx8))) else (
(f_X6_v g7 a1 v5).bind (fun (r11 : Int64) =>
(f_X6_v g7 a2 v5).bind (fun (r12 : Int64) =>
(f_X6_plus isB6 r11 r12).bind (fun (r13 : Int64 × Bool) =>
ck (inb v5 512) (
nm (vp_updL nx8 v5.toNatClampNeg r13.1) (fun (nx14 : Nat → Int64) =>
nm (v5 + 1) (fun (x15 : Int32) =>
rec4 x15 r13.2 g7 nx14))))))))
def L_X6_add_1 (a1 : Int32) (a2 : Int32)  : Nat → Int32 → Bool → (Nat → Int64) → (Nat → Int64) → Option (Int32 × Bool × (Nat → Int64) × (Nat → Int64))
  | 0, _, _, _, _ => none
  | m9 + 1, v5, isB6, g7, nx8 => B_X6_add_1 a1 a2 (L_X6_add_1 a1 a2 m9)  v5 isB6 g7 nx8

def f_X6_add (isB : Bool) (g : Nat → Int64) (nx : Nat → Int64) (a1 : Int32) (a2 : Int32) : Option (Int32 × Bool × (Nat → Int64) × (Nat → Int64)) :=
(f_X6_isGame a1).bind (fun (r1 : Bool) =>
if r1 = true then (
(f_X6_isGame a2).bind (fun (r2 : Bool) =>
if r2 = true then (
nm false (fun (isB3 : Bool) =>
L_X6_add_1 a1 a2  FU 0 isB3 g nx)) else (
some ((-1), isB, g, nx)))) else (
some ((-1), isB, g, nx)))

theorem nI_X6_add : NameIn yX6_add 2 := ⟨by decide +kernel, by decide +kernel, by decide +kernel⟩
set_option maxRecDepth 100000 in
set_option maxHeartbeats 4000000 in
theorem lp_X6_add_1 {X : CX} {res : Int32 × Bool × (Nat → Int64) × (Nat → Int64)} {a1 : Int32} {a2 : Int32}   (hq : (mA q).Nodup) (hNK : NOK N) (C : Ok X cX6_add 4 (some .int) wsX6_add RX6 { frames := 4, cells := 0, slots := 0, locals := 85 } D vwCl (mT cs) (mA q) N (some (.int res.1)) (mW q cs isK res.2.1 fed at_ ltr ab ps res.2.2.1 kp res.2.2.2 fa tp rs rv ct it))  : ∀ fuel : Nat, ∀ v5 : Int32, ∀ isB6 : Bool, ∀ g7 : Nat → Int64, ∀ nx8 : Nat → Int64, VF X res (L_X6_add_1 a1 a2 fuel v5 isB6 g7 nx8) (mW q cs isK isB6 fed at_ ltr ab ps g7 kp nx8 fa tp rs rv ct it) 23 [(0, .ref (q 0)), (1, .int a1), (2, .int a2), (3, .int v5)] [] := by
  have iX6 : ∀ w ∈ wsX60, w ∈ wsX6_add := fun _ h => List.mem_cons_of_mem _ (List.mem_append_right _ h)
  intro fuel
  induction fuel with
  | zero =>
    intro _ _ _ _
    exact v_none
  | succ fuel ih =>
    intro v5 isB6 g7 nx8
    show VF X res (B_X6_add_1 a1 a2 (L_X6_add_1 a1 a2 fuel)  v5 isB6 g7 nx8) _ _ _ _
    unfold B_X6_add_1
    refine v_iload_n C 3 dX6_add_23 rfl ?_
    refine v_aload_n C 0 dX6_add_24 rfl ?_
    refine v_callV0v C 0 rfl rfl rfl (fun l9 r9 h9 => k_X6_all (l := l9) hq hNK  h9) gX6_add_X6_all rfl nI_X6_all ⟨rfl, rfl, Nat.le_of_ble_eq_true rfl, Nat.le_of_ble_eq_true rfl⟩ dX6_add_25 (Nat.le_of_ble_eq_true rfl) (fun r9 => ?_)
    refine v_icmp_gt C dX6_add_28 (tgt := 59) (by decide) ?_ ?_
    · refine v_aload_n C 0 dX6_add_59 rfl ?_
      refine v_iload_n C 1 dX6_add_60 rfl ?_
      refine v_callV1v C 0 rfl rfl rfl (fun l9 r9 h9 => k_X6_done (l := l9) hq hNK  h9) gX6_add_X6_done rfl nI_X6_done ⟨rfl, rfl, Nat.le_of_ble_eq_true rfl, Nat.le_of_ble_eq_true rfl⟩ dX6_add_61 (Nat.le_of_ble_eq_true rfl) (fun r10 => ?_)
      exact v_iret (rvf := fun (res : Int32 × Bool × (Nat → Int64) × (Nat → Int64)) => (some (.int res.1))) (wf := fun (res : Int32 × Bool × (Nat → Int64) × (Nat → Int64)) => (mW q cs isK res.2.1 fed at_ ltr ab ps res.2.2.1 kp res.2.2.2 fa tp rs rv ct it)) C dX6_add_64 rfl rfl
    · refine v_aload_n C 0 dX6_add_31 rfl ?_
      refine v_get C (T := TX6) (n := 16) (C9 := RX6) iX6 0 rfl rfl 2 (by decide) (List.mem_of_getElem? (i := 2) rfl) rfl rfl dX6_add_32 ?_
      refine v_iload_n C 3 dX6_add_35 rfl ?_
      refine v_aload_n C 0 dX6_add_36 rfl ?_
      refine v_aload_n C 0 dX6_add_37 rfl ?_
      refine v_iload_n C 1 dX6_add_38 rfl ?_
      refine v_iload_n C 3 dX6_add_39 rfl ?_
      refine v_callV2v C 0 rfl rfl rfl (fun l9 r9 h9 => k_X6_v (l := l9) hq hNK  h9) gX6_add_X6_v rfl nI_X6_v ⟨rfl, rfl, Nat.le_of_ble_eq_true rfl, Nat.le_of_ble_eq_true rfl⟩ dX6_add_40 (Nat.le_of_ble_eq_true rfl) (fun r11 => ?_)
      refine v_aload_n C 0 dX6_add_43 rfl ?_
      refine v_iload_n C 2 dX6_add_44 rfl ?_
      refine v_iload_n C 3 dX6_add_45 rfl ?_
      refine v_callV2v C 0 rfl rfl rfl (fun l9 r9 h9 => k_X6_v (l := l9) hq hNK  h9) gX6_add_X6_v rfl nI_X6_v ⟨rfl, rfl, Nat.le_of_ble_eq_true rfl, Nat.le_of_ble_eq_true rfl⟩ dX6_add_46 (Nat.le_of_ble_eq_true rfl) (fun r12 => ?_)
      refine v_callV2v C 0 rfl rfl rfl (fun l9 r9 h9 => k_X6_plus (l := l9) hq hNK  h9) gX6_add_X6_plus rfl nI_X6_plus ⟨rfl, rfl, Nat.le_of_ble_eq_true rfl, Nat.le_of_ble_eq_true rfl⟩ dX6_add_49 (Nat.le_of_ble_eq_true rfl) (fun r13 => ?_)
      refine v_last_nm C (fun nx14 => (mW q cs isK r13.2 fed at_ ltr ab ps g7 kp nx14 fa tp rs rv ct it)) 3 1 rfl rfl rfl (fun _ => rfl) dX6_add_52 (fun nx14 => ?_)
      refine v_iinc_nm C (lvf := fun x15 => [(3, .int x15), (0, .ref (q 0)), (1, .int a1), (2, .int a2)]) 3 dX6_add_53 rfl rfl (by decide) (fun _ => rfl) (fun x15 => ?_)
      refine v_goto C dX6_add_56 (tgt := 23) (by decide) ?_
      exact v_sub [1, 2, 3, 0] rfl (ih x15 r13.2 g7 nx14)

set_option maxRecDepth 100000 in
set_option maxHeartbeats 4000000 in
theorem k_X6_add {l : Launch} {a1 : Int32} {a2 : Int32}  {res : Int32 × Bool × (Nat → Int64) × (Nat → Int64)} (hq : (mA q).Nodup) (hNK : NOK N)  (hf : f_X6_add isB g nx a1 a2 = some res) : kMet l yX6_add wsX6_add { frames := 4, cells := 0, slots := 0, locals := 85 } D vwCl (mT cs) N (mA q) [.ref (q 0), .int a1, .int a2] (mW q cs isK isB fed at_ ltr ab ps g kp nx fa tp rs rv ct it) (some (.int res.1)) (mW q cs isK res.2.1 fed at_ ltr ab ps res.2.2.1 kp res.2.2.2 fa tp rs rv ct it) := by
  have iX6 : ∀ w ∈ wsX60, w ∈ wsX6_add := fun _ h => List.mem_cons_of_mem _ (List.mem_append_right _ h)
  refine kMet.of (cc := cX6_add) (nL := 4) (ret := (some .int)) (own := RX6) (lv := [(0, .ref (q 0)), (1, .int a1), (2, .int a2)]) (by decide +kernel) rfl rfl hNK hq (Nat.le_of_ble_eq_true rfl) rfl (fun X C => ?_)
  refine VF.of hf ?_
  unfold f_X6_add
  refine v_iload_n C 1 dX6_add_0 rfl ?_
  refine v_callSP1v C (fun l9 r9 h9 => k_X6_isGame (l := l9) h9) gX6_add_X6_isGame rfl nI_X6_isGame ⟨rfl, rfl, Nat.le_of_ble_eq_true rfl, Nat.le_of_ble_eq_true rfl⟩ dX6_add_1 (Nat.le_of_ble_eq_true rfl) (fun r1 => ?_)
  refine v_ifb_eq C (b := r1) dX6_add_4 (tgt := 14) (by decide) ?_ ?_
  · refine v_iconst C dX6_add_14 (v := (-1)) (by decide) ?_
    exact v_iret (rvf := fun (res : Int32 × Bool × (Nat → Int64) × (Nat → Int64)) => (some (.int res.1))) (wf := fun (res : Int32 × Bool × (Nat → Int64) × (Nat → Int64)) => (mW q cs isK res.2.1 fed at_ ltr ab ps res.2.2.1 kp res.2.2.2 fa tp rs rv ct it)) C dX6_add_15 rfl rfl
  · refine v_iload_n C 2 dX6_add_7 rfl ?_
    refine v_callSP1v C (fun l9 r9 h9 => k_X6_isGame (l := l9) h9) gX6_add_X6_isGame rfl nI_X6_isGame ⟨rfl, rfl, Nat.le_of_ble_eq_true rfl, Nat.le_of_ble_eq_true rfl⟩ dX6_add_8 (Nat.le_of_ble_eq_true rfl) (fun r2 => ?_)
    refine v_ifb_ne C (b := r2) dX6_add_11 (tgt := 16) (by decide) ?_ ?_
    · refine v_aload_n C 0 dX6_add_16 rfl ?_
      refine v_iconst C dX6_add_17 (v := 0) (by decide) ?_
      refine v_put_nm C (v := false) (fun z9 => Value.int (bI z9)) (ty := .boolean) (T := TX6) (n := 16) (C9 := RX6) (ty0 := tyX6) (fun isB3 => (mW q cs isK isB3 fed at_ ltr ab ps g kp nx fa tp rs rv ct it)) iX6 tyX6_ok nmX6 0 rfl rfl rfl 5 (by decide) (List.mem_of_getElem? (i := 1) rfl) rfl rfl rfl bI_nar bI_fit (Nat.le_of_ble_eq_true rfl) (fun _ => rfl) dX6_add_18 (fun isB3 => ?_)
      refine v_iconst C dX6_add_21 (v := 0) (by decide) ?_
      refine v_istore_n C (lv' := [(3, .int 0), (0, .ref (q 0)), (1, .int a1), (2, .int a2)]) dX6_add_22 rfl (by decide) rfl ?_
      refine v_sub [1, 2, 3, 0] rfl (lp_X6_add_1 hq hNK C   FU 0 isB3 g nx)
    · refine v_iconst C dX6_add_14 (v := (-1)) (by decide) ?_
      exact v_iret (rvf := fun (res : Int32 × Bool × (Nat → Int64) × (Nat → Int64)) => (some (.int res.1))) (wf := fun (res : Int32 × Bool × (Nat → Int64) × (Nat → Int64)) => (mW q cs isK res.2.1 fed at_ ltr ab ps res.2.2.1 kp res.2.2.2 fa tp rs rv ct it)) C dX6_add_15 rfl rfl

def B_X6_times_1 (a1 : Int32) (a2 : Int32) (rec4 : Int32 → Bool → (Nat → Int64) → (Nat → Int64) → Option (Int32 × Bool × (Nat → Int64) × (Nat → Int64)))  (v5 : Int32) (isB6 : Bool) (g7 : Nat → Int64) (nx8 : Nat → Int64) : Option (Int32 × Bool × (Nat → Int64) × (Nat → Int64)) :=
(f_X6_all g7).bind (fun (r9 : Int32) =>
if (r9 : Int32) < v5 then (
(f_X6_done isB6 g7 nx8 a1).bind (fun (r10 : Int32 × (Nat → Int64)) =>
some (r10.1, isB6, r10.2, nx8))) else (
(f_X6_v g7 a1 v5).bind (fun (r11 : Int64) =>
(f_X6_product isB6 r11 a2.toInt64).bind (fun (r12 : Int64 × Bool) =>
ck (inb v5 512) (
nm (vp_updL nx8 v5.toNatClampNeg r12.1) (fun (nx13 : Nat → Int64) =>
nm (v5 + 1) (fun (x14 : Int32) =>
rec4 x14 r12.2 g7 nx13)))))))
def L_X6_times_1 (a1 : Int32) (a2 : Int32)  : Nat → Int32 → Bool → (Nat → Int64) → (Nat → Int64) → Option (Int32 × Bool × (Nat → Int64) × (Nat → Int64))
  | 0, _, _, _, _ => none
  | m9 + 1, v5, isB6, g7, nx8 => B_X6_times_1 a1 a2 (L_X6_times_1 a1 a2 m9)  v5 isB6 g7 nx8

def f_X6_times (isB : Bool) (g : Nat → Int64) (nx : Nat → Int64) (a1 : Int32) (a2 : Int32) : Option (Int32 × Bool × (Nat → Int64) × (Nat → Int64)) :=
(f_X6_isGame a1).bind (fun (r1 : Bool) =>
if r1 = true then (
(f_X6_isIn a2.toInt64 (-1000) 1000).bind (fun (r2 : Bool) =>
if r2 = true then (
nm false (fun (isB3 : Bool) =>
L_X6_times_1 a1 a2  FU 0 isB3 g nx)) else (
some ((-2), isB, g, nx)))) else (
some ((-1), isB, g, nx)))

theorem nI_X6_times : NameIn yX6_times 2 := ⟨by decide +kernel, by decide +kernel, by decide +kernel⟩
set_option maxRecDepth 100000 in
set_option maxHeartbeats 4000000 in
theorem lp_X6_times_1 {X : CX} {res : Int32 × Bool × (Nat → Int64) × (Nat → Int64)} {a1 : Int32} {a2 : Int32}   (hq : (mA q).Nodup) (hNK : NOK N) (C : Ok X cX6_times 4 (some .int) wsX6_times RX6 { frames := 4, cells := 0, slots := 0, locals := 85 } D vwCl (mT cs) (mA q) N (some (.int res.1)) (mW q cs isK res.2.1 fed at_ ltr ab ps res.2.2.1 kp res.2.2.2 fa tp rs rv ct it))  : ∀ fuel : Nat, ∀ v5 : Int32, ∀ isB6 : Bool, ∀ g7 : Nat → Int64, ∀ nx8 : Nat → Int64, VF X res (L_X6_times_1 a1 a2 fuel v5 isB6 g7 nx8) (mW q cs isK isB6 fed at_ ltr ab ps g7 kp nx8 fa tp rs rv ct it) 33 [(0, .ref (q 0)), (1, .int a1), (2, .int a2), (3, .int v5)] [] := by
  have iX6 : ∀ w ∈ wsX60, w ∈ wsX6_times := fun _ h => List.mem_cons_of_mem _ (List.mem_append_right _ h)
  intro fuel
  induction fuel with
  | zero =>
    intro _ _ _ _
    exact v_none
  | succ fuel ih =>
    intro v5 isB6 g7 nx8
    show VF X res (B_X6_times_1 a1 a2 (L_X6_times_1 a1 a2 fuel)  v5 isB6 g7 nx8) _ _ _ _
    unfold B_X6_times_1
    refine v_iload_n C 3 dX6_times_33 rfl ?_
    refine v_aload_n C 0 dX6_times_34 rfl ?_
    refine v_callV0v C 0 rfl rfl rfl (fun l9 r9 h9 => k_X6_all (l := l9) hq hNK  h9) gX6_times_X6_all rfl nI_X6_all ⟨rfl, rfl, Nat.le_of_ble_eq_true rfl, Nat.le_of_ble_eq_true rfl⟩ dX6_times_35 (Nat.le_of_ble_eq_true rfl) (fun r9 => ?_)
    refine v_icmp_gt C dX6_times_38 (tgt := 65) (by decide) ?_ ?_
    · refine v_aload_n C 0 dX6_times_65 rfl ?_
      refine v_iload_n C 1 dX6_times_66 rfl ?_
      refine v_callV1v C 0 rfl rfl rfl (fun l9 r9 h9 => k_X6_done (l := l9) hq hNK  h9) gX6_times_X6_done rfl nI_X6_done ⟨rfl, rfl, Nat.le_of_ble_eq_true rfl, Nat.le_of_ble_eq_true rfl⟩ dX6_times_67 (Nat.le_of_ble_eq_true rfl) (fun r10 => ?_)
      exact v_iret (rvf := fun (res : Int32 × Bool × (Nat → Int64) × (Nat → Int64)) => (some (.int res.1))) (wf := fun (res : Int32 × Bool × (Nat → Int64) × (Nat → Int64)) => (mW q cs isK res.2.1 fed at_ ltr ab ps res.2.2.1 kp res.2.2.2 fa tp rs rv ct it)) C dX6_times_70 rfl rfl
    · refine v_aload_n C 0 dX6_times_41 rfl ?_
      refine v_get C (T := TX6) (n := 16) (C9 := RX6) iX6 0 rfl rfl 2 (by decide) (List.mem_of_getElem? (i := 4) rfl) rfl rfl dX6_times_42 ?_
      refine v_iload_n C 3 dX6_times_45 rfl ?_
      refine v_aload_n C 0 dX6_times_46 rfl ?_
      refine v_aload_n C 0 dX6_times_47 rfl ?_
      refine v_iload_n C 1 dX6_times_48 rfl ?_
      refine v_iload_n C 3 dX6_times_49 rfl ?_
      refine v_callV2v C 0 rfl rfl rfl (fun l9 r9 h9 => k_X6_v (l := l9) hq hNK  h9) gX6_times_X6_v rfl nI_X6_v ⟨rfl, rfl, Nat.le_of_ble_eq_true rfl, Nat.le_of_ble_eq_true rfl⟩ dX6_times_50 (Nat.le_of_ble_eq_true rfl) (fun r11 => ?_)
      refine v_iload_n C 2 dX6_times_53 rfl ?_
      refine v_i2l C dX6_times_54 ?_
      refine v_callV2v C 0 rfl rfl rfl (fun l9 r9 h9 => k_X6_product (l := l9) hq hNK  h9) gX6_times_X6_product rfl nI_X6_product ⟨rfl, rfl, Nat.le_of_ble_eq_true rfl, Nat.le_of_ble_eq_true rfl⟩ dX6_times_55 (Nat.le_of_ble_eq_true rfl) (fun r12 => ?_)
      refine v_last_nm C (fun nx13 => (mW q cs isK r12.2 fed at_ ltr ab ps g7 kp nx13 fa tp rs rv ct it)) 3 1 rfl rfl rfl (fun _ => rfl) dX6_times_58 (fun nx13 => ?_)
      refine v_iinc_nm C (lvf := fun x14 => [(3, .int x14), (0, .ref (q 0)), (1, .int a1), (2, .int a2)]) 3 dX6_times_59 rfl rfl (by decide) (fun _ => rfl) (fun x14 => ?_)
      refine v_goto C dX6_times_62 (tgt := 33) (by decide) ?_
      exact v_sub [1, 2, 3, 0] rfl (ih x14 r12.2 g7 nx13)

set_option maxRecDepth 100000 in
set_option maxHeartbeats 4000000 in
theorem k_X6_times {l : Launch} {a1 : Int32} {a2 : Int32}  {res : Int32 × Bool × (Nat → Int64) × (Nat → Int64)} (hq : (mA q).Nodup) (hNK : NOK N)  (hf : f_X6_times isB g nx a1 a2 = some res) : kMet l yX6_times wsX6_times { frames := 4, cells := 0, slots := 0, locals := 85 } D vwCl (mT cs) N (mA q) [.ref (q 0), .int a1, .int a2] (mW q cs isK isB fed at_ ltr ab ps g kp nx fa tp rs rv ct it) (some (.int res.1)) (mW q cs isK res.2.1 fed at_ ltr ab ps res.2.2.1 kp res.2.2.2 fa tp rs rv ct it) := by
  have iX6 : ∀ w ∈ wsX60, w ∈ wsX6_times := fun _ h => List.mem_cons_of_mem _ (List.mem_append_right _ h)
  refine kMet.of (cc := cX6_times) (nL := 4) (ret := (some .int)) (own := RX6) (lv := [(0, .ref (q 0)), (1, .int a1), (2, .int a2)]) (by decide +kernel) rfl rfl hNK hq (Nat.le_of_ble_eq_true rfl) rfl (fun X C => ?_)
  refine VF.of hf ?_
  unfold f_X6_times
  refine v_iload_n C 1 dX6_times_0 rfl ?_
  refine v_callSP1v C (fun l9 r9 h9 => k_X6_isGame (l := l9) h9) gX6_times_X6_isGame rfl nI_X6_isGame ⟨rfl, rfl, Nat.le_of_ble_eq_true rfl, Nat.le_of_ble_eq_true rfl⟩ dX6_times_1 (Nat.le_of_ble_eq_true rfl) (fun r1 => ?_)
  refine v_ifb_ne C (b := r1) dX6_times_4 (tgt := 9) (by decide) ?_ ?_
  · refine v_iload_n C 2 dX6_times_9 rfl ?_
    refine v_i2l C dX6_times_10 ?_
    refine v_ldc2 C (v := (-1000)) (List.mem_of_getElem? (i := 1) rfl) dX6_times_11 ?_
    refine v_ldc2 C (v := 1000) (List.mem_of_getElem? (i := 2) rfl) dX6_times_14 ?_
    refine v_callSP3v C (fun l9 r9 h9 => k_X6_isIn (l := l9) h9) gX6_times_X6_isIn rfl nI_X6_isIn ⟨rfl, rfl, Nat.le_of_ble_eq_true rfl, Nat.le_of_ble_eq_true rfl⟩ dX6_times_17 (Nat.le_of_ble_eq_true rfl) (fun r2 => ?_)
    refine v_ifb_ne C (b := r2) dX6_times_20 (tgt := 26) (by decide) ?_ ?_
    · refine v_aload_n C 0 dX6_times_26 rfl ?_
      refine v_iconst C dX6_times_27 (v := 0) (by decide) ?_
      refine v_put_nm C (v := false) (fun z9 => Value.int (bI z9)) (ty := .boolean) (T := TX6) (n := 16) (C9 := RX6) (ty0 := tyX6) (fun isB3 => (mW q cs isK isB3 fed at_ ltr ab ps g kp nx fa tp rs rv ct it)) iX6 tyX6_ok nmX6 0 rfl rfl rfl 5 (by decide) (List.mem_of_getElem? (i := 3) rfl) rfl rfl rfl bI_nar bI_fit (Nat.le_of_ble_eq_true rfl) (fun _ => rfl) dX6_times_28 (fun isB3 => ?_)
      refine v_iconst C dX6_times_31 (v := 0) (by decide) ?_
      refine v_istore_n C (lv' := [(3, .int 0), (0, .ref (q 0)), (1, .int a1), (2, .int a2)]) dX6_times_32 rfl (by decide) rfl ?_
      refine v_sub [1, 2, 3, 0] rfl (lp_X6_times_1 hq hNK C   FU 0 isB3 g nx)
    · refine v_bipush C dX6_times_23 (v := (-2)) (by decide) ?_
      exact v_iret (rvf := fun (res : Int32 × Bool × (Nat → Int64) × (Nat → Int64)) => (some (.int res.1))) (wf := fun (res : Int32 × Bool × (Nat → Int64) × (Nat → Int64)) => (mW q cs isK res.2.1 fed at_ ltr ab ps res.2.2.1 kp res.2.2.2 fa tp rs rv ct it)) C dX6_times_25 rfl rfl
  · refine v_iconst C dX6_times_7 (v := (-1)) (by decide) ?_
    exact v_iret (rvf := fun (res : Int32 × Bool × (Nat → Int64) × (Nat → Int64)) => (some (.int res.1))) (wf := fun (res : Int32 × Bool × (Nat → Int64) × (Nat → Int64)) => (mW q cs isK res.2.1 fed at_ ltr ab ps res.2.2.1 kp res.2.2.2 fa tp rs rv ct it)) C dX6_times_8 rfl rfl

def B_X6_dual_1 (a1 : Int32) (rec3 : Int32 → Bool → (Nat → Int64) → (Nat → Int64) → Option (Int32 × Bool × (Nat → Int64) × (Nat → Int64)))  (v4 : Int32) (isB5 : Bool) (g6 : Nat → Int64) (nx7 : Nat → Int64) : Option (Int32 × Bool × (Nat → Int64) × (Nat → Int64)) :=
(f_X6_all g6).bind (fun (r8 : Int32) =>
if (r8 : Int32) < v4 then (
(f_X6_done isB5 g6 nx7 a1).bind (fun (r9 : Int32 × (Nat → Int64)) =>
some (r9.1, isB5, r9.2, nx7))) else (
(f_X6_all g6).bind (fun (r10 : Int32) =>
(f_X6_v g6 a1 r10).bind (fun (r11 : Int64) =>
(f_X6_all g6).bind (fun (r12 : Int32) =>
(f_X6_v g6 a1 (r12 &&& (v4 ^^^ (-1)))).bind (fun (r13 : Int64) =>
(f_X6_minus isB5 r11 r13).bind (fun (r14 : Int64 × Bool) =>
ck (inb v4 512) (
nm (vp_updL nx7 v4.toNatClampNeg r14.1) (fun (nx15 : Nat → Int64) =>
nm (v4 + 1) (fun (x16 : Int32) =>
rec3 x16 r14.2 g6 nx15))))))))))
def L_X6_dual_1 (a1 : Int32)  : Nat → Int32 → Bool → (Nat → Int64) → (Nat → Int64) → Option (Int32 × Bool × (Nat → Int64) × (Nat → Int64))
  | 0, _, _, _, _ => none
  | m9 + 1, v4, isB5, g6, nx7 => B_X6_dual_1 a1 (L_X6_dual_1 a1 m9)  v4 isB5 g6 nx7

def f_X6_dual (isB : Bool) (g : Nat → Int64) (nx : Nat → Int64) (a1 : Int32) : Option (Int32 × Bool × (Nat → Int64) × (Nat → Int64)) :=
(f_X6_isGame a1).bind (fun (r1 : Bool) =>
if r1 = true then (
nm false (fun (isB2 : Bool) =>
L_X6_dual_1 a1  FU 0 isB2 g nx)) else (
some ((-1), isB, g, nx)))

theorem nI_X6_dual : NameIn yX6_dual 1 := ⟨by decide +kernel, by decide +kernel, by decide +kernel⟩
set_option maxRecDepth 100000 in
set_option maxHeartbeats 4000000 in
theorem lp_X6_dual_1 {X : CX} {res : Int32 × Bool × (Nat → Int64) × (Nat → Int64)} {a1 : Int32}   (hq : (mA q).Nodup) (hNK : NOK N) (C : Ok X cX6_dual 3 (some .int) wsX6_dual RX6 { frames := 4, cells := 0, slots := 0, locals := 85 } D vwCl (mT cs) (mA q) N (some (.int res.1)) (mW q cs isK res.2.1 fed at_ ltr ab ps res.2.2.1 kp res.2.2.2 fa tp rs rv ct it))  : ∀ fuel : Nat, ∀ v4 : Int32, ∀ isB5 : Bool, ∀ g6 : Nat → Int64, ∀ nx7 : Nat → Int64, VF X res (L_X6_dual_1 a1 fuel v4 isB5 g6 nx7) (mW q cs isK isB5 fed at_ ltr ab ps g6 kp nx7 fa tp rs rv ct it) 16 [(0, .ref (q 0)), (1, .int a1), (2, .int v4)] [] := by
  have iX6 : ∀ w ∈ wsX60, w ∈ wsX6_dual := fun _ h => List.mem_cons_of_mem _ (List.mem_append_right _ h)
  intro fuel
  induction fuel with
  | zero =>
    intro _ _ _ _
    exact v_none
  | succ fuel ih =>
    intro v4 isB5 g6 nx7
    show VF X res (B_X6_dual_1 a1 (L_X6_dual_1 a1 fuel)  v4 isB5 g6 nx7) _ _ _ _
    unfold B_X6_dual_1
    refine v_iload_n C 2 dX6_dual_16 rfl ?_
    refine v_aload_n C 0 dX6_dual_17 rfl ?_
    refine v_callV0v C 0 rfl rfl rfl (fun l9 r9 h9 => k_X6_all (l := l9) hq hNK  h9) gX6_dual_X6_all rfl nI_X6_all ⟨rfl, rfl, Nat.le_of_ble_eq_true rfl, Nat.le_of_ble_eq_true rfl⟩ dX6_dual_18 (Nat.le_of_ble_eq_true rfl) (fun r8 => ?_)
    refine v_icmp_gt C dX6_dual_21 (tgt := 62) (by decide) ?_ ?_
    · refine v_aload_n C 0 dX6_dual_62 rfl ?_
      refine v_iload_n C 1 dX6_dual_63 rfl ?_
      refine v_callV1v C 0 rfl rfl rfl (fun l9 r9 h9 => k_X6_done (l := l9) hq hNK  h9) gX6_dual_X6_done rfl nI_X6_done ⟨rfl, rfl, Nat.le_of_ble_eq_true rfl, Nat.le_of_ble_eq_true rfl⟩ dX6_dual_64 (Nat.le_of_ble_eq_true rfl) (fun r9 => ?_)
      exact v_iret (rvf := fun (res : Int32 × Bool × (Nat → Int64) × (Nat → Int64)) => (some (.int res.1))) (wf := fun (res : Int32 × Bool × (Nat → Int64) × (Nat → Int64)) => (mW q cs isK res.2.1 fed at_ ltr ab ps res.2.2.1 kp res.2.2.2 fa tp rs rv ct it)) C dX6_dual_67 rfl rfl
    · refine v_aload_n C 0 dX6_dual_24 rfl ?_
      refine v_get C (T := TX6) (n := 16) (C9 := RX6) iX6 0 rfl rfl 2 (by decide) (List.mem_of_getElem? (i := 2) rfl) rfl rfl dX6_dual_25 ?_
      refine v_iload_n C 2 dX6_dual_28 rfl ?_
      refine v_aload_n C 0 dX6_dual_29 rfl ?_
      refine v_aload_n C 0 dX6_dual_30 rfl ?_
      refine v_iload_n C 1 dX6_dual_31 rfl ?_
      refine v_aload_n C 0 dX6_dual_32 rfl ?_
      refine v_callV0v C 0 rfl rfl rfl (fun l9 r9 h9 => k_X6_all (l := l9) hq hNK  h9) gX6_dual_X6_all rfl nI_X6_all ⟨rfl, rfl, Nat.le_of_ble_eq_true rfl, Nat.le_of_ble_eq_true rfl⟩ dX6_dual_33 (Nat.le_of_ble_eq_true rfl) (fun r10 => ?_)
      refine v_callV2v C 0 rfl rfl rfl (fun l9 r9 h9 => k_X6_v (l := l9) hq hNK  h9) gX6_dual_X6_v rfl nI_X6_v ⟨rfl, rfl, Nat.le_of_ble_eq_true rfl, Nat.le_of_ble_eq_true rfl⟩ dX6_dual_36 (Nat.le_of_ble_eq_true rfl) (fun r11 => ?_)
      refine v_aload_n C 0 dX6_dual_39 rfl ?_
      refine v_iload_n C 1 dX6_dual_40 rfl ?_
      refine v_aload_n C 0 dX6_dual_41 rfl ?_
      refine v_callV0v C 0 rfl rfl rfl (fun l9 r9 h9 => k_X6_all (l := l9) hq hNK  h9) gX6_dual_X6_all rfl nI_X6_all ⟨rfl, rfl, Nat.le_of_ble_eq_true rfl, Nat.le_of_ble_eq_true rfl⟩ dX6_dual_42 (Nat.le_of_ble_eq_true rfl) (fun r12 => ?_)
      refine v_iload_n C 2 dX6_dual_45 rfl ?_
      refine v_iconst C dX6_dual_46 (v := (-1)) (by decide) ?_
      refine v_ixor C dX6_dual_47 ?_
      refine v_iand C dX6_dual_48 ?_
      refine v_callV2v C 0 rfl rfl rfl (fun l9 r9 h9 => k_X6_v (l := l9) hq hNK  h9) gX6_dual_X6_v rfl nI_X6_v ⟨rfl, rfl, Nat.le_of_ble_eq_true rfl, Nat.le_of_ble_eq_true rfl⟩ dX6_dual_49 (Nat.le_of_ble_eq_true rfl) (fun r13 => ?_)
      refine v_callV2v C 0 rfl rfl rfl (fun l9 r9 h9 => k_X6_minus (l := l9) hq hNK  h9) gX6_dual_X6_minus rfl nI_X6_minus ⟨rfl, rfl, Nat.le_of_ble_eq_true rfl, Nat.le_of_ble_eq_true rfl⟩ dX6_dual_52 (Nat.le_of_ble_eq_true rfl) (fun r14 => ?_)
      refine v_last_nm C (fun nx15 => (mW q cs isK r14.2 fed at_ ltr ab ps g6 kp nx15 fa tp rs rv ct it)) 3 1 rfl rfl rfl (fun _ => rfl) dX6_dual_55 (fun nx15 => ?_)
      refine v_iinc_nm C (lvf := fun x16 => [(2, .int x16), (0, .ref (q 0)), (1, .int a1)]) 2 dX6_dual_56 rfl rfl (by decide) (fun _ => rfl) (fun x16 => ?_)
      refine v_goto C dX6_dual_59 (tgt := 16) (by decide) ?_
      exact v_sub [1, 2, 0] rfl (ih x16 r14.2 g6 nx15)

set_option maxRecDepth 100000 in
set_option maxHeartbeats 4000000 in
theorem k_X6_dual {l : Launch} {a1 : Int32}  {res : Int32 × Bool × (Nat → Int64) × (Nat → Int64)} (hq : (mA q).Nodup) (hNK : NOK N)  (hf : f_X6_dual isB g nx a1 = some res) : kMet l yX6_dual wsX6_dual { frames := 4, cells := 0, slots := 0, locals := 85 } D vwCl (mT cs) N (mA q) [.ref (q 0), .int a1] (mW q cs isK isB fed at_ ltr ab ps g kp nx fa tp rs rv ct it) (some (.int res.1)) (mW q cs isK res.2.1 fed at_ ltr ab ps res.2.2.1 kp res.2.2.2 fa tp rs rv ct it) := by
  have iX6 : ∀ w ∈ wsX60, w ∈ wsX6_dual := fun _ h => List.mem_cons_of_mem _ (List.mem_append_right _ h)
  refine kMet.of (cc := cX6_dual) (nL := 3) (ret := (some .int)) (own := RX6) (lv := [(0, .ref (q 0)), (1, .int a1)]) (by decide +kernel) rfl rfl hNK hq (Nat.le_of_ble_eq_true rfl) rfl (fun X C => ?_)
  refine VF.of hf ?_
  unfold f_X6_dual
  refine v_iload_n C 1 dX6_dual_0 rfl ?_
  refine v_callSP1v C (fun l9 r9 h9 => k_X6_isGame (l := l9) h9) gX6_dual_X6_isGame rfl nI_X6_isGame ⟨rfl, rfl, Nat.le_of_ble_eq_true rfl, Nat.le_of_ble_eq_true rfl⟩ dX6_dual_1 (Nat.le_of_ble_eq_true rfl) (fun r1 => ?_)
  refine v_ifb_ne C (b := r1) dX6_dual_4 (tgt := 9) (by decide) ?_ ?_
  · refine v_aload_n C 0 dX6_dual_9 rfl ?_
    refine v_iconst C dX6_dual_10 (v := 0) (by decide) ?_
    refine v_put_nm C (v := false) (fun z9 => Value.int (bI z9)) (ty := .boolean) (T := TX6) (n := 16) (C9 := RX6) (ty0 := tyX6) (fun isB2 => (mW q cs isK isB2 fed at_ ltr ab ps g kp nx fa tp rs rv ct it)) iX6 tyX6_ok nmX6 0 rfl rfl rfl 5 (by decide) (List.mem_of_getElem? (i := 1) rfl) rfl rfl rfl bI_nar bI_fit (Nat.le_of_ble_eq_true rfl) (fun _ => rfl) dX6_dual_11 (fun isB2 => ?_)
    refine v_iconst C dX6_dual_14 (v := 0) (by decide) ?_
    refine v_istore_n C (lv' := [(2, .int 0), (0, .ref (q 0)), (1, .int a1)]) dX6_dual_15 rfl (by decide) rfl ?_
    refine v_sub [1, 2, 0] rfl (lp_X6_dual_1 hq hNK C   FU 0 isB2 g nx)
  · refine v_iconst C dX6_dual_7 (v := (-1)) (by decide) ?_
    exact v_iret (rvf := fun (res : Int32 × Bool × (Nat → Int64) × (Nat → Int64)) => (some (.int res.1))) (wf := fun (res : Int32 × Bool × (Nat → Int64) × (Nat → Int64)) => (mW q cs isK res.2.1 fed at_ ltr ab ps res.2.2.1 kp res.2.2.2 fa tp rs rv ct it)) C dX6_dual_8 rfl rfl

def B_X6_covered_1 (g : Nat → Int64) (nx : Nat → Int64) (a1 : Int32) (a2 : Int32) (x1 : Int32) (rec3 : Int64 → Int32 → Bool → Option (Int64 × Bool))  (v4 : Int64) (v5 : Int32) (isB6 : Bool) : Option (Int64 × Bool) :=
if (v5 : Int32) < a2 then (
jn2 (fun (v8 : Int64) (isB9 : Bool) =>
nm (v5 + 1) (fun (x10 : Int32) =>
rec3 v8 x10 isB9)) (fun k7 =>
if (v5 &&& (a2 ^^^ (-1)) : Int32) = 0 then (
if (v5 &&& x1 : Int32) = 0 then (
k7 v4 isB6) else (
(f_X6_v g a1 v5).bind (fun (r11 : Int64) =>
ck (inb (a2 &&& (v5 ^^^ (-1))) 512) (
(f_X6_plus isB6 r11 (nx (a2 &&& (v5 ^^^ (-1))).toNatClampNeg)).bind (fun (r12 : Int64 × Bool) =>
nm (lMax v4 r12.1) (fun (x13 : Int64) =>
k7 x13 r12.2)))))) else (
k7 v4 isB6))) else (
some (v4, isB6))
def L_X6_covered_1 (g : Nat → Int64) (nx : Nat → Int64) (a1 : Int32) (a2 : Int32) (x1 : Int32)  : Nat → Int64 → Int32 → Bool → Option (Int64 × Bool)
  | 0, _, _, _ => none
  | m9 + 1, v4, v5, isB6 => B_X6_covered_1 g nx a1 a2 x1 (L_X6_covered_1 g nx a1 a2 x1 m9)  v4 v5 isB6

def f_X6_covered (isB : Bool) (g : Nat → Int64) (nx : Nat → Int64) (a1 : Int32) (a2 : Int32) : Option (Int64 × Bool) :=
nm (a2 &&& (-a2)) (fun (x1 : Int32) =>
(f_X6_v g a1 a2).bind (fun (r2 : Int64) =>
L_X6_covered_1 g nx a1 a2 x1  FU r2 x1 isB))

theorem nI_X6_covered : NameIn yX6_covered 2 := ⟨by decide +kernel, by decide +kernel, by decide +kernel⟩
set_option maxRecDepth 100000 in
set_option maxHeartbeats 4000000 in
theorem lp_X6_covered_1 {X : CX} {res : Int64 × Bool} {a1 : Int32} {a2 : Int32}  {x1 : Int32} (hq : (mA q).Nodup) (hNK : NOK N) (C : Ok X cX6_covered 7 (some .long) wsX6_covered RX6 { frames := 1, cells := 0, slots := 0, locals := 26 } D vwCl (mT cs) (mA q) N (some (.long res.1)) (mW q cs isK res.2 fed at_ ltr ab ps g kp nx fa tp rs rv ct it))  : ∀ fuel : Nat, ∀ v4 : Int64, ∀ v5 : Int32, ∀ isB6 : Bool, VF X res (L_X6_covered_1 g nx a1 a2 x1 fuel v4 v5 isB6) (mW q cs isK isB6 fed at_ ltr ab ps g kp nx fa tp rs rv ct it) 16 [(0, .ref (q 0)), (1, .int a1), (2, .int a2), (3, .int x1), (4, .long v4), (6, .int v5)] [] := by
  have iX6 : ∀ w ∈ wsX60, w ∈ wsX6_covered := fun _ h => List.mem_cons_of_mem _ (List.mem_append_right _ h)
  intro fuel
  induction fuel with
  | zero =>
    intro _ _ _
    exact v_none
  | succ fuel ih =>
    intro v4 v5 isB6
    show VF X res (B_X6_covered_1 g nx a1 a2 x1 (L_X6_covered_1 g nx a1 a2 x1 fuel)  v4 v5 isB6) _ _ _ _
    unfold B_X6_covered_1
    refine v_iload C 5 dX6_covered_16 rfl ?_
    refine v_iload_n C 2 dX6_covered_18 rfl ?_
    refine v_icmp_ge C dX6_covered_19 (tgt := 73) (by decide) ?_ ?_
    · refine v_lload C 4 dX6_covered_73 rfl ?_
      exact v_lret (rvf := fun (res : Int64 × Bool) => (some (.long res.1))) (wf := fun (res : Int64 × Bool) => (mW q cs isK res.2 fed at_ ltr ab ps g kp nx fa tp rs rv ct it)) C dX6_covered_75 rfl rfl
    · refine v_iload C 5 dX6_covered_22 rfl ?_
      refine v_iload_n C 2 dX6_covered_24 rfl ?_
      refine v_iconst C dX6_covered_25 (v := (-1)) (by decide) ?_
      refine v_ixor C dX6_covered_26 ?_
      refine v_iand C dX6_covered_27 ?_
      refine v_jn2 (wj := (fun v8 isB9 => (mW q cs isK isB9 fed at_ ltr ab ps g kp nx fa tp rs rv ct it))) (pcj := 67) (lvj := (fun v8 isB9 => [(0, .ref (q 0)), (1, .int a1), (2, .int a2), (3, .int x1), (4, .long v8), (6, .int v5)])) (stj := (fun v8 isB9 => [])) (fun v8 isB9 => ?_) (fun k7 hk7 => ?_)
      · refine v_iinc_nm C (lvf := fun x10 => [(6, .int x10), (0, .ref (q 0)), (1, .int a1), (2, .int a2), (3, .int x1), (4, .long v8)]) 5 dX6_covered_67 rfl rfl (by decide) (fun _ => rfl) (fun x10 => ?_)
        refine v_goto C dX6_covered_70 (tgt := 16) (by decide) ?_
        exact v_sub [1, 2, 3, 4, 5, 0] rfl (ih v8 x10 isB9)
      · refine v_if_ne C dX6_covered_28 (tgt := 67) (by decide) ?_ ?_
        · exact v_sub [0, 1, 2, 3, 4, 5] rfl (hk7 v4 isB6)
        · refine v_iload C 5 dX6_covered_31 rfl ?_
          refine v_iload_n C 3 dX6_covered_33 rfl ?_
          refine v_iand C dX6_covered_34 ?_
          refine v_if_eq C dX6_covered_35 (tgt := 67) (by decide) ?_ ?_
          · exact v_sub [0, 1, 2, 3, 4, 5] rfl (hk7 v4 isB6)
          · refine v_lload C 4 dX6_covered_38 rfl ?_
            refine v_aload_n C 0 dX6_covered_40 rfl ?_
            refine v_aload_n C 0 dX6_covered_41 rfl ?_
            refine v_iload_n C 1 dX6_covered_42 rfl ?_
            refine v_iload C 5 dX6_covered_43 rfl ?_
            refine v_callV2v C 0 rfl rfl rfl (fun l9 r9 h9 => k_X6_v (l := l9) hq hNK  h9) gX6_covered_X6_v rfl nI_X6_v ⟨rfl, rfl, Nat.le_of_ble_eq_true rfl, Nat.le_of_ble_eq_true rfl⟩ dX6_covered_45 (Nat.le_of_ble_eq_true rfl) (fun r11 => ?_)
            refine v_aload_n C 0 dX6_covered_48 rfl ?_
            refine v_get C (T := TX6) (n := 16) (C9 := RX6) iX6 0 rfl rfl 2 (by decide) (List.mem_of_getElem? (i := 1) rfl) rfl rfl dX6_covered_49 ?_
            refine v_iload_n C 2 dX6_covered_52 rfl ?_
            refine v_iload C 5 dX6_covered_53 rfl ?_
            refine v_iconst C dX6_covered_55 (v := (-1)) (by decide) ?_
            refine v_ixor C dX6_covered_56 ?_
            refine v_iand C dX6_covered_57 ?_
            refine v_lald C 3 1 rfl rfl dX6_covered_58 ?_
            refine v_callV2v C 0 rfl rfl rfl (fun l9 r9 h9 => k_X6_plus (l := l9) hq hNK  h9) gX6_covered_X6_plus rfl nI_X6_plus ⟨rfl, rfl, Nat.le_of_ble_eq_true rfl, Nat.le_of_ble_eq_true rfl⟩ dX6_covered_59 (Nat.le_of_ble_eq_true rfl) (fun r12 => ?_)
            refine v_mmaxl C (List.mem_of_getElem? (i := 2) rfl) (List.mem_of_getElem? (i := 3) rfl) (List.mem_of_getElem? (i := 4) rfl) (List.mem_of_getElem? (i := 5) rfl) (Nat.le_of_ble_eq_true rfl) (Nat.le_of_ble_eq_true rfl) dX6_covered_62 ?_
            refine v_lstore_nm C (lvf := fun x13 => [(4, .long x13), (0, .ref (q 0)), (1, .int a1), (2, .int a2), (3, .int x1), (6, .int v5)]) dX6_covered_65 (by decide) (fun _ => rfl) (fun x13 => ?_)
            exact v_sub [1, 2, 3, 4, 0, 5] rfl (hk7 x13 r12.2)

set_option maxRecDepth 100000 in
set_option maxHeartbeats 4000000 in
theorem k_X6_covered {l : Launch} {a1 : Int32} {a2 : Int32}  {res : Int64 × Bool} (hq : (mA q).Nodup) (hNK : NOK N)  (hf : f_X6_covered isB g nx a1 a2 = some res) : kMet l yX6_covered wsX6_covered { frames := 1, cells := 0, slots := 0, locals := 26 } D vwCl (mT cs) N (mA q) [.ref (q 0), .int a1, .int a2] (mW q cs isK isB fed at_ ltr ab ps g kp nx fa tp rs rv ct it) (some (.long res.1)) (mW q cs isK res.2 fed at_ ltr ab ps g kp nx fa tp rs rv ct it) := by
  refine kMet.of (cc := cX6_covered) (nL := 7) (ret := (some .long)) (own := RX6) (lv := [(0, .ref (q 0)), (1, .int a1), (2, .int a2)]) (by decide +kernel) rfl rfl hNK hq (Nat.le_of_ble_eq_true rfl) rfl (fun X C => ?_)
  refine VF.of hf ?_
  unfold f_X6_covered
  refine v_iload_n C 2 dX6_covered_0 rfl ?_
  refine v_iload_n C 2 dX6_covered_1 rfl ?_
  refine v_ineg C dX6_covered_2 ?_
  refine v_iand C dX6_covered_3 ?_
  refine v_istore_n_nm C (lvf := fun x1 => [(3, .int x1), (0, .ref (q 0)), (1, .int a1), (2, .int a2)]) dX6_covered_4 rfl (by decide) (fun _ => rfl) (fun x1 => ?_)
  refine v_aload_n C 1 dX6_covered_5 rfl ?_
  refine v_iload_n C 2 dX6_covered_6 rfl ?_
  refine v_iload_n C 3 dX6_covered_7 rfl ?_
  refine v_callV2v C 0 rfl rfl rfl (fun l9 r9 h9 => k_X6_v (l := l9) hq hNK  h9) gX6_covered_X6_v rfl nI_X6_v ⟨rfl, rfl, Nat.le_of_ble_eq_true rfl, Nat.le_of_ble_eq_true rfl⟩ dX6_covered_8 (Nat.le_of_ble_eq_true rfl) (fun r2 => ?_)
  refine v_lstore C (lv' := [(4, .long r2), (3, .int x1), (0, .ref (q 0)), (1, .int a1), (2, .int a2)]) dX6_covered_11 (by decide) rfl ?_
  refine v_iload_n C 1 dX6_covered_13 rfl ?_
  refine v_istore C (lv' := [(6, .int x1), (4, .long r2), (3, .int x1), (0, .ref (q 0)), (1, .int a1), (2, .int a2)]) dX6_covered_14 (by decide) rfl ?_
  refine v_sub [3, 4, 5, 2, 1, 0] rfl (lp_X6_covered_1 hq hNK C   FU r2 x1 isB)

end WK
