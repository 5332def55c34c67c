section WK
variable {q : Nat → Nat} {cs : Nat → ClassId} {D : va_G} {N : (Nat → Prop) → State → Prop} {isK : Bool} {isB : Bool} {fed : Int32} {at_ : Int32} {ltr : Int32} {ab : Int64} {ps : Nat} {g : Nat → Int64} {kp : Nat → Int64} {nx : Nat → Int64} {fa : Nat → Int64} {tp : Nat → Int32} {rs : Nat → Int32} {rv : Nat → Int64} {ct : Nat → Int32} {it : Nat → Int64}
def B_X6_isLeast_1 (g : Nat → Int64) (a1 : Int32) (rec2 : Int32 → Option (Bool))  (v3 : Int32) : Option (Bool) :=
(f_X6_n g).bind (fun (r4 : Int32) =>
if (v3 : Int32) < r4 then (
(f_X6_has a1 v3).bind (fun (r5 : Bool) =>
jn0 (nm (v3 + 1) (fun (x7 : Int32) =>
rec2 x7)) (fun k6 =>
if r5 = true then (
(f_X6_wins g (a1 &&& ((1 <<< (v3 &&& 31)) ^^^ (-1)))).bind (fun (r8 : Bool) =>
if r8 = true then (
some false) else (
k6))) else (
k6)))) else (
some true))
def L_X6_isLeast_1 (g : Nat → Int64) (a1 : Int32)  : Nat → Int32 → Option (Bool)
  | 0, _ => none
  | m9 + 1, v3 => B_X6_isLeast_1 g a1 (L_X6_isLeast_1 g a1 m9)  v3

def f_X6_isLeast (g : Nat → Int64) (a1 : Int32) : Option (Bool) :=
(f_X6_wins g a1).bind (fun (r1 : Bool) =>
if r1 = true then (
L_X6_isLeast_1 g a1  FU 0) else (
some false))

theorem nI_X6_isLeast : NameIn yX6_isLeast 1 := ⟨by decide +kernel, by decide +kernel, by decide +kernel⟩
set_option maxRecDepth 100000 in
set_option maxHeartbeats 4000000 in
theorem lp_X6_isLeast_1 {X : CX} {res : Bool} {a1 : Int32}   (hq : (mA q).Nodup) (hNK : NOK N) (C : Ok X cX6_isLeast 3 (some .boolean) wsX6_isLeast RX6 { frames := 3, cells := 0, slots := 0, locals := 66 } D vwCl (mT cs) (mA q) N (some (.int (bI res))) (mW q cs isK isB fed at_ ltr ab ps g kp nx fa tp rs rv ct it))  : ∀ fuel : Nat, ∀ v3 : Int32, VF X res (L_X6_isLeast_1 g a1 fuel v3) (mW q cs isK isB fed at_ ltr ab ps g kp nx fa tp rs rv ct it) 12 [(0, .ref (q 0)), (1, .int a1), (2, .int v3)] [] := by
  intro fuel
  induction fuel with
  | zero =>
    intro _
    exact v_none
  | succ fuel ih =>
    intro v3
    show VF X res (B_X6_isLeast_1 g a1 (L_X6_isLeast_1 g a1 fuel)  v3) _ _ _ _
    unfold B_X6_isLeast_1
    refine v_iload_n C 2 dX6_isLeast_12 rfl ?_
    refine v_aload_n C 0 dX6_isLeast_13 rfl ?_
    refine v_callV0v C 0 rfl rfl rfl (fun l9 r9 h9 => k_X6_n (l := l9) hq hNK  h9) gX6_isLeast_X6_n rfl nI_X6_n ⟨rfl, rfl, Nat.le_of_ble_eq_true rfl, Nat.le_of_ble_eq_true rfl⟩ dX6_isLeast_14 (Nat.le_of_ble_eq_true rfl) (fun r4 => ?_)
    refine v_icmp_ge C dX6_isLeast_17 (tgt := 50) (by decide) ?_ ?_
    · refine v_iconst C dX6_isLeast_50 (v := 1) (by decide) ?_
      exact v_zret (rvf := fun (res : Bool) => (some (.int (bI res)))) (wf := fun (res : Bool) => (mW q cs isK isB fed at_ ltr ab ps g kp nx fa tp rs rv ct it)) C dX6_isLeast_51 rfl rfl
    · refine v_iload_n C 1 dX6_isLeast_20 rfl ?_
      refine v_iload_n C 2 dX6_isLeast_21 rfl ?_
      refine v_callSP2v C (fun l9 r9 h9 => k_X6_has (l := l9) h9) gX6_isLeast_X6_has rfl nI_X6_has ⟨rfl, rfl, Nat.le_of_ble_eq_true rfl, Nat.le_of_ble_eq_true rfl⟩ dX6_isLeast_22 (Nat.le_of_ble_eq_true rfl) (fun r5 => ?_)
      refine v_jn0 (wj := ((mW q cs isK isB fed at_ ltr ab ps g kp nx fa tp rs rv ct it))) (pcj := 44) (lvj := ([(0, .ref (q 0)), (1, .int a1), (2, .int v3)])) (stj := ([])) ?_ (fun k6 hk6 => ?_)
      · refine v_iinc_nm C (lvf := fun x7 => [(2, .int x7), (0, .ref (q 0)), (1, .int a1)]) 2 dX6_isLeast_44 rfl rfl (by decide) (fun _ => rfl) (fun x7 => ?_)
        refine v_goto C dX6_isLeast_47 (tgt := 12) (by decide) ?_
        exact v_sub [1, 2, 0] rfl (ih x7)
      · refine v_ifb_eq C (b := r5) dX6_isLeast_25 (tgt := 44) (by decide) ?_ ?_
        · exact v_sub [0, 1, 2] rfl (hk6)
        · refine v_aload_n C 0 dX6_isLeast_28 rfl ?_
          refine v_iload_n C 1 dX6_isLeast_29 rfl ?_
          refine v_iconst C dX6_isLeast_30 (v := 1) (by decide) ?_
          refine v_iload_n C 2 dX6_isLeast_31 rfl ?_
          refine v_ishl C dX6_isLeast_32 ?_
          refine v_iconst C dX6_isLeast_33 (v := (-1)) (by decide) ?_
          refine v_ixor C dX6_isLeast_34 ?_
          refine v_iand C dX6_isLeast_35 ?_
          refine v_callV1v C 0 rfl rfl rfl (fun l9 r9 h9 => k_X6_wins (l := l9) hq hNK  h9) gX6_isLeast_X6_wins rfl nI_X6_wins ⟨rfl, rfl, Nat.le_of_ble_eq_true rfl, Nat.le_of_ble_eq_true rfl⟩ dX6_isLeast_36 (Nat.le_of_ble_eq_true rfl) (fun r8 => ?_)
          refine v_ifb_eq C (b := r8) dX6_isLeast_39 (tgt := 44) (by decide) ?_ ?_
          · exact v_sub [0, 1, 2] rfl (hk6)
          · refine v_iconst C dX6_isLeast_42 (v := 0) (by decide) ?_
            exact v_zret (rvf := fun (res : Bool) => (some (.int (bI res)))) (wf := fun (res : Bool) => (mW q cs isK isB fed at_ ltr ab ps g kp nx fa tp rs rv ct it)) C dX6_isLeast_43 rfl rfl

set_option maxRecDepth 100000 in
set_option maxHeartbeats 4000000 in
theorem k_X6_isLeast {l : Launch} {a1 : Int32}  {res : Bool} (hq : (mA q).Nodup) (hNK : NOK N)  (hf : f_X6_isLeast g a1 = some res) : kMet l yX6_isLeast wsX6_isLeast { frames := 3, cells := 0, slots := 0, locals := 66 } D vwCl (mT cs) N (mA q) [.ref (q 0), .int a1] (mW q cs isK isB fed at_ ltr ab ps g kp nx fa tp rs rv ct it) (some (.int (bI res))) (mW q cs isK isB fed at_ ltr ab ps g kp nx fa tp rs rv ct it) := by
  refine kMet.of (cc := cX6_isLeast) (nL := 3) (ret := (some .boolean)) (own := RX6) (lv := [(0, .ref (q 0)), (1, .int a1)]) (by decide +kernel) rfl rfl hNK hq (Nat.le_of_ble_eq_true rfl) rfl (fun X C => ?_)
  refine VF.of hf ?_
  unfold f_X6_isLeast
  refine v_aload_n C 0 dX6_isLeast_0 rfl ?_
  refine v_iload_n C 1 dX6_isLeast_1 rfl ?_
  refine v_callV1v C 0 rfl rfl rfl (fun l9 r9 h9 => k_X6_wins (l := l9) hq hNK  h9) gX6_isLeast_X6_wins rfl nI_X6_wins ⟨rfl, rfl, Nat.le_of_ble_eq_true rfl, Nat.le_of_ble_eq_true rfl⟩ dX6_isLeast_2 (Nat.le_of_ble_eq_true rfl) (fun r1 => ?_)
  refine v_ifb_ne C (b := r1) dX6_isLeast_5 (tgt := 10) (by decide) ?_ ?_
  · refine v_iconst C dX6_isLeast_10 (v := 0) (by decide) ?_
    refine v_istore_n C (lv' := [(2, .int 0), (0, .ref (q 0)), (1, .int a1)]) dX6_isLeast_11 rfl (by decide) rfl ?_
    refine v_sub [1, 2, 0] rfl (lp_X6_isLeast_1 hq hNK C   FU 0)
  · refine v_iconst C dX6_isLeast_8 (v := 0) (by decide) ?_
    exact v_zret (rvf := fun (res : Bool) => (some (.int (bI res)))) (wf := fun (res : Bool) => (mW q cs isK isB fed at_ ltr ab ps g kp nx fa tp rs rv ct it)) C dX6_isLeast_9 rfl rfl

def B_X6_holder_1 (g : Nat → Int64) (fa : Nat → Int64) (a1 : Int32) (rec3 : Int64 → Int64 → Int32 → Option (Int64)) (kx4 : Int64 → Int64 → Option (Int64)) (v5 : Int64) (v6 : Int64) (v7 : Int32) : Option (Int64) :=
(f_X6_all g).bind (fun (r8 : Int32) =>
if (r8 : Int32) < v7 then (
kx4 v5 v6) else (
(f_X6_isLeast g v7).bind (fun (r9 : Bool) =>
jn2 (fun (v11 : Int64) (v12 : Int64) =>
nm (v7 + 1) (fun (x13 : Int32) =>
rec3 v11 v12 x13)) (fun k10 =>
if r9 = true then (
nm (v6 + 1) (fun (x14 : Int64) =>
(f_X6_has v7 a1).bind (fun (r15 : Bool) =>
jn1 (fun (v17 : Int64) =>
nm (v5 + v17) (fun (x18 : Int64) =>
k10 x18 x14)) (fun k16 =>
if r15 = true then (
ck (inb (9 : Int32) 10) (
(f_X6_size v7).bind (fun (r19 : Int32) =>
ck ((r19.toInt64 : Int64) != 0) (
k16 ((fa (9 : Int32).toNatClampNeg) / r19.toInt64))))) else (
k16 0))))) else (
k10 v5 v6)))))
def L_X6_holder_1 (g : Nat → Int64) (fa : Nat → Int64) (a1 : Int32) (kx4 : Int64 → Int64 → Option (Int64)) : Nat → Int64 → Int64 → Int32 → Option (Int64)
  | 0, _, _, _ => none
  | m9 + 1, v5, v6, v7 => B_X6_holder_1 g fa a1 (L_X6_holder_1 g fa a1 kx4 m9) kx4 v5 v6 v7

def f_X6_holder (g : Nat → Int64) (fa : Nat → Int64) (a1 : Int32) (a2 : Int32) : Option (Int64) :=
(f_X6_isPartner g a1).bind (fun (r1 : Bool) =>
if r1 = true then (
(f_X6_isIn a2.toInt64 0 1).bind (fun (r2 : Bool) =>
if r2 = true then (
L_X6_holder_1 g fa a1 (fun (v20 : Int64) (v21 : Int64) =>
if (v21 : Int64) = 0 then (
some a2.toInt64) else (
ck (inb (9 : Int32) 10) (
(f_X6_part v20 (v21 * (fa (9 : Int32).toNatClampNeg)) a2).bind (fun (r22 : Int64) =>
some r22)))) FU 0 0 1) else (
some (-9223372036854775808)))) else (
some (-9223372036854775808)))

theorem nI_X6_holder : NameIn yX6_holder 2 := ⟨by decide +kernel, by decide +kernel, by decide +kernel⟩
set_option maxRecDepth 100000 in
set_option maxHeartbeats 4000000 in
theorem lp_X6_holder_1 {X : CX} {res : Int64} {a1 : Int32} {a2 : Int32}   (hq : (mA q).Nodup) (hNK : NOK N) (C : Ok X cX6_holder 8 (some .long) wsX6_holder RX6 { frames := 4, cells := 0, slots := 0, locals := 88 } D vwCl (mT cs) (mA q) N (some (.long res)) (mW q cs isK isB fed at_ ltr ab ps g kp nx fa tp rs rv ct it))  (kx4 : Int64 → Int64 → Option (Int64)) (Jkx4 : ∀ y3 : Int64, ∀ y5 : Int64, VF X res (kx4 y3 y5) (mW q cs isK isB fed at_ ltr ab ps g kp nx fa tp rs rv ct it) 93 [(0, .ref (q 0)), (2, .int a2), (3, .long y3), (5, .long y5)] []) : ∀ fuel : Nat, ∀ v5 : Int64, ∀ v6 : Int64, ∀ v7 : Int32, VF X res (L_X6_holder_1 g fa a1 kx4 fuel v5 v6 v7) (mW q cs isK isB fed at_ ltr ab ps g kp nx fa tp rs rv ct it) 30 [(0, .ref (q 0)), (1, .int a1), (2, .int a2), (3, .long v5), (5, .long v6), (7, .int v7)] [] := by
  have iX6 : ∀ w ∈ wsX60, w ∈ wsX6_holder := fun _ h => List.mem_cons_of_mem _ (List.mem_append_right _ h)
  intro fuel
  induction fuel with
  | zero =>
    intro _ _ _
    exact v_none
  | succ fuel ih =>
    intro v5 v6 v7
    show VF X res (B_X6_holder_1 g fa a1 (L_X6_holder_1 g fa a1 kx4 fuel) kx4 v5 v6 v7) _ _ _ _
    unfold B_X6_holder_1
    refine v_iload C 5 dX6_holder_30 rfl ?_
    refine v_aload_n C 0 dX6_holder_32 rfl ?_
    refine v_callV0v C 0 rfl rfl rfl (fun l9 r9 h9 => k_X6_all (l := l9) hq hNK  h9) gX6_holder_X6_all rfl nI_X6_all ⟨rfl, rfl, Nat.le_of_ble_eq_true rfl, Nat.le_of_ble_eq_true rfl⟩ dX6_holder_33 (Nat.le_of_ble_eq_true rfl) (fun r8 => ?_)
    refine v_icmp_gt C dX6_holder_36 (tgt := 93) (by decide) ?_ ?_
    · exact v_sub [0, 2, 3, 4] rfl (Jkx4 v5 v6)
    · refine v_aload_n C 0 dX6_holder_39 rfl ?_
      refine v_iload C 5 dX6_holder_40 rfl ?_
      refine v_callV1v C 0 rfl rfl rfl (fun l9 r9 h9 => k_X6_isLeast (l := l9) hq hNK  h9) gX6_holder_X6_isLeast rfl nI_X6_isLeast ⟨rfl, rfl, Nat.le_of_ble_eq_true rfl, Nat.le_of_ble_eq_true rfl⟩ dX6_holder_42 (Nat.le_of_ble_eq_true rfl) (fun r9 => ?_)
      refine v_jn2 (wj := (fun v11 v12 => (mW q cs isK isB fed at_ ltr ab ps g kp nx fa tp rs rv ct it))) (pcj := 87) (lvj := (fun v11 v12 => [(0, .ref (q 0)), (1, .int a1), (2, .int a2), (3, .long v11), (5, .long v12), (7, .int v7)])) (stj := (fun v11 v12 => [])) (fun v11 v12 => ?_) (fun k10 hk10 => ?_)
      · refine v_iinc_nm C (lvf := fun x13 => [(7, .int x13), (0, .ref (q 0)), (1, .int a1), (2, .int a2), (3, .long v11), (5, .long v12)]) 5 dX6_holder_87 rfl rfl (by decide) (fun _ => rfl) (fun x13 => ?_)
        refine v_goto C dX6_holder_90 (tgt := 30) (by decide) ?_
        exact v_sub [1, 2, 3, 4, 5, 0] rfl (ih v11 v12 x13)
      · refine v_ifb_ne C (b := r9) dX6_holder_45 (tgt := 51) (by decide) ?_ ?_
        · refine v_lload C 4 dX6_holder_51 rfl ?_
          refine v_lconst C dX6_holder_53 (v := 1) (by decide) ?_
          refine v_ladd C dX6_holder_54 ?_
          refine v_lstore_nm C (lvf := fun x14 => [(5, .long x14), (0, .ref (q 0)), (1, .int a1), (2, .int a2), (3, .long v5), (7, .int v7)]) dX6_holder_55 (by decide) (fun _ => rfl) (fun x14 => ?_)
          refine v_lload_n C 4 dX6_holder_57 rfl ?_
          refine v_iload C 5 dX6_holder_58 rfl ?_
          refine v_iload_n C 2 dX6_holder_60 rfl ?_
          refine v_callSP2v C (fun l9 r9 h9 => k_X6_has (l := l9) h9) gX6_holder_X6_has rfl nI_X6_has ⟨rfl, rfl, Nat.le_of_ble_eq_true rfl, Nat.le_of_ble_eq_true rfl⟩ dX6_holder_61 (Nat.le_of_ble_eq_true rfl) (fun r15 => ?_)
          refine v_jn1 (wj := (fun v17 => (mW q cs isK isB fed at_ ltr ab ps g kp nx fa tp rs rv ct it))) (pcj := 85) (lvj := (fun v17 => [(0, .ref (q 0)), (1, .int a1), (2, .int a2), (5, .long x14), (7, .int v7)])) (stj := (fun v17 => [.long v17, .long v5])) (fun v17 => ?_) (fun k16 hk16 => ?_)
          · refine v_ladd C dX6_holder_85 ?_
            refine v_lstore_n_nm C (lvf := fun x18 => [(3, .long x18), (0, .ref (q 0)), (1, .int a1), (2, .int a2), (5, .long x14), (7, .int v7)]) dX6_holder_86 rfl (by decide) (fun _ => rfl) (fun x18 => ?_)
            exact v_sub [1, 2, 3, 0, 4, 5] rfl (hk10 x18 x14)
          · refine v_ifb_eq C (b := r15) dX6_holder_64 (tgt := 84) (by decide) ?_ ?_
            · refine v_lconst C dX6_holder_84 (v := 0) (by decide) ?_
              exact v_sub [1, 2, 3, 0, 5] rfl (hk16 0)
            · refine v_aload_n C 1 dX6_holder_67 rfl ?_
              refine v_get C (T := TX6) (n := 16) (C9 := RX6) iX6 0 rfl rfl 3 (by decide) (List.mem_of_getElem? (i := 2) rfl) rfl rfl dX6_holder_68 ?_
              refine v_bipush C dX6_holder_71 (v := 9) (by decide) ?_
              refine v_lald C 4 1 rfl rfl dX6_holder_73 ?_
              refine v_iload C 5 dX6_holder_74 rfl ?_
              refine v_callSP1v C (fun l9 r9 h9 => k_X6_size (l := l9) h9) gX6_holder_X6_size rfl nI_X6_size ⟨rfl, rfl, Nat.le_of_ble_eq_true rfl, Nat.le_of_ble_eq_true rfl⟩ dX6_holder_76 (Nat.le_of_ble_eq_true rfl) (fun r19 => ?_)
              refine v_i2l C dX6_holder_79 ?_
              refine v_ldiv C dX6_holder_80 ?_
              refine v_goto C dX6_holder_81 (tgt := 85) (by decide) ?_
              exact v_sub [1, 2, 3, 0, 5] rfl (hk16 ((fa (9 : Int32).toNatClampNeg) / r19.toInt64))
        · refine v_goto C dX6_holder_48 (tgt := 87) (by decide) ?_
          exact v_sub [0, 1, 2, 3, 4, 5] rfl (hk10 v5 v6)

set_option maxRecDepth 100000 in
set_option maxHeartbeats 4000000 in
theorem k_X6_holder {l : Launch} {a1 : Int32} {a2 : Int32}  {res : Int64} (hq : (mA q).Nodup) (hNK : NOK N)  (hf : f_X6_holder g fa a1 a2 = some res) : kMet l yX6_holder wsX6_holder { frames := 4, cells := 0, slots := 0, locals := 88 } D vwCl (mT cs) N (mA q) [.ref (q 0), .int a1, .int a2] (mW q cs isK isB fed at_ ltr ab ps g kp nx fa tp rs rv ct it) (some (.long res)) (mW q cs isK isB fed at_ ltr ab ps g kp nx fa tp rs rv ct it) := by
  have iX6 : ∀ w ∈ wsX60, w ∈ wsX6_holder := fun _ h => List.mem_cons_of_mem _ (List.mem_append_right _ h)
  refine kMet.of (cc := cX6_holder) (nL := 8) (ret := (some .long)) (own := RX6) (lv := [(0, .ref (q 0)), (1, .int a1), (2, .int a2)]) (by decide +kernel) rfl rfl hNK hq (Nat.le_of_ble_eq_true rfl) rfl (fun X C => ?_)
  refine VF.of hf ?_
  unfold f_X6_holder
  refine v_aload_n C 0 dX6_holder_0 rfl ?_
  refine v_iload_n C 1 dX6_holder_1 rfl ?_
  refine v_callV1v C 0 rfl rfl rfl (fun l9 r9 h9 => k_X6_isPartner (l := l9) hq hNK  h9) gX6_holder_X6_isPartner rfl nI_X6_isPartner ⟨rfl, rfl, Nat.le_of_ble_eq_true rfl, Nat.le_of_ble_eq_true rfl⟩ dX6_holder_2 (Nat.le_of_ble_eq_true rfl) (fun r1 => ?_)
  refine v_ifb_eq C (b := r1) dX6_holder_5 (tgt := 18) (by decide) ?_ ?_
  · refine v_ldc2 C (v := (-9223372036854775808)) (List.mem_of_getElem? (i := 1) rfl) dX6_holder_18 ?_
    exact v_lret (rvf := fun (res : Int64) => (some (.long res))) (wf := fun (res : Int64) => (mW q cs isK isB fed at_ ltr ab ps g kp nx fa tp rs rv ct it)) C dX6_holder_21 rfl rfl
  · refine v_iload_n C 2 dX6_holder_8 rfl ?_
    refine v_i2l C dX6_holder_9 ?_
    refine v_lconst C dX6_holder_10 (v := 0) (by decide) ?_
    refine v_lconst C dX6_holder_11 (v := 1) (by decide) ?_
    refine v_callSP3v C (fun l9 r9 h9 => k_X6_isIn (l := l9) h9) gX6_holder_X6_isIn rfl nI_X6_isIn ⟨rfl, rfl, Nat.le_of_ble_eq_true rfl, Nat.le_of_ble_eq_true rfl⟩ dX6_holder_12 (Nat.le_of_ble_eq_true rfl) (fun r2 => ?_)
    refine v_ifb_ne C (b := r2) dX6_holder_15 (tgt := 22) (by decide) ?_ ?_
    · refine v_lconst C dX6_holder_22 (v := 0) (by decide) ?_
      refine v_lstore_n C (lv' := [(3, .long 0), (0, .ref (q 0)), (1, .int a1), (2, .int a2)]) dX6_holder_23 rfl (by decide) rfl ?_
      refine v_lconst C dX6_holder_24 (v := 0) (by decide) ?_
      refine v_lstore C (lv' := [(5, .long 0), (3, .long 0), (0, .ref (q 0)), (1, .int a1), (2, .int a2)]) dX6_holder_25 (by decide) rfl ?_
      refine v_iconst C dX6_holder_27 (v := 1) (by decide) ?_
      refine v_istore C (lv' := [(7, .int 1), (5, .long 0), (3, .long 0), (0, .ref (q 0)), (1, .int a1), (2, .int a2)]) dX6_holder_28 (by decide) rfl ?_
      refine v_sub [3, 4, 5, 2, 1, 0] rfl (lp_X6_holder_1 hq hNK C  _ (fun v20 v21 => ?_) FU 0 0 1)
      refine v_lload C 3 dX6_holder_93 rfl ?_
      refine v_lconst C dX6_holder_95 (v := 0) (by decide) ?_
      refine v_lcmp_ne C dX6_holder_96 dX6_holder_97 (tgt := 105) (by decide) ?_ ?_
      · refine v_lload_n C 2 dX6_holder_105 rfl ?_
        refine v_lload C 3 dX6_holder_106 rfl ?_
        refine v_aload_n C 0 dX6_holder_108 rfl ?_
        refine v_get C (T := TX6) (n := 16) (C9 := RX6) iX6 0 rfl rfl 3 (by decide) (List.mem_of_getElem? (i := 2) rfl) rfl rfl dX6_holder_109 ?_
        refine v_bipush C dX6_holder_112 (v := 9) (by decide) ?_
        refine v_lald C 4 1 rfl rfl dX6_holder_114 ?_
        refine v_lmul C dX6_holder_115 ?_
        refine v_iload_n C 1 dX6_holder_116 rfl ?_
        refine v_callSP3v C (fun l9 r9 h9 => k_X6_part (l := l9) h9) gX6_holder_X6_part rfl nI_X6_part ⟨rfl, rfl, Nat.le_of_ble_eq_true rfl, Nat.le_of_ble_eq_true rfl⟩ dX6_holder_117 (Nat.le_of_ble_eq_true rfl) (fun r22 => ?_)
        exact v_lret (rvf := fun (res : Int64) => (some (.long res))) (wf := fun (res : Int64) => (mW q cs isK isB fed at_ ltr ab ps g kp nx fa tp rs rv ct it)) C dX6_holder_120 rfl rfl
      · refine v_iload_n C 1 dX6_holder_100 rfl ?_
        refine v_i2l C dX6_holder_101 ?_
        refine v_goto C dX6_holder_102 (tgt := 120) (by decide) ?_
        exact v_lret (rvf := fun (res : Int64) => (some (.long res))) (wf := fun (res : Int64) => (mW q cs isK isB fed at_ ltr ab ps g kp nx fa tp rs rv ct it)) C dX6_holder_120 rfl rfl
    · refine v_ldc2 C (v := (-9223372036854775808)) (List.mem_of_getElem? (i := 1) rfl) dX6_holder_18 ?_
      exact v_lret (rvf := fun (res : Int64) => (some (.long res))) (wf := fun (res : Int64) => (mW q cs isK isB fed at_ ltr ab ps g kp nx fa tp rs rv ct it)) C dX6_holder_21 rfl rfl

def B_X6_votes_1 (g : Nat → Int64) (a1 : Int32) (rec2 : Int32 → Int32 → Int32 → Option (Int32)) (kx3 : Int32 → Int32 → Option (Int32)) (v4 : Int32) (v5 : Int32) (v6 : Int32) : Option (Int32) :=
(f_X6_all g).bind (fun (r7 : Int32) =>
if (r7 : Int32) < v6 then (
kx3 v4 v5) else (
jn1 (fun (v9 : Int32) =>
nm (v4 + v9) (fun (x10 : Int32) =>
(f_X6_wins g v6).bind (fun (r11 : Bool) =>
jn1 (fun (v13 : Int32) =>
nm (v6 + 1) (fun (x14 : Int32) =>
rec2 x10 v13 x14)) (fun k12 =>
if r11 = true then (
jn0 (k12 v6) (fun k15 =>
if (v5 : Int32) < 0 then (
k15) else (
(f_X6_size v6).bind (fun (r16 : Int32) =>
(f_X6_size v5).bind (fun (r17 : Int32) =>
if (r16 : Int32) < r17 then (
k15) else (
k12 v5)))))) else (
k12 v5))))) (fun k8 =>
jn0 (k8 1) (fun k18 =>
jn0 (jn0 (k8 0) (fun k20 =>
if (a1 : Int32) = 1 then (
(f_X6_isLeast g v6).bind (fun (r21 : Bool) =>
if r21 = true then (
k18) else (
k20))) else (
k20))) (fun k19 =>
if (a1 : Int32) = 0 then (
(f_X6_wins g v6).bind (fun (r22 : Bool) =>
if r22 = true then (
k18) else (
k19))) else (
k19))))))
def L_X6_votes_1 (g : Nat → Int64) (a1 : Int32) (kx3 : Int32 → Int32 → Option (Int32)) : Nat → Int32 → Int32 → Int32 → Option (Int32)
  | 0, _, _, _ => none
  | m9 + 1, v4, v5, v6 => B_X6_votes_1 g a1 (L_X6_votes_1 g a1 kx3 m9) kx3 v4 v5 v6

def f_X6_votes (g : Nat → Int64) (a1 : Int32) : Option (Int32) :=
(f_X6_isIn a1.toInt64 0 2).bind (fun (r1 : Bool) =>
if r1 = true then (
L_X6_votes_1 g a1 (fun (v23 : Int32) (v24 : Int32) =>
if (a1 : Int32) = 2 then (
some v24) else (
some v23)) FU 0 (-5) 0) else (
some (-1)))

theorem nI_X6_votes : NameIn yX6_votes 1 := ⟨by decide +kernel, by decide +kernel, by decide +kernel⟩
set_option maxRecDepth 100000 in
set_option maxHeartbeats 4000000 in
theorem lp_X6_votes_1 {X : CX} {res : Int32} {a1 : Int32}   (hq : (mA q).Nodup) (hNK : NOK N) (C : Ok X cX6_votes 5 (some .int) wsX6_votes RX6 { frames := 4, cells := 0, slots := 0, locals := 88 } D vwCl (mT cs) (mA q) N (some (.int res)) (mW q cs isK isB fed at_ ltr ab ps g kp nx fa tp rs rv ct it))  (kx3 : Int32 → Int32 → Option (Int32)) (Jkx3 : ∀ y2 : Int32, ∀ y3 : Int32, VF X res (kx3 y2 y3) (mW q cs isK isB fed at_ ltr ab ps g kp nx fa tp rs rv ct it) 100 [(1, .int a1), (2, .int y2), (3, .int y3)] []) : ∀ fuel : Nat, ∀ v4 : Int32, ∀ v5 : Int32, ∀ v6 : Int32, VF X res (L_X6_votes_1 g a1 kx3 fuel v4 v5 v6) (mW q cs isK isB fed at_ ltr ab ps g kp nx fa tp rs rv ct it) 22 [(0, .ref (q 0)), (1, .int a1), (2, .int v4), (3, .int v5), (4, .int v6)] [] := by
  intro fuel
  induction fuel with
  | zero =>
    intro _ _ _
    exact v_none
  | succ fuel ih =>
    intro v4 v5 v6
    show VF X res (B_X6_votes_1 g a1 (L_X6_votes_1 g a1 kx3 fuel) kx3 v4 v5 v6) _ _ _ _
    unfold B_X6_votes_1
    refine v_iload C 4 dX6_votes_22 rfl ?_
    refine v_aload_n C 0 dX6_votes_24 rfl ?_
    refine v_callV0v C 0 rfl rfl rfl (fun l9 r9 h9 => k_X6_all (l := l9) hq hNK  h9) gX6_votes_X6_all rfl nI_X6_all ⟨rfl, rfl, Nat.le_of_ble_eq_true rfl, Nat.le_of_ble_eq_true rfl⟩ dX6_votes_25 (Nat.le_of_ble_eq_true rfl) (fun r7 => ?_)
    refine v_icmp_gt C dX6_votes_28 (tgt := 100) (by decide) ?_ ?_
    · exact v_sub [1, 2, 3] rfl (Jkx3 v4 v5)
    · refine v_iload_n C 2 dX6_votes_31 rfl ?_
      refine v_iload_n C 1 dX6_votes_32 rfl ?_
      refine v_jn1 (wj := (fun v9 => (mW q cs isK isB fed at_ ltr ab ps g kp nx fa tp rs rv ct it))) (pcj := 64) (lvj := (fun v9 => [(0, .ref (q 0)), (1, .int a1), (3, .int v5), (4, .int v6)])) (stj := (fun v9 => [.int v9, .int v4])) (fun v9 => ?_) (fun k8 hk8 => ?_)
      · refine v_iadd C dX6_votes_64 ?_
        refine v_istore_n_nm C (lvf := fun x10 => [(2, .int x10), (0, .ref (q 0)), (1, .int a1), (3, .int v5), (4, .int v6)]) dX6_votes_65 rfl (by decide) (fun _ => rfl) (fun x10 => ?_)
        refine v_aload_n C 1 dX6_votes_66 rfl ?_
        refine v_iload C 4 dX6_votes_67 rfl ?_
        refine v_callV1v C 0 rfl rfl rfl (fun l9 r9 h9 => k_X6_wins (l := l9) hq hNK  h9) gX6_votes_X6_wins rfl nI_X6_wins ⟨rfl, rfl, Nat.le_of_ble_eq_true rfl, Nat.le_of_ble_eq_true rfl⟩ dX6_votes_69 (Nat.le_of_ble_eq_true rfl) (fun r11 => ?_)
        refine v_jn1 (wj := (fun v13 => (mW q cs isK isB fed at_ ltr ab ps g kp nx fa tp rs rv ct it))) (pcj := 94) (lvj := (fun v13 => [(0, .ref (q 0)), (1, .int a1), (2, .int x10), (3, .int v13), (4, .int v6)])) (stj := (fun v13 => [])) (fun v13 => ?_) (fun k12 hk12 => ?_)
        · refine v_iinc_nm C (lvf := fun x14 => [(4, .int x14), (0, .ref (q 0)), (1, .int a1), (2, .int x10), (3, .int v13)]) 4 dX6_votes_94 rfl rfl (by decide) (fun _ => rfl) (fun x14 => ?_)
          refine v_goto C dX6_votes_97 (tgt := 22) (by decide) ?_
          exact v_sub [1, 2, 3, 4, 0] rfl (ih x10 v13 x14)
        · refine v_ifb_eq C (b := r11) dX6_votes_72 (tgt := 94) (by decide) ?_ ?_
          · exact v_sub [1, 2, 0, 3, 4] rfl (hk12 v5)
          · refine v_iload_n C 3 dX6_votes_75 rfl ?_
            refine v_jn0 (wj := ((mW q cs isK isB fed at_ ltr ab ps g kp nx fa tp rs rv ct it))) (pcj := 91) (lvj := ([(0, .ref (q 0)), (1, .int a1), (2, .int x10), (4, .int v6)])) (stj := ([])) ?_ (fun k15 hk15 => ?_)
            · refine v_iload C 3 dX6_votes_91 rfl ?_
              refine v_istore_n C (lv' := [(3, .int v6), (0, .ref (q 0)), (1, .int a1), (2, .int x10), (4, .int v6)]) dX6_votes_93 rfl (by decide) rfl ?_
              exact v_sub [1, 2, 3, 0, 4] rfl (hk12 v6)
            · refine v_if_lt C dX6_votes_76 (tgt := 91) (by decide) ?_ ?_
              · exact v_sub [1, 2, 0, 4] rfl (hk15)
              · refine v_iload C 4 dX6_votes_79 rfl ?_
                refine v_callSP1v C (fun l9 r9 h9 => k_X6_size (l := l9) h9) gX6_votes_X6_size rfl nI_X6_size ⟨rfl, rfl, Nat.le_of_ble_eq_true rfl, Nat.le_of_ble_eq_true rfl⟩ dX6_votes_81 (Nat.le_of_ble_eq_true rfl) (fun r16 => ?_)
                refine v_iload_n C 3 dX6_votes_84 rfl ?_
                refine v_callSP1v C (fun l9 r9 h9 => k_X6_size (l := l9) h9) gX6_votes_X6_size rfl nI_X6_size ⟨rfl, rfl, Nat.le_of_ble_eq_true rfl, Nat.le_of_ble_eq_true rfl⟩ dX6_votes_85 (Nat.le_of_ble_eq_true rfl) (fun r17 => ?_)
                refine v_icmp_ge C dX6_votes_88 (tgt := 94) (by decide) ?_ ?_
                · exact v_sub [1, 2, 0, 3, 4] rfl (hk12 v5)
                · exact v_sub [1, 2, 0, 4] rfl (hk15)
      · refine v_jn0 (wj := ((mW q cs isK isB fed at_ ltr ab ps g kp nx fa tp rs rv ct it))) (pcj := 59) (lvj := ([(0, .ref (q 0)), (1, .int a1), (3, .int v5), (4, .int v6)])) (stj := ([.int v4])) ?_ (fun k18 hk18 => ?_)
        · refine v_iconst C dX6_votes_59 (v := 1) (by decide) ?_
          refine v_goto C dX6_votes_60 (tgt := 64) (by decide) ?_
          exact v_sub [0, 1, 2, 3] rfl (hk8 1)
        · refine v_jn0 (wj := ((mW q cs isK isB fed at_ ltr ab ps g kp nx fa tp rs rv ct it))) (pcj := 45) (lvj := ([(0, .ref (q 0)), (1, .int a1), (3, .int v5), (4, .int v6)])) (stj := ([.int v4])) ?_ (fun k19 hk19 => ?_)
          · refine v_iload_n C 1 dX6_votes_45 rfl ?_
            refine v_iconst C dX6_votes_46 (v := 1) (by decide) ?_
            refine v_jn0 (wj := ((mW q cs isK isB fed at_ ltr ab ps g kp nx fa tp rs rv ct it))) (pcj := 63) (lvj := ([(0, .ref (q 0)), (1, .int a1), (3, .int v5), (4, .int v6)])) (stj := ([.int v4])) ?_ (fun k20 hk20 => ?_)
            · refine v_iconst C dX6_votes_63 (v := 0) (by decide) ?_
              exact v_sub [0, 1, 2, 3] rfl (hk8 0)
            · refine v_icmp_ne C dX6_votes_47 (tgt := 63) (by decide) ?_ ?_
              · exact v_sub [0, 1, 2, 3] rfl (hk20)
              · refine v_aload_n C 0 dX6_votes_50 rfl ?_
                refine v_iload C 3 dX6_votes_51 rfl ?_
                refine v_callV1v C 0 rfl rfl rfl (fun l9 r9 h9 => k_X6_isLeast (l := l9) hq hNK  h9) gX6_votes_X6_isLeast rfl nI_X6_isLeast ⟨rfl, rfl, Nat.le_of_ble_eq_true rfl, Nat.le_of_ble_eq_true rfl⟩ dX6_votes_53 (Nat.le_of_ble_eq_true rfl) (fun r21 => ?_)
                refine v_ifb_eq C (b := r21) dX6_votes_56 (tgt := 63) (by decide) ?_ ?_
                · exact v_sub [0, 1, 2, 3] rfl (hk20)
                · exact v_sub [0, 1, 2, 3] rfl (hk18)
          · refine v_if_ne C dX6_votes_33 (tgt := 45) (by decide) ?_ ?_
            · exact v_sub [0, 1, 3, 4] rfl (hk19)
            · refine v_aload_n C 0 dX6_votes_36 rfl ?_
              refine v_iload C 4 dX6_votes_37 rfl ?_
              refine v_callV1v C 0 rfl rfl rfl (fun l9 r9 h9 => k_X6_wins (l := l9) hq hNK  h9) gX6_votes_X6_wins rfl nI_X6_wins ⟨rfl, rfl, Nat.le_of_ble_eq_true rfl, Nat.le_of_ble_eq_true rfl⟩ dX6_votes_39 (Nat.le_of_ble_eq_true rfl) (fun r22 => ?_)
              refine v_ifb_ne C (b := r22) dX6_votes_42 (tgt := 59) (by decide) ?_ ?_
              · exact v_sub [0, 1, 3, 4] rfl (hk18)
              · exact v_sub [0, 1, 3, 4] rfl (hk19)

set_option maxRecDepth 100000 in
set_option maxHeartbeats 4000000 in
theorem k_X6_votes {l : Launch} {a1 : Int32}  {res : Int32} (hq : (mA q).Nodup) (hNK : NOK N)  (hf : f_X6_votes g a1 = some res) : kMet l yX6_votes wsX6_votes { frames := 4, cells := 0, slots := 0, locals := 88 } D vwCl (mT cs) N (mA q) [.ref (q 0), .int a1] (mW q cs isK isB fed at_ ltr ab ps g kp nx fa tp rs rv ct it) (some (.int res)) (mW q cs isK isB fed at_ ltr ab ps g kp nx fa tp rs rv ct it) := by
  refine kMet.of (cc := cX6_votes) (nL := 5) (ret := (some .int)) (own := RX6) (lv := [(0, .ref (q 0)), (1, .int a1)]) (by decide +kernel) rfl rfl hNK hq (Nat.le_of_ble_eq_true rfl) rfl (fun X C => ?_)
  refine VF.of hf ?_
  unfold f_X6_votes
  refine v_iload_n C 1 dX6_votes_0 rfl ?_
  refine v_i2l C dX6_votes_1 ?_
  refine v_lconst C dX6_votes_2 (v := 0) (by decide) ?_
  refine v_ldc2 C (v := 2) (List.mem_of_getElem? (i := 1) rfl) dX6_votes_3 ?_
  refine v_callSP3v C (fun l9 r9 h9 => k_X6_isIn (l := l9) h9) gX6_votes_X6_isIn rfl nI_X6_isIn ⟨rfl, rfl, Nat.le_of_ble_eq_true rfl, Nat.le_of_ble_eq_true rfl⟩ dX6_votes_6 (Nat.le_of_ble_eq_true rfl) (fun r1 => ?_)
  refine v_ifb_ne C (b := r1) dX6_votes_9 (tgt := 14) (by decide) ?_ ?_
  · refine v_iconst C dX6_votes_14 (v := 0) (by decide) ?_
    refine v_istore_n C (lv' := [(2, .int 0), (0, .ref (q 0)), (1, .int a1)]) dX6_votes_15 rfl (by decide) rfl ?_
    refine v_bipush C dX6_votes_16 (v := (-5)) (by decide) ?_
    refine v_istore_n C (lv' := [(3, .int (-5)), (2, .int 0), (0, .ref (q 0)), (1, .int a1)]) dX6_votes_18 rfl (by decide) rfl ?_
    refine v_iconst C dX6_votes_19 (v := 0) (by decide) ?_
    refine v_istore C (lv' := [(4, .int 0), (3, .int (-5)), (2, .int 0), (0, .ref (q 0)), (1, .int a1)]) dX6_votes_20 (by decide) rfl ?_
    refine v_sub [3, 4, 2, 1, 0] rfl (lp_X6_votes_1 hq hNK C  _ (fun v23 v24 => ?_) FU 0 (-5) 0)
    refine v_iload_n C 0 dX6_votes_100 rfl ?_
    refine v_iconst C dX6_votes_101 (v := 2) (by decide) ?_
    refine v_icmp_ne C dX6_votes_102 (tgt := 109) (by decide) ?_ ?_
    · refine v_iload_n C 1 dX6_votes_109 rfl ?_
      exact v_iret (rvf := fun (res : Int32) => (some (.int res))) (wf := fun (res : Int32) => (mW q cs isK isB fed at_ ltr ab ps g kp nx fa tp rs rv ct it)) C dX6_votes_110 rfl rfl
    · refine v_iload_n C 2 dX6_votes_105 rfl ?_
      refine v_goto C dX6_votes_106 (tgt := 110) (by decide) ?_
      exact v_iret (rvf := fun (res : Int32) => (some (.int res))) (wf := fun (res : Int32) => (mW q cs isK isB fed at_ ltr ab ps g kp nx fa tp rs rv ct it)) C dX6_votes_110 rfl rfl
  · refine v_iconst C dX6_votes_12 (v := (-1)) (by decide) ?_
    exact v_iret (rvf := fun (res : Int32) => (some (.int res))) (wf := fun (res : Int32) => (mW q cs isK isB fed at_ ltr ab ps g kp nx fa tp rs rv ct it)) C dX6_votes_13 rfl rfl

def f_X6_isOfKind (isB : Bool) (g : Nat → Int64) (a1 : Int32) (a2 : Int32) (a3 : Int32) (a4 : Int32) : Option (Bool × Bool) :=
(f_X6_v g a1 (a4 ||| (1 <<< (a2 &&& 31)))).bind (fun (r1 : Int64) =>
(f_X6_v g a1 (1 <<< (a2 &&& 31))).bind (fun (r2 : Int64) =>
if (a3 : Int32) = 2 then (
(f_X6_v g a1 a4).bind (fun (r8 : Int64) =>
if (r8 : Int64) = 0 then (
some (true, isB)) else (
some (false, isB)))) else (
if (a3 : Int32) = 0 then (
(f_X6_v g a1 a4).bind (fun (r7 : Int64) =>
if (r1 : Int64) = r7 then (
some (true, isB)) else (
some (false, isB)))) else (
nm false (fun (isB3 : Bool) =>
(f_X6_v g a1 a4).bind (fun (r4 : Int64) =>
(f_X6_plus isB3 r4 r2).bind (fun (r5 : Int64 × Bool) =>
jn0 (some (false, r5.2)) (fun k6 =>
if (r5.1 : Int64) = r1 then (
if r5.2 = true then (
k6) else (
some (true, r5.2))) else (
k6)))))))))

theorem nI_X6_isOfKind : NameIn yX6_isOfKind 4 := ⟨by decide +kernel, by decide +kernel, by decide +kernel⟩
set_option maxRecDepth 100000 in
set_option maxHeartbeats 4000000 in
theorem k_X6_isOfKind {l : Launch} {a1 : Int32} {a2 : Int32} {a3 : Int32} {a4 : Int32}  {res : Bool × Bool} (hq : (mA q).Nodup) (hNK : NOK N)  (hf : f_X6_isOfKind isB g a1 a2 a3 a4 = some res) : kMet l yX6_isOfKind wsX6_isOfKind { frames := 1, cells := 0, slots := 0, locals := 26 } D vwCl (mT cs) N (mA q) [.ref (q 0), .int a1, .int a2, .int a3, .int a4] (mW q cs isK isB fed at_ ltr ab ps g kp nx fa tp rs rv ct it) (some (.int (bI res.1))) (mW q cs isK res.2 fed at_ ltr ab ps g kp nx fa tp rs rv ct it) := by
  have iX6 : ∀ w ∈ wsX60, w ∈ wsX6_isOfKind := fun _ h => List.mem_cons_of_mem _ (List.mem_append_right _ h)
  refine kMet.of (cc := cX6_isOfKind) (nL := 9) (ret := (some .boolean)) (own := RX6) (lv := [(0, .ref (q 0)), (1, .int a1), (2, .int a2), (3, .int a3), (4, .int a4)]) (by decide +kernel) rfl rfl hNK hq (Nat.le_of_ble_eq_true rfl) rfl (fun X C => ?_)
  refine VF.of hf ?_
  unfold f_X6_isOfKind
  refine v_aload_n C 0 dX6_isOfKind_0 rfl ?_
  refine v_iload_n C 1 dX6_isOfKind_1 rfl ?_
  refine v_iload C 4 dX6_isOfKind_2 rfl ?_
  refine v_iconst C dX6_isOfKind_4 (v := 1) (by decide) ?_
  refine v_iload_n C 2 dX6_isOfKind_5 rfl ?_
  refine v_ishl C dX6_isOfKind_6 ?_
  refine v_ior C dX6_isOfKind_7 ?_
  refine v_callV2v C 0 rfl rfl rfl (fun l9 r9 h9 => k_X6_v (l := l9) hq hNK  h9) gX6_isOfKind_X6_v rfl nI_X6_v ⟨rfl, rfl, Nat.le_of_ble_eq_true rfl, Nat.le_of_ble_eq_true rfl⟩ dX6_isOfKind_8 (Nat.le_of_ble_eq_true rfl) (fun r1 => ?_)
  refine v_lstore C (lv' := [(5, .long r1), (0, .ref (q 0)), (1, .int a1), (2, .int a2), (3, .int a3), (4, .int a4)]) dX6_isOfKind_11 (by decide) rfl ?_
  refine v_aload_n C 1 dX6_isOfKind_13 rfl ?_
  refine v_iload_n C 2 dX6_isOfKind_14 rfl ?_
  refine v_iconst C dX6_isOfKind_15 (v := 1) (by decide) ?_
  refine v_iload_n C 3 dX6_isOfKind_16 rfl ?_
  refine v_ishl C dX6_isOfKind_17 ?_
  refine v_callV2v C 0 rfl rfl rfl (fun l9 r9 h9 => k_X6_v (l := l9) hq hNK  h9) gX6_isOfKind_X6_v rfl nI_X6_v ⟨rfl, rfl, Nat.le_of_ble_eq_true rfl, Nat.le_of_ble_eq_true rfl⟩ dX6_isOfKind_18 (Nat.le_of_ble_eq_true rfl) (fun r2 => ?_)
  refine v_lstore C (lv' := [(7, .long r2), (5, .long r1), (0, .ref (q 0)), (1, .int a1), (2, .int a2), (3, .int a3), (4, .int a4)]) dX6_isOfKind_21 (by decide) rfl ?_
  refine v_iload_n C 5 dX6_isOfKind_23 rfl ?_
  refine v_iconst C dX6_isOfKind_24 (v := 2) (by decide) ?_
  refine v_icmp_ne C dX6_isOfKind_25 (tgt := 46) (by decide) ?_ ?_
  · refine v_iload_n C 5 dX6_isOfKind_46 rfl ?_
    refine v_if_ne C dX6_isOfKind_47 (tgt := 69) (by decide) ?_ ?_
    · refine v_aload_n C 2 dX6_isOfKind_69 rfl ?_
      refine v_iconst C dX6_isOfKind_70 (v := 0) (by decide) ?_
      refine v_put_nm C (v := false) (fun z9 => Value.int (bI z9)) (ty := .boolean) (T := TX6) (n := 16) (C9 := RX6) (ty0 := tyX6) (fun isB3 => (mW q cs isK isB3 fed at_ ltr ab ps g kp nx fa tp rs rv ct it)) iX6 tyX6_ok nmX6 0 rfl rfl rfl 5 (by decide) (List.mem_of_getElem? (i := 1) rfl) rfl rfl rfl bI_nar bI_fit (Nat.le_of_ble_eq_true rfl) (fun _ => rfl) dX6_isOfKind_71 (fun isB3 => ?_)
      refine v_aload_n C 2 dX6_isOfKind_74 rfl ?_
      refine v_aload_n C 2 dX6_isOfKind_75 rfl ?_
      refine v_iload_n C 3 dX6_isOfKind_76 rfl ?_
      refine v_iload C 6 dX6_isOfKind_77 rfl ?_
      refine v_callV2v C 0 rfl rfl rfl (fun l9 r9 h9 => k_X6_v (l := l9) hq hNK  h9) gX6_isOfKind_X6_v rfl nI_X6_v ⟨rfl, rfl, Nat.le_of_ble_eq_true rfl, Nat.le_of_ble_eq_true rfl⟩ dX6_isOfKind_79 (Nat.le_of_ble_eq_true rfl) (fun r4 => ?_)
      refine v_lload C 0 dX6_isOfKind_82 rfl ?_
      refine v_callV2v C 0 rfl rfl rfl (fun l9 r9 h9 => k_X6_plus (l := l9) hq hNK  h9) gX6_isOfKind_X6_plus rfl nI_X6_plus ⟨rfl, rfl, Nat.le_of_ble_eq_true rfl, Nat.le_of_ble_eq_true rfl⟩ dX6_isOfKind_84 (Nat.le_of_ble_eq_true rfl) (fun r5 => ?_)
      refine v_lload C 1 dX6_isOfKind_87 rfl ?_
      refine v_jn0 (wj := ((mW q cs isK r5.2 fed at_ ltr ab ps g kp nx fa tp rs rv ct it))) (pcj := 104) (lvj := ([])) (stj := ([])) ?_ (fun k6 hk6 => ?_)
      · refine v_iconst C dX6_isOfKind_104 (v := 0) (by decide) ?_
        exact v_zret (rvf := fun (res : Bool × Bool) => (some (.int (bI res.1)))) (wf := fun (res : Bool × Bool) => (mW q cs isK res.2 fed at_ ltr ab ps g kp nx fa tp rs rv ct it)) C dX6_isOfKind_105 rfl rfl
      · refine v_lcmp_ne C dX6_isOfKind_89 dX6_isOfKind_90 (tgt := 104) (by decide) ?_ ?_
        · exact v_sub [] rfl (hk6)
        · refine v_aload_n C 2 dX6_isOfKind_93 rfl ?_
          refine v_get C (T := TX6) (n := 16) (C9 := RX6) iX6 0 rfl rfl 5 (by decide) (List.mem_of_getElem? (i := 1) rfl) rfl rfl dX6_isOfKind_94 ?_
          refine v_ifb_ne C (b := r5.2) dX6_isOfKind_97 (tgt := 104) (by decide) ?_ ?_
          · exact v_sub [] rfl (hk6)
          · refine v_iconst C dX6_isOfKind_100 (v := 1) (by decide) ?_
            refine v_goto C dX6_isOfKind_101 (tgt := 105) (by decide) ?_
            exact v_zret (rvf := fun (res : Bool × Bool) => (some (.int (bI res.1)))) (wf := fun (res : Bool × Bool) => (mW q cs isK res.2 fed at_ ltr ab ps g kp nx fa tp rs rv ct it)) C dX6_isOfKind_105 rfl rfl
    · refine v_lload C 1 dX6_isOfKind_50 rfl ?_
      refine v_aload_n C 2 dX6_isOfKind_52 rfl ?_
      refine v_iload_n C 3 dX6_isOfKind_53 rfl ?_
      refine v_iload C 6 dX6_isOfKind_54 rfl ?_
      refine v_callV2v C 0 rfl rfl rfl (fun l9 r9 h9 => k_X6_v (l := l9) hq hNK  h9) gX6_isOfKind_X6_v rfl nI_X6_v ⟨rfl, rfl, Nat.le_of_ble_eq_true rfl, Nat.le_of_ble_eq_true rfl⟩ dX6_isOfKind_56 (Nat.le_of_ble_eq_true rfl) (fun r7 => ?_)
      refine v_lcmp_ne C dX6_isOfKind_59 dX6_isOfKind_60 (tgt := 67) (by decide) ?_ ?_
      · refine v_iconst C dX6_isOfKind_67 (v := 0) (by decide) ?_
        exact v_zret (rvf := fun (res : Bool × Bool) => (some (.int (bI res.1)))) (wf := fun (res : Bool × Bool) => (mW q cs isK res.2 fed at_ ltr ab ps g kp nx fa tp rs rv ct it)) C dX6_isOfKind_68 rfl rfl
      · refine v_iconst C dX6_isOfKind_63 (v := 1) (by decide) ?_
        refine v_goto C dX6_isOfKind_64 (tgt := 68) (by decide) ?_
        exact v_zret (rvf := fun (res : Bool × Bool) => (some (.int (bI res.1)))) (wf := fun (res : Bool × Bool) => (mW q cs isK res.2 fed at_ ltr ab ps g kp nx fa tp rs rv ct it)) C dX6_isOfKind_68 rfl rfl
  · refine v_aload_n C 2 dX6_isOfKind_28 rfl ?_
    refine v_iload_n C 3 dX6_isOfKind_29 rfl ?_
    refine v_iload C 6 dX6_isOfKind_30 rfl ?_
    refine v_callV2v C 0 rfl rfl rfl (fun l9 r9 h9 => k_X6_v (l := l9) hq hNK  h9) gX6_isOfKind_X6_v rfl nI_X6_v ⟨rfl, rfl, Nat.le_of_ble_eq_true rfl, Nat.le_of_ble_eq_true rfl⟩ dX6_isOfKind_32 (Nat.le_of_ble_eq_true rfl) (fun r8 => ?_)
    refine v_lconst C dX6_isOfKind_35 (v := 0) (by decide) ?_
    refine v_lcmp_ne C dX6_isOfKind_36 dX6_isOfKind_37 (tgt := 44) (by decide) ?_ ?_
    · refine v_iconst C dX6_isOfKind_44 (v := 0) (by decide) ?_
      exact v_zret (rvf := fun (res : Bool × Bool) => (some (.int (bI res.1)))) (wf := fun (res : Bool × Bool) => (mW q cs isK res.2 fed at_ ltr ab ps g kp nx fa tp rs rv ct it)) C dX6_isOfKind_45 rfl rfl
    · refine v_iconst C dX6_isOfKind_40 (v := 1) (by decide) ?_
      refine v_goto C dX6_isOfKind_41 (tgt := 45) (by decide) ?_
      exact v_zret (rvf := fun (res : Bool × Bool) => (some (.int (bI res.1)))) (wf := fun (res : Bool × Bool) => (mW q cs isK res.2 fed at_ ltr ab ps g kp nx fa tp rs rv ct it)) C dX6_isOfKind_45 rfl rfl

def B_X6_isKind_1 (g : Nat → Int64) (a1 : Int32) (a2 : Int32) (a3 : Int32) (rec1 : Int32 → Bool → Option (Bool × Bool))  (v2 : Int32) (isB3 : Bool) : Option (Bool × Bool) :=
(f_X6_all g).bind (fun (r4 : Int32) =>
if (r4 : Int32) < v2 then (
some (true, isB3)) else (
(f_X6_has v2 a2).bind (fun (r5 : Bool) =>
jn1 (fun (isB7 : Bool) =>
nm (v2 + 1) (fun (x8 : Int32) =>
rec1 x8 isB7)) (fun k6 =>
if r5 = true then (
k6 isB3) else (
(f_X6_isOfKind isB3 g a1 a2 a3 v2).bind (fun (r9 : Bool × Bool) =>
if r9.1 = true then (
k6 r9.2) else (
some (false, r9.2))))))))
def L_X6_isKind_1 (g : Nat → Int64) (a1 : Int32) (a2 : Int32) (a3 : Int32)  : Nat → Int32 → Bool → Option (Bool × Bool)
  | 0, _, _ => none
  | m9 + 1, v2, isB3 => B_X6_isKind_1 g a1 a2 a3 (L_X6_isKind_1 g a1 a2 a3 m9)  v2 isB3

def f_X6_isKind (isB : Bool) (g : Nat → Int64) (a1 : Int32) (a2 : Int32) (a3 : Int32) : Option (Bool × Bool) :=
L_X6_isKind_1 g a1 a2 a3  FU 0 isB

theorem nI_X6_isKind : NameIn yX6_isKind 3 := ⟨by decide +kernel, by decide +kernel, by decide +kernel⟩
set_option maxRecDepth 100000 in
set_option maxHeartbeats 4000000 in
theorem lp_X6_isKind_1 {X : CX} {res : Bool × Bool} {a1 : Int32} {a2 : Int32} {a3 : Int32}   (hq : (mA q).Nodup) (hNK : NOK N) (C : Ok X cX6_isKind 5 (some .boolean) wsX6_isKind RX6 { frames := 2, cells := 0, slots := 0, locals := 54 } D vwCl (mT cs) (mA q) N (some (.int (bI res.1))) (mW q cs isK res.2 fed at_ ltr ab ps g kp nx fa tp rs rv ct it))  : ∀ fuel : Nat, ∀ v2 : Int32, ∀ isB3 : Bool, VF X res (L_X6_isKind_1 g a1 a2 a3 fuel v2 isB3) (mW q cs isK isB3 fed at_ ltr ab ps g kp nx fa tp rs rv ct it) 3 [(0, .ref (q 0)), (1, .int a1), (2, .int a2), (3, .int a3), (4, .int v2)] [] := by
  intro fuel
  induction fuel with
  | zero =>
    intro _ _
    exact v_none
  | succ fuel ih =>
    intro v2 isB3
    show VF X res (B_X6_isKind_1 g a1 a2 a3 (L_X6_isKind_1 g a1 a2 a3 fuel)  v2 isB3) _ _ _ _
    unfold B_X6_isKind_1
    refine v_iload C 4 dX6_isKind_3 rfl ?_
    refine v_aload_n C 0 dX6_isKind_5 rfl ?_
    refine v_callV0v C 0 rfl rfl rfl (fun l9 r9 h9 => k_X6_all (l := l9) hq hNK  h9) gX6_isKind_X6_all rfl nI_X6_all ⟨rfl, rfl, Nat.le_of_ble_eq_true rfl, Nat.le_of_ble_eq_true rfl⟩ dX6_isKind_6 (Nat.le_of_ble_eq_true rfl) (fun r4 => ?_)
    refine v_icmp_gt C dX6_isKind_9 (tgt := 41) (by decide) ?_ ?_
    · refine v_iconst C dX6_isKind_41 (v := 1) (by decide) ?_
      exact v_zret (rvf := fun (res : Bool × Bool) => (some (.int (bI res.1)))) (wf := fun (res : Bool × Bool) => (mW q cs isK res.2 fed at_ ltr ab ps g kp nx fa tp rs rv ct it)) C dX6_isKind_42 rfl rfl
    · refine v_iload C 4 dX6_isKind_12 rfl ?_
      refine v_iload_n C 2 dX6_isKind_14 rfl ?_
      refine v_callSP2v C (fun l9 r9 h9 => k_X6_has (l := l9) h9) gX6_isKind_X6_has rfl nI_X6_has ⟨rfl, rfl, Nat.le_of_ble_eq_true rfl, Nat.le_of_ble_eq_true rfl⟩ dX6_isKind_15 (Nat.le_of_ble_eq_true rfl) (fun r5 => ?_)
      refine v_jn1 (wj := (fun isB7 => (mW q cs isK isB7 fed at_ ltr ab ps g kp nx fa tp rs rv ct it))) (pcj := 35) (lvj := (fun isB7 => [(0, .ref (q 0)), (1, .int a1), (2, .int a2), (3, .int a3), (4, .int v2)])) (stj := (fun isB7 => [])) (fun isB7 => ?_) (fun k6 hk6 => ?_)
      · refine v_iinc_nm C (lvf := fun x8 => [(4, .int x8), (0, .ref (q 0)), (1, .int a1), (2, .int a2), (3, .int a3)]) 4 dX6_isKind_35 rfl rfl (by decide) (fun _ => rfl) (fun x8 => ?_)
        refine v_goto C dX6_isKind_38 (tgt := 3) (by decide) ?_
        exact v_sub [1, 2, 3, 4, 0] rfl (ih x8 isB7)
      · refine v_ifb_ne C (b := r5) dX6_isKind_18 (tgt := 35) (by decide) ?_ ?_
        · exact v_sub [0, 1, 2, 3, 4] rfl (hk6 isB3)
        · refine v_aload_n C 0 dX6_isKind_21 rfl ?_
          refine v_iload_n C 1 dX6_isKind_22 rfl ?_
          refine v_iload_n C 2 dX6_isKind_23 rfl ?_
          refine v_iload_n C 3 dX6_isKind_24 rfl ?_
          refine v_iload C 4 dX6_isKind_25 rfl ?_
          refine v_callV4v C 0 rfl rfl rfl (fun l9 r9 h9 => k_X6_isOfKind (l := l9) hq hNK  h9) gX6_isKind_X6_isOfKind rfl nI_X6_isOfKind ⟨rfl, rfl, Nat.le_of_ble_eq_true rfl, Nat.le_of_ble_eq_true rfl⟩ dX6_isKind_27 (Nat.le_of_ble_eq_true rfl) (fun r9 => ?_)
          refine v_ifb_ne C (b := r9.1) dX6_isKind_30 (tgt := 35) (by decide) ?_ ?_
          · exact v_sub [0, 1, 2, 3, 4] rfl (hk6 r9.2)
          · refine v_iconst C dX6_isKind_33 (v := 0) (by decide) ?_
            exact v_zret (rvf := fun (res : Bool × Bool) => (some (.int (bI res.1)))) (wf := fun (res : Bool × Bool) => (mW q cs isK res.2 fed at_ ltr ab ps g kp nx fa tp rs rv ct it)) C dX6_isKind_34 rfl rfl

set_option maxRecDepth 100000 in
set_option maxHeartbeats 4000000 in
theorem k_X6_isKind {l : Launch} {a1 : Int32} {a2 : Int32} {a3 : Int32}  {res : Bool × Bool} (hq : (mA q).Nodup) (hNK : NOK N)  (hf : f_X6_isKind isB g a1 a2 a3 = some res) : kMet l yX6_isKind wsX6_isKind { frames := 2, cells := 0, slots := 0, locals := 54 } D vwCl (mT cs) N (mA q) [.ref (q 0), .int a1, .int a2, .int a3] (mW q cs isK isB fed at_ ltr ab ps g kp nx fa tp rs rv ct it) (some (.int (bI res.1))) (mW q cs isK res.2 fed at_ ltr ab ps g kp nx fa tp rs rv ct it) := by
  refine kMet.of (cc := cX6_isKind) (nL := 5) (ret := (some .boolean)) (own := RX6) (lv := [(0, .ref (q 0)), (1, .int a1), (2, .int a2), (3, .int a3)]) (by decide +kernel) rfl rfl hNK hq (Nat.le_of_ble_eq_true rfl) rfl (fun X C => ?_)
  refine VF.of hf ?_
  unfold f_X6_isKind
  refine v_iconst C dX6_isKind_0 (v := 0) (by decide) ?_
  refine v_istore C (lv' := [(4, .int 0), (0, .ref (q 0)), (1, .int a1), (2, .int a2), (3, .int a3)]) dX6_isKind_1 (by decide) rfl ?_
  refine v_sub [1, 2, 3, 4, 0] rfl (lp_X6_isKind_1 hq hNK C   FU 0 isB)

def B_X6_kind_1 (g : Nat → Int64) (a1 : Int32) (a2 : Int32) (rec3 : Int32 → Int32 → Bool → Option (Int32 × Bool))  (v4 : Int32) (v5 : Int32) (isB6 : Bool) : Option (Int32 × Bool) :=
(f_X6_n g).bind (fun (r7 : Int32) =>
if (v5 : Int32) < r7 then (
(f_X6_isKind isB6 g a1 v5 a2).bind (fun (r8 : Bool × Bool) =>
jn1 (fun (v10 : Int32) =>
nm (v4 ||| v10) (fun (x11 : Int32) =>
nm (v5 + 1) (fun (x12 : Int32) =>
rec3 x11 x12 r8.2))) (fun k9 =>
if r8.1 = true then (
k9 (1 <<< (v5 &&& 31))) else (
k9 0)))) else (
some (v4, isB6)))
def L_X6_kind_1 (g : Nat → Int64) (a1 : Int32) (a2 : Int32)  : Nat → Int32 → Int32 → Bool → Option (Int32 × Bool)
  | 0, _, _, _ => none
  | m9 + 1, v4, v5, isB6 => B_X6_kind_1 g a1 a2 (L_X6_kind_1 g a1 a2 m9)  v4 v5 isB6

def f_X6_kind (isB : Bool) (g : Nat → Int64) (a1 : Int32) (a2 : Int32) : Option (Int32 × Bool) :=
(f_X6_isGame a1).bind (fun (r1 : Bool) =>
if r1 = true then (
(f_X6_isIn a2.toInt64 0 2).bind (fun (r2 : Bool) =>
if r2 = true then (
L_X6_kind_1 g a1 a2  FU 0 0 isB) else (
some ((-1), isB)))) else (
some ((-1), isB)))

theorem nI_X6_kind : NameIn yX6_kind 2 := ⟨by decide +kernel, by decide +kernel, by decide +kernel⟩
set_option maxRecDepth 100000 in
set_option maxHeartbeats 4000000 in
theorem lp_X6_kind_1 {X : CX} {res : Int32 × Bool} {a1 : Int32} {a2 : Int32}   (hq : (mA q).Nodup) (hNK : NOK N) (C : Ok X cX6_kind 5 (some .int) wsX6_kind RX6 { frames := 3, cells := 0, slots := 0, locals := 78 } D vwCl (mT cs) (mA q) N (some (.int res.1)) (mW q cs isK res.2 fed at_ ltr ab ps g kp nx fa tp rs rv ct it))  : ∀ fuel : Nat, ∀ v4 : Int32, ∀ v5 : Int32, ∀ isB6 : Bool, VF X res (L_X6_kind_1 g a1 a2 fuel v4 v5 isB6) (mW q cs isK isB6 fed at_ ltr ab ps g kp nx fa tp rs rv ct it) 26 [(0, .ref (q 0)), (1, .int a1), (2, .int a2), (3, .int v4), (4, .int v5)] [] := by
  intro fuel
  induction fuel with
  | zero =>
    intro _ _ _
    exact v_none
  | succ fuel ih =>
    intro v4 v5 isB6
    show VF X res (B_X6_kind_1 g a1 a2 (L_X6_kind_1 g a1 a2 fuel)  v4 v5 isB6) _ _ _ _
    unfold B_X6_kind_1
    refine v_iload C 4 dX6_kind_26 rfl ?_
    refine v_aload_n C 0 dX6_kind_28 rfl ?_
    refine v_callV0v C 0 rfl rfl rfl (fun l9 r9 h9 => k_X6_n (l := l9) hq hNK  h9) gX6_kind_X6_n rfl nI_X6_n ⟨rfl, rfl, Nat.le_of_ble_eq_true rfl, Nat.le_of_ble_eq_true rfl⟩ dX6_kind_29 (Nat.le_of_ble_eq_true rfl) (fun r7 => ?_)
    refine v_icmp_ge C dX6_kind_32 (tgt := 63) (by decide) ?_ ?_
    · refine v_iload_n C 3 dX6_kind_63 rfl ?_
      exact v_iret (rvf := fun (res : Int32 × Bool) => (some (.int res.1))) (wf := fun (res : Int32 × Bool) => (mW q cs isK res.2 fed at_ ltr ab ps g kp nx fa tp rs rv ct it)) C dX6_kind_64 rfl rfl
    · refine v_iload_n C 3 dX6_kind_35 rfl ?_
      refine v_aload_n C 0 dX6_kind_36 rfl ?_
      refine v_iload_n C 1 dX6_kind_37 rfl ?_
      refine v_iload C 4 dX6_kind_38 rfl ?_
      refine v_iload_n C 2 dX6_kind_40 rfl ?_
      refine v_callV3v C 0 rfl rfl rfl (fun l9 r9 h9 => k_X6_isKind (l := l9) hq hNK  h9) gX6_kind_X6_isKind rfl nI_X6_isKind ⟨rfl, rfl, Nat.le_of_ble_eq_true rfl, Nat.le_of_ble_eq_true rfl⟩ dX6_kind_41 (Nat.le_of_ble_eq_true rfl) (fun r8 => ?_)
      refine v_jn1 (wj := (fun v10 => (mW q cs isK r8.2 fed at_ ltr ab ps g kp nx fa tp rs rv ct it))) (pcj := 55) (lvj := (fun v10 => [(0, .ref (q 0)), (1, .int a1), (2, .int a2), (4, .int v5)])) (stj := (fun v10 => [.int v10, .int v4])) (fun v10 => ?_) (fun k9 hk9 => ?_)
      · refine v_ior C dX6_kind_55 ?_
        refine v_istore_n_nm C (lvf := fun x11 => [(3, .int x11), (0, .ref (q 0)), (1, .int a1), (2, .int a2), (4, .int v5)]) dX6_kind_56 rfl (by decide) (fun _ => rfl) (fun x11 => ?_)
        refine v_iinc_nm C (lvf := fun x12 => [(4, .int x12), (3, .int x11), (0, .ref (q 0)), (1, .int a1), (2, .int a2)]) 4 dX6_kind_57 rfl rfl (by decide) (fun _ => rfl) (fun x12 => ?_)
        refine v_goto C dX6_kind_60 (tgt := 26) (by decide) ?_
        exact v_sub [2, 3, 4, 1, 0] rfl (ih x11 x12 r8.2)
      · refine v_ifb_eq C (b := r8.1) dX6_kind_44 (tgt := 54) (by decide) ?_ ?_
        · refine v_iconst C dX6_kind_54 (v := 0) (by decide) ?_
          exact v_sub [0, 1, 2, 4] rfl (hk9 0)
        · refine v_iconst C dX6_kind_47 (v := 1) (by decide) ?_
          refine v_iload C 4 dX6_kind_48 rfl ?_
          refine v_ishl C dX6_kind_50 ?_
          refine v_goto C dX6_kind_51 (tgt := 55) (by decide) ?_
          exact v_sub [0, 1, 2, 4] rfl (hk9 (1 <<< (v5 &&& 31)))

set_option maxRecDepth 100000 in
set_option maxHeartbeats 4000000 in
theorem k_X6_kind {l : Launch} {a1 : Int32} {a2 : Int32}  {res : Int32 × Bool} (hq : (mA q).Nodup) (hNK : NOK N)  (hf : f_X6_kind isB g a1 a2 = some res) : kMet l yX6_kind wsX6_kind { frames := 3, cells := 0, slots := 0, locals := 78 } D vwCl (mT cs) N (mA q) [.ref (q 0), .int a1, .int a2] (mW q cs isK isB fed at_ ltr ab ps g kp nx fa tp rs rv ct it) (some (.int res.1)) (mW q cs isK res.2 fed at_ ltr ab ps g kp nx fa tp rs rv ct it) := by
  refine kMet.of (cc := cX6_kind) (nL := 5) (ret := (some .int)) (own := RX6) (lv := [(0, .ref (q 0)), (1, .int a1), (2, .int a2)]) (by decide +kernel) rfl rfl hNK hq (Nat.le_of_ble_eq_true rfl) rfl (fun X C => ?_)
  refine VF.of hf ?_
  unfold f_X6_kind
  refine v_iload_n C 1 dX6_kind_0 rfl ?_
  refine v_callSP1v C (fun l9 r9 h9 => k_X6_isGame (l := l9) h9) gX6_kind_X6_isGame rfl nI_X6_isGame ⟨rfl, rfl, Nat.le_of_ble_eq_true rfl, Nat.le_of_ble_eq_true rfl⟩ dX6_kind_1 (Nat.le_of_ble_eq_true rfl) (fun r1 => ?_)
  refine v_ifb_eq C (b := r1) dX6_kind_4 (tgt := 19) (by decide) ?_ ?_
  · refine v_iconst C dX6_kind_19 (v := (-1)) (by decide) ?_
    exact v_iret (rvf := fun (res : Int32 × Bool) => (some (.int res.1))) (wf := fun (res : Int32 × Bool) => (mW q cs isK res.2 fed at_ ltr ab ps g kp nx fa tp rs rv ct it)) C dX6_kind_20 rfl rfl
  · refine v_iload_n C 2 dX6_kind_7 rfl ?_
    refine v_i2l C dX6_kind_8 ?_
    refine v_lconst C dX6_kind_9 (v := 0) (by decide) ?_
    refine v_ldc2 C (v := 2) (List.mem_of_getElem? (i := 1) rfl) dX6_kind_10 ?_
    refine v_callSP3v C (fun l9 r9 h9 => k_X6_isIn (l := l9) h9) gX6_kind_X6_isIn rfl nI_X6_isIn ⟨rfl, rfl, Nat.le_of_ble_eq_true rfl, Nat.le_of_ble_eq_true rfl⟩ dX6_kind_13 (Nat.le_of_ble_eq_true rfl) (fun r2 => ?_)
    refine v_ifb_ne C (b := r2) dX6_kind_16 (tgt := 21) (by decide) ?_ ?_
    · refine v_iconst C dX6_kind_21 (v := 0) (by decide) ?_
      refine v_istore_n C (lv' := [(3, .int 0), (0, .ref (q 0)), (1, .int a1), (2, .int a2)]) dX6_kind_22 rfl (by decide) rfl ?_
      refine v_iconst C dX6_kind_23 (v := 0) (by decide) ?_
      refine v_istore C (lv' := [(4, .int 0), (3, .int 0), (0, .ref (q 0)), (1, .int a1), (2, .int a2)]) dX6_kind_24 (by decide) rfl ?_
      refine v_sub [2, 3, 4, 1, 0] rfl (lp_X6_kind_1 hq hNK C   FU 0 0 isB)
    · refine v_iconst C dX6_kind_19 (v := (-1)) (by decide) ?_
      exact v_iret (rvf := fun (res : Int32 × Bool) => (some (.int res.1))) (wf := fun (res : Int32 × Bool) => (mW q cs isK res.2 fed at_ ltr ab ps g kp nx fa tp rs rv ct it)) C dX6_kind_20 rfl rfl

end WK
