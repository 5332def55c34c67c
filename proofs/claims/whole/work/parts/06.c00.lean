section WK
variable {q : Nat → Nat} {cs : Nat → ClassId} {D : va_G} {N : (Nat → Prop) → State → Prop} {isK : Bool} {isB : Bool} {fed : Int32} {at_ : Int32} {ltr : Int32} {ab : Int64} {ps : Nat} {g : Nat → Int64} {kp : Nat → Int64} {nx : Nat → Int64} {fa : Nat → Int64} {tp : Nat → Int32} {rs : Nat → Int32} {rv : Nat → Int64} {ct : Nat → Int32} {it : Nat → Int64}
def B_X6_begins_1  (rec1 : Int32 → (Nat → Int64) → Option ((Nat → Int64))) (kx2 : (Nat → Int64) → Option ((Nat → Int64))) (v3 : Int32) (g4 : Nat → Int64) : Option ((Nat → Int64)) :=
if (v3 : Int32) < 2231 then (
ck (inb v3 2231) (
nm (vp_updL g4 v3.toNatClampNeg 0) (fun (g5 : Nat → Int64) =>
nm (v3 + 1) (fun (x6 : Int32) =>
rec1 x6 g5)))) else (
kx2 g4)
def L_X6_begins_1  (kx2 : (Nat → Int64) → Option ((Nat → Int64))) : Nat → Int32 → (Nat → Int64) → Option ((Nat → Int64))
  | 0, _, _ => none
  | m9 + 1, v3, g4 => B_X6_begins_1  (L_X6_begins_1 kx2 m9) kx2 v3 g4

def B_X6_begins_2  (rec10 : Int32 → (Nat → Int64) → Option ((Nat → Int64)))  (v11 : Int32) (g12 : Nat → Int64) : Option ((Nat → Int64)) :=
if (v11 : Int32) < 9 then (
ck (inb (12 + v11) 2231) (
nm (vp_updL g12 (12 + v11).toNatClampNeg v11.toInt64) (fun (g13 : Nat → Int64) =>
nm (v11 + 1) (fun (x14 : Int32) =>
rec10 x14 g13)))) else (
some g12)
def L_X6_begins_2   : Nat → Int32 → (Nat → Int64) → Option ((Nat → Int64))
  | 0, _, _ => none
  | m9 + 1, v11, g12 => B_X6_begins_2  (L_X6_begins_2  m9)  v11 g12

def f_X6_begins (g : Nat → Int64) (a1 : Int32) : Option ((Nat → Int64)) :=
L_X6_begins_1  (fun (g7 : Nat → Int64) =>
ck (inb (0 : Int32) 2231) (
nm (vp_updL g7 (0 : Int32).toNatClampNeg a1.toInt64) (fun (g8 : Nat → Int64) =>
ck (inb (1 : Int32) 2231) (
nm (vp_updL g8 (1 : Int32).toNatClampNeg 1) (fun (g9 : Nat → Int64) =>
L_X6_begins_2   FU 0 g9))))) FU 0 g

theorem nI_X6_begins : NameIn yX6_begins 1 := ⟨by decide +kernel, by decide +kernel, by decide +kernel⟩
set_option maxRecDepth 100000 in
set_option maxHeartbeats 4000000 in
theorem lp_X6_begins_1 {X : CX} {res : (Nat → Int64)} {a1 : Int32}   (hq : (mA q).Nodup) (hNK : NOK N) (C : Ok X cX6_begins 3 none wsX6_begins RX6 { frames := 0, cells := 0, slots := 0, locals := 0 } D vwCl (mT cs) (mA q) N none (mW q cs isK isB fed at_ ltr ab ps res kp nx fa tp rs rv ct it))  (kx2 : (Nat → Int64) → Option ((Nat → Int64))) (Jkx2 : ∀ gZz : Nat → Int64, VF X res (kx2 gZz) (mW q cs isK isB fed at_ ltr ab ps gZz kp nx fa tp rs rv ct it) 22 [(0, .ref (q 0)), (1, .int a1)] []) : ∀ fuel : Nat, ∀ v3 : Int32, ∀ g4 : Nat → Int64, VF X res (L_X6_begins_1 kx2 fuel v3 g4) (mW q cs isK isB fed at_ ltr ab ps g4 kp nx fa tp rs rv ct it) 2 [(0, .ref (q 0)), (1, .int a1), (2, .int v3)] [] := by
  have iX6 : ∀ w ∈ wsX60, w ∈ wsX6_begins := fun _ h => List.mem_cons_of_mem _ (List.mem_append_right _ h)
  intro fuel
  induction fuel with
  | zero =>
    intro _ _
    exact v_none
  | succ fuel ih =>
    intro v3 g4
    show VF X res (B_X6_begins_1  (L_X6_begins_1 kx2 fuel) kx2 v3 g4) _ _ _ _
    unfold B_X6_begins_1
    refine v_iload_n C 2 dX6_begins_2 rfl ?_
    refine v_sipush C dX6_begins_3 (v := 2231) (by decide) ?_
    refine v_icmp_ge C dX6_begins_6 (tgt := 22) (by decide) ?_ ?_
    · exact v_sub [0, 1] rfl (Jkx2 g4)
    · refine v_aload_n C 0 dX6_begins_9 rfl ?_
      refine v_get C (T := TX6) (n := 16) (C9 := RX6) iX6 0 rfl rfl 0 (by decide) (List.mem_of_getElem? (i := 1) rfl) rfl rfl dX6_begins_10 ?_
      refine v_iload_n C 2 dX6_begins_13 rfl ?_
      refine v_lconst C dX6_begins_14 (v := 0) (by decide) ?_
      refine v_last_nm C (fun g5 => (mW q cs isK isB fed at_ ltr ab ps g5 kp nx fa tp rs rv ct it)) 1 1 rfl rfl rfl (fun _ => rfl) dX6_begins_15 (fun g5 => ?_)
      refine v_iinc_nm C (lvf := fun x6 => [(2, .int x6), (0, .ref (q 0)), (1, .int a1)]) 2 dX6_begins_16 rfl rfl (by decide) (fun _ => rfl) (fun x6 => ?_)
      refine v_goto C dX6_begins_19 (tgt := 2) (by decide) ?_
      exact v_sub [1, 2, 0] rfl (ih x6 g5)

set_option maxRecDepth 100000 in
set_option maxHeartbeats 4000000 in
theorem lp_X6_begins_2 {X : CX} {res : (Nat → Int64)}    (hq : (mA q).Nodup) (hNK : NOK N) (C : Ok X cX6_begins 3 none wsX6_begins RX6 { frames := 0, cells := 0, slots := 0, locals := 0 } D vwCl (mT cs) (mA q) N none (mW q cs isK isB fed at_ ltr ab ps res kp nx fa tp rs rv ct it))  : ∀ fuel : Nat, ∀ v11 : Int32, ∀ g12 : Nat → Int64, VF X res (L_X6_begins_2  fuel v11 g12) (mW q cs isK isB fed at_ ltr ab ps g12 kp nx fa tp rs rv ct it) 39 [(0, .ref (q 0)), (2, .int v11)] [] := by
  have iX6 : ∀ w ∈ wsX60, w ∈ wsX6_begins := fun _ h => List.mem_cons_of_mem _ (List.mem_append_right _ h)
  intro fuel
  induction fuel with
  | zero =>
    intro _ _
    exact v_none
  | succ fuel ih =>
    intro v11 g12
    show VF X res (B_X6_begins_2  (L_X6_begins_2  fuel)  v11 g12) _ _ _ _
    unfold B_X6_begins_2
    refine v_iload_n C 1 dX6_begins_39 rfl ?_
    refine v_bipush C dX6_begins_40 (v := 9) (by decide) ?_
    refine v_icmp_ge C dX6_begins_42 (tgt := 62) (by decide) ?_ ?_
    · exact v_vret (rvf := fun (res : (Nat → Int64)) => none) (wf := fun (res : (Nat → Int64)) => (mW q cs isK isB fed at_ ltr ab ps res kp nx fa tp rs rv ct it)) C dX6_begins_62 rfl rfl
    · refine v_aload_n C 0 dX6_begins_45 rfl ?_
      refine v_get C (T := TX6) (n := 16) (C9 := RX6) iX6 0 rfl rfl 0 (by decide) (List.mem_of_getElem? (i := 1) rfl) rfl rfl dX6_begins_46 ?_
      refine v_bipush C dX6_begins_49 (v := 12) (by decide) ?_
      refine v_iload_n C 1 dX6_begins_51 rfl ?_
      refine v_iadd C dX6_begins_52 ?_
      refine v_iload_n C 1 dX6_begins_53 rfl ?_
      refine v_i2l C dX6_begins_54 ?_
      refine v_last_nm C (fun g13 => (mW q cs isK isB fed at_ ltr ab ps g13 kp nx fa tp rs rv ct it)) 1 1 rfl rfl rfl (fun _ => rfl) dX6_begins_55 (fun g13 => ?_)
      refine v_iinc_nm C (lvf := fun x14 => [(2, .int x14), (0, .ref (q 0))]) 1 dX6_begins_56 rfl rfl (by decide) (fun _ => rfl) (fun x14 => ?_)
      refine v_goto C dX6_begins_59 (tgt := 39) (by decide) ?_
      exact v_sub [1, 0] rfl (ih x14 g13)

set_option maxRecDepth 100000 in
set_option maxHeartbeats 4000000 in
theorem k_X6_begins {l : Launch} {a1 : Int32}  {res : (Nat → Int64)} (hq : (mA q).Nodup) (hNK : NOK N)  (hf : f_X6_begins g a1 = some res) : kMet l yX6_begins wsX6_begins { frames := 0, cells := 0, slots := 0, locals := 0 } D vwCl (mT cs) N (mA q) [.ref (q 0), .int a1] (mW q cs isK isB fed at_ ltr ab ps g kp nx fa tp rs rv ct it) none (mW q cs isK isB fed at_ ltr ab ps res kp nx fa tp rs rv ct it) := by
  have iX6 : ∀ w ∈ wsX60, w ∈ wsX6_begins := fun _ h => List.mem_cons_of_mem _ (List.mem_append_right _ h)
  refine kMet.of (cc := cX6_begins) (nL := 3) (ret := none) (own := RX6) (lv := [(0, .ref (q 0)), (1, .int a1)]) (by decide +kernel) rfl rfl hNK hq (Nat.le_of_ble_eq_true rfl) rfl (fun X C => ?_)
  refine VF.of hf ?_
  unfold f_X6_begins
  refine v_iconst C dX6_begins_0 (v := 0) (by decide) ?_
  refine v_istore_n C (lv' := [(2, .int 0), (0, .ref (q 0)), (1, .int a1)]) dX6_begins_1 rfl (by decide) rfl ?_
  refine v_sub [1, 2, 0] rfl (lp_X6_begins_1 hq hNK C  _ (fun g7 => ?_) FU 0 g)
  refine v_aload_n C 0 dX6_begins_22 rfl ?_
  refine v_get C (T := TX6) (n := 16) (C9 := RX6) iX6 0 rfl rfl 0 (by decide) (List.mem_of_getElem? (i := 1) rfl) rfl rfl dX6_begins_23 ?_
  refine v_iconst C dX6_begins_26 (v := 0) (by decide) ?_
  refine v_iload_n C 1 dX6_begins_27 rfl ?_
  refine v_i2l C dX6_begins_28 ?_
  refine v_last_nm C (fun g8 => (mW q cs isK isB fed at_ ltr ab ps g8 kp nx fa tp rs rv ct it)) 1 1 rfl rfl rfl (fun _ => rfl) dX6_begins_29 (fun g8 => ?_)
  refine v_aload_n C 0 dX6_begins_30 rfl ?_
  refine v_get C (T := TX6) (n := 16) (C9 := RX6) iX6 0 rfl rfl 0 (by decide) (List.mem_of_getElem? (i := 1) rfl) rfl rfl dX6_begins_31 ?_
  refine v_iconst C dX6_begins_34 (v := 1) (by decide) ?_
  refine v_lconst C dX6_begins_35 (v := 1) (by decide) ?_
  refine v_last_nm C (fun g9 => (mW q cs isK isB fed at_ ltr ab ps g9 kp nx fa tp rs rv ct it)) 1 1 rfl rfl rfl (fun _ => rfl) dX6_begins_36 (fun g9 => ?_)
  refine v_iconst C dX6_begins_37 (v := 0) (by decide) ?_
  refine v_istore_n C (lv' := [(2, .int 0), (0, .ref (q 0)), (1, .int a1)]) dX6_begins_38 rfl (by decide) rfl ?_
  refine v_sub [1, 0] rfl (lp_X6_begins_2 hq hNK C   FU 0 g9)

def f_X6_plus (isB : Bool) (a1 : Int64) (a2 : Int64) : Option (Int64 × Bool) :=
nm (a1 + a2) (fun (x1 : Int64) =>
if ((a1 ^^^ x1) &&& (a2 ^^^ x1) : Int64) < 0 then (
nm (isB || true) (fun (isB3 : Bool) =>
some (x1, isB3))) else (
nm (isB || false) (fun (isB2 : Bool) =>
some (x1, isB2))))

theorem nI_X6_plus : NameIn yX6_plus 2 := ⟨by decide +kernel, by decide +kernel, by decide +kernel⟩
set_option maxRecDepth 100000 in
set_option maxHeartbeats 4000000 in
theorem k_X6_plus {l : Launch} {a1 : Int64} {a2 : Int64}  {res : Int64 × Bool} (hq : (mA q).Nodup) (hNK : NOK N)  (hf : f_X6_plus isB a1 a2 = some res) : kMet l yX6_plus wsX6_plus { frames := 0, cells := 0, slots := 0, locals := 0 } D vwCl (mT cs) N (mA q) [.ref (q 0), .long a1, .long a2] (mW q cs isK isB fed at_ ltr ab ps g kp nx fa tp rs rv ct it) (some (.long res.1)) (mW q cs isK res.2 fed at_ ltr ab ps g kp nx fa tp rs rv ct it) := by
  have iX6 : ∀ w ∈ wsX60, w ∈ wsX6_plus := fun _ h => List.mem_cons_of_mem _ (List.mem_append_right _ h)
  refine kMet.of (cc := cX6_plus) (nL := 7) (ret := (some .long)) (own := RX6) (lv := [(0, .ref (q 0)), (1, .long a1), (3, .long a2)]) (by decide +kernel) rfl rfl hNK hq (Nat.le_of_ble_eq_true rfl) rfl (fun X C => ?_)
  refine VF.of hf ?_
  unfold f_X6_plus
  refine v_lload_n C 1 dX6_plus_0 rfl ?_
  refine v_lload_n C 2 dX6_plus_1 rfl ?_
  refine v_ladd C dX6_plus_2 ?_
  refine v_lstore_nm C (lvf := fun x1 => [(5, .long x1), (0, .ref (q 0)), (1, .long a1), (3, .long a2)]) dX6_plus_3 (by decide) (fun _ => rfl) (fun x1 => ?_)
  refine v_aload_n C 1 dX6_plus_5 rfl ?_
  refine v_dup C dX6_plus_6 rfl ?_
  refine v_get C (T := TX6) (n := 16) (C9 := RX6) iX6 0 rfl rfl 5 (by decide) (List.mem_of_getElem? (i := 1) rfl) rfl rfl dX6_plus_7 ?_
  refine v_lload_n C 2 dX6_plus_10 rfl ?_
  refine v_lload C 0 dX6_plus_11 rfl ?_
  refine v_lxor C dX6_plus_13 ?_
  refine v_lload_n C 3 dX6_plus_14 rfl ?_
  refine v_lload C 0 dX6_plus_15 rfl ?_
  refine v_lxor C dX6_plus_17 ?_
  refine v_land C dX6_plus_18 ?_
  refine v_lconst C dX6_plus_19 (v := 0) (by decide) ?_
  refine v_lcmp_ge C dX6_plus_20 dX6_plus_21 (tgt := 28) (by decide) ?_ ?_
  · refine v_iconst C dX6_plus_28 (v := 0) (by decide) ?_
    refine v_iorb C (a := isB) (b := false) dX6_plus_29 ?_
    refine v_put_nm C (v := (isB || false)) (fun z9 => Value.int (bI z9)) (ty := .boolean) (T := TX6) (n := 16) (C9 := RX6) (ty0 := tyX6) (fun isB2 => (mW q cs isK isB2 fed at_ ltr ab ps g kp nx fa tp rs rv ct it)) iX6 tyX6_ok nmX6 0 rfl rfl rfl 5 (by decide) (List.mem_of_getElem? (i := 1) rfl) rfl rfl rfl bI_nar bI_fit (Nat.le_of_ble_eq_true rfl) (fun _ => rfl) dX6_plus_30 (fun isB2 => ?_)
    refine v_lload C 0 dX6_plus_33 rfl ?_
    exact v_lret (rvf := fun (res : Int64 × Bool) => (some (.long res.1))) (wf := fun (res : Int64 × Bool) => (mW q cs isK res.2 fed at_ ltr ab ps g kp nx fa tp rs rv ct it)) C dX6_plus_35 rfl rfl
  · refine v_iconst C dX6_plus_24 (v := 1) (by decide) ?_
    refine v_goto C dX6_plus_25 (tgt := 29) (by decide) ?_
    refine v_iorb C (a := isB) (b := true) dX6_plus_29 ?_
    refine v_put_nm C (v := (isB || true)) (fun z9 => Value.int (bI z9)) (ty := .boolean) (T := TX6) (n := 16) (C9 := RX6) (ty0 := tyX6) (fun isB3 => (mW q cs isK isB3 fed at_ ltr ab ps g kp nx fa tp rs rv ct it)) iX6 tyX6_ok nmX6 0 rfl rfl rfl 5 (by decide) (List.mem_of_getElem? (i := 1) rfl) rfl rfl rfl bI_nar bI_fit (Nat.le_of_ble_eq_true rfl) (fun _ => rfl) dX6_plus_30 (fun isB3 => ?_)
    refine v_lload C 0 dX6_plus_33 rfl ?_
    exact v_lret (rvf := fun (res : Int64 × Bool) => (some (.long res.1))) (wf := fun (res : Int64 × Bool) => (mW q cs isK res.2 fed at_ ltr ab ps g kp nx fa tp rs rv ct it)) C dX6_plus_35 rfl rfl

def f_X6_minus (isB : Bool) (a1 : Int64) (a2 : Int64) : Option (Int64 × Bool) :=
nm (a1 - a2) (fun (x1 : Int64) =>
if ((a1 ^^^ a2) &&& (a1 ^^^ x1) : Int64) < 0 then (
nm (isB || true) (fun (isB3 : Bool) =>
some (x1, isB3))) else (
nm (isB || false) (fun (isB2 : Bool) =>
some (x1, isB2))))

theorem nI_X6_minus : NameIn yX6_minus 2 := ⟨by decide +kernel, by decide +kernel, by decide +kernel⟩
set_option maxRecDepth 100000 in
set_option maxHeartbeats 4000000 in
theorem k_X6_minus {l : Launch} {a1 : Int64} {a2 : Int64}  {res : Int64 × Bool} (hq : (mA q).Nodup) (hNK : NOK N)  (hf : f_X6_minus isB a1 a2 = some res) : kMet l yX6_minus wsX6_minus { frames := 0, cells := 0, slots := 0, locals := 0 } D vwCl (mT cs) N (mA q) [.ref (q 0), .long a1, .long a2] (mW q cs isK isB fed at_ ltr ab ps g kp nx fa tp rs rv ct it) (some (.long res.1)) (mW q cs isK res.2 fed at_ ltr ab ps g kp nx fa tp rs rv ct it) := by
  have iX6 : ∀ w ∈ wsX60, w ∈ wsX6_minus := fun _ h => List.mem_cons_of_mem _ (List.mem_append_right _ h)
  refine kMet.of (cc := cX6_minus) (nL := 7) (ret := (some .long)) (own := RX6) (lv := [(0, .ref (q 0)), (1, .long a1), (3, .long a2)]) (by decide +kernel) rfl rfl hNK hq (Nat.le_of_ble_eq_true rfl) rfl (fun X C => ?_)
  refine VF.of hf ?_
  unfold f_X6_minus
  refine v_lload_n C 1 dX6_minus_0 rfl ?_
  refine v_lload_n C 2 dX6_minus_1 rfl ?_
  refine v_lsub C dX6_minus_2 ?_
  refine v_lstore_nm C (lvf := fun x1 => [(5, .long x1), (0, .ref (q 0)), (1, .long a1), (3, .long a2)]) dX6_minus_3 (by decide) (fun _ => rfl) (fun x1 => ?_)
  refine v_aload_n C 1 dX6_minus_5 rfl ?_
  refine v_dup C dX6_minus_6 rfl ?_
  refine v_get C (T := TX6) (n := 16) (C9 := RX6) iX6 0 rfl rfl 5 (by decide) (List.mem_of_getElem? (i := 1) rfl) rfl rfl dX6_minus_7 ?_
  refine v_lload_n C 2 dX6_minus_10 rfl ?_
  refine v_lload_n C 3 dX6_minus_11 rfl ?_
  refine v_lxor C dX6_minus_12 ?_
  refine v_lload_n C 2 dX6_minus_13 rfl ?_
  refine v_lload C 0 dX6_minus_14 rfl ?_
  refine v_lxor C dX6_minus_16 ?_
  refine v_land C dX6_minus_17 ?_
  refine v_lconst C dX6_minus_18 (v := 0) (by decide) ?_
  refine v_lcmp_ge C dX6_minus_19 dX6_minus_20 (tgt := 27) (by decide) ?_ ?_
  · refine v_iconst C dX6_minus_27 (v := 0) (by decide) ?_
    refine v_iorb C (a := isB) (b := false) dX6_minus_28 ?_
    refine v_put_nm C (v := (isB || false)) (fun z9 => Value.int (bI z9)) (ty := .boolean) (T := TX6) (n := 16) (C9 := RX6) (ty0 := tyX6) (fun isB2 => (mW q cs isK isB2 fed at_ ltr ab ps g kp nx fa tp rs rv ct it)) iX6 tyX6_ok nmX6 0 rfl rfl rfl 5 (by decide) (List.mem_of_getElem? (i := 1) rfl) rfl rfl rfl bI_nar bI_fit (Nat.le_of_ble_eq_true rfl) (fun _ => rfl) dX6_minus_29 (fun isB2 => ?_)
    refine v_lload C 0 dX6_minus_32 rfl ?_
    exact v_lret (rvf := fun (res : Int64 × Bool) => (some (.long res.1))) (wf := fun (res : Int64 × Bool) => (mW q cs isK res.2 fed at_ ltr ab ps g kp nx fa tp rs rv ct it)) C dX6_minus_34 rfl rfl
  · refine v_iconst C dX6_minus_23 (v := 1) (by decide) ?_
    refine v_goto C dX6_minus_24 (tgt := 28) (by decide) ?_
    refine v_iorb C (a := isB) (b := true) dX6_minus_28 ?_
    refine v_put_nm C (v := (isB || true)) (fun z9 => Value.int (bI z9)) (ty := .boolean) (T := TX6) (n := 16) (C9 := RX6) (ty0 := tyX6) (fun isB3 => (mW q cs isK isB3 fed at_ ltr ab ps g kp nx fa tp rs rv ct it)) iX6 tyX6_ok nmX6 0 rfl rfl rfl 5 (by decide) (List.mem_of_getElem? (i := 1) rfl) rfl rfl rfl bI_nar bI_fit (Nat.le_of_ble_eq_true rfl) (fun _ => rfl) dX6_minus_29 (fun isB3 => ?_)
    refine v_lload C 0 dX6_minus_32 rfl ?_
    exact v_lret (rvf := fun (res : Int64 × Bool) => (some (.long res.1))) (wf := fun (res : Int64 × Bool) => (mW q cs isK res.2 fed at_ ltr ab ps g kp nx fa tp rs rv ct it)) C dX6_minus_34 rfl rfl

def f_X6_product (isB : Bool) (a1 : Int64) (a2 : Int64) : Option (Int64 × Bool) :=
nm (a1 * a2) (fun (x1 : Int64) =>
jn0 (nm (isB || true) (fun (isB3 : Bool) =>
some (x1, isB3))) (fun k2 =>
jn0 (jn0 (nm (isB || false) (fun (isB6 : Bool) =>
some (x1, isB6))) (fun k5 =>
if (a2 : Int64) = 0 then (
k5) else (
if (a2 : Int64) = (-1) then (
k5) else (
ck ((a2 : Int64) != 0) (
if (x1 / a2 : Int64) = a1 then (
k5) else (
k2)))))) (fun k4 =>
if (a2 : Int64) = (-1) then (
if (a1 : Int64) = (-9223372036854775808) then (
k2) else (
k4)) else (
k4))))

theorem nI_X6_product : NameIn yX6_product 2 := ⟨by decide +kernel, by decide +kernel, by decide +kernel⟩
set_option maxRecDepth 100000 in
set_option maxHeartbeats 4000000 in
theorem k_X6_product {l : Launch} {a1 : Int64} {a2 : Int64}  {res : Int64 × Bool} (hq : (mA q).Nodup) (hNK : NOK N)  (hf : f_X6_product isB a1 a2 = some res) : kMet l yX6_product wsX6_product { frames := 0, cells := 0, slots := 0, locals := 0 } D vwCl (mT cs) N (mA q) [.ref (q 0), .long a1, .long a2] (mW q cs isK isB fed at_ ltr ab ps g kp nx fa tp rs rv ct it) (some (.long res.1)) (mW q cs isK res.2 fed at_ ltr ab ps g kp nx fa tp rs rv ct it) := by
  have iX6 : ∀ w ∈ wsX60, w ∈ wsX6_product := fun _ h => List.mem_cons_of_mem _ (List.mem_append_right _ h)
  refine kMet.of (cc := cX6_product) (nL := 7) (ret := (some .long)) (own := RX6) (lv := [(0, .ref (q 0)), (1, .long a1), (3, .long a2)]) (by decide +kernel) rfl rfl hNK hq (Nat.le_of_ble_eq_true rfl) rfl (fun X C => ?_)
  refine VF.of hf ?_
  unfold f_X6_product
  refine v_lload_n C 1 dX6_product_0 rfl ?_
  refine v_lload_n C 2 dX6_product_1 rfl ?_
  refine v_lmul C dX6_product_2 ?_
  refine v_lstore_nm C (lvf := fun x1 => [(5, .long x1), (0, .ref (q 0)), (1, .long a1), (3, .long a2)]) dX6_product_3 (by decide) (fun _ => rfl) (fun x1 => ?_)
  refine v_aload_n C 1 dX6_product_5 rfl ?_
  refine v_dup C dX6_product_6 rfl ?_
  refine v_get C (T := TX6) (n := 16) (C9 := RX6) iX6 0 rfl rfl 5 (by decide) (List.mem_of_getElem? (i := 1) rfl) rfl rfl dX6_product_7 ?_
  refine v_lload_n C 3 dX6_product_10 rfl ?_
  refine v_ldc2 C (v := (-1)) (List.mem_of_getElem? (i := 2) rfl) dX6_product_11 ?_
  refine v_jn0 (wj := ((mW q cs isK isB fed at_ ltr ab ps g kp nx fa tp rs rv ct it))) (pcj := 49) (lvj := ([(5, .long x1)])) (stj := ([.int (bI isB), .ref (q 0)])) ?_ (fun k2 hk2 => ?_)
  · refine v_iconst C dX6_product_49 (v := 1) (by decide) ?_
    refine v_goto C dX6_product_50 (tgt := 54) (by decide) ?_
    refine v_iorb C (a := isB) (b := true) dX6_product_54 ?_
    refine v_put_nm C (v := (isB || true)) (fun z9 => Value.int (bI z9)) (ty := .boolean) (T := TX6) (n := 16) (C9 := RX6) (ty0 := tyX6) (fun isB3 => (mW q cs isK isB3 fed at_ ltr ab ps g kp nx fa tp rs rv ct it)) iX6 tyX6_ok nmX6 0 rfl rfl rfl 5 (by decide) (List.mem_of_getElem? (i := 1) rfl) rfl rfl rfl bI_nar bI_fit (Nat.le_of_ble_eq_true rfl) (fun _ => rfl) dX6_product_55 (fun isB3 => ?_)
    refine v_lload C 0 dX6_product_58 rfl ?_
    exact v_lret (rvf := fun (res : Int64 × Bool) => (some (.long res.1))) (wf := fun (res : Int64 × Bool) => (mW q cs isK res.2 fed at_ ltr ab ps g kp nx fa tp rs rv ct it)) C dX6_product_60 rfl rfl
  · refine v_jn0 (wj := ((mW q cs isK isB fed at_ ltr ab ps g kp nx fa tp rs rv ct it))) (pcj := 26) (lvj := ([(1, .long a1), (3, .long a2), (5, .long x1)])) (stj := ([.int (bI isB), .ref (q 0)])) ?_ (fun k4 hk4 => ?_)
    · refine v_lload_n C 1 dX6_product_26 rfl ?_
      refine v_lconst C dX6_product_27 (v := 0) (by decide) ?_
      refine v_jn0 (wj := ((mW q cs isK isB fed at_ ltr ab ps g kp nx fa tp rs rv ct it))) (pcj := 53) (lvj := ([(5, .long x1)])) (stj := ([.int (bI isB), .ref (q 0)])) ?_ (fun k5 hk5 => ?_)
      · refine v_iconst C dX6_product_53 (v := 0) (by decide) ?_
        refine v_iorb C (a := isB) (b := false) dX6_product_54 ?_
        refine v_put_nm C (v := (isB || false)) (fun z9 => Value.int (bI z9)) (ty := .boolean) (T := TX6) (n := 16) (C9 := RX6) (ty0 := tyX6) (fun isB6 => (mW q cs isK isB6 fed at_ ltr ab ps g kp nx fa tp rs rv ct it)) iX6 tyX6_ok nmX6 0 rfl rfl rfl 5 (by decide) (List.mem_of_getElem? (i := 1) rfl) rfl rfl rfl bI_nar bI_fit (Nat.le_of_ble_eq_true rfl) (fun _ => rfl) dX6_product_55 (fun isB6 => ?_)
        refine v_lload C 0 dX6_product_58 rfl ?_
        exact v_lret (rvf := fun (res : Int64 × Bool) => (some (.long res.1))) (wf := fun (res : Int64 × Bool) => (mW q cs isK res.2 fed at_ ltr ab ps g kp nx fa tp rs rv ct it)) C dX6_product_60 rfl rfl
      · refine v_lcmp_eq C dX6_product_28 dX6_product_29 (tgt := 53) (by decide) ?_ ?_
        · exact v_sub [2] rfl (hk5)
        · refine v_lload_n C 1 dX6_product_32 rfl ?_
          refine v_ldc2 C (v := (-1)) (List.mem_of_getElem? (i := 2) rfl) dX6_product_33 ?_
          refine v_lcmp_eq C dX6_product_36 dX6_product_37 (tgt := 53) (by decide) ?_ ?_
          · exact v_sub [2] rfl (hk5)
          · refine v_lload C 2 dX6_product_40 rfl ?_
            refine v_lload_n C 1 dX6_product_42 rfl ?_
            refine v_ldiv C dX6_product_43 ?_
            refine v_lload_n C 0 dX6_product_44 rfl ?_
            refine v_lcmp_eq C dX6_product_45 dX6_product_46 (tgt := 53) (by decide) ?_ ?_
            · exact v_sub [2] rfl (hk5)
            · exact v_sub [2] rfl (hk2)
    · refine v_lcmp_ne C dX6_product_14 dX6_product_15 (tgt := 26) (by decide) ?_ ?_
      · exact v_sub [2, 3, 0] rfl (hk4)
      · refine v_lload_n C 2 dX6_product_18 rfl ?_
        refine v_ldc2 C (v := (-9223372036854775808)) (List.mem_of_getElem? (i := 3) rfl) dX6_product_19 ?_
        refine v_lcmp_eq C dX6_product_22 dX6_product_23 (tgt := 49) (by decide) ?_ ?_
        · exact v_sub [0] rfl (hk2)
        · exact v_sub [2, 3, 0] rfl (hk4)

def f_X6_n (g : Nat → Int64) : Option (Int32) :=
ck (inb (0 : Int32) 2231) (
some ((g (0 : Int32).toNatClampNeg).toInt32))

theorem nI_X6_n : NameIn yX6_n 0 := ⟨by decide +kernel, by decide +kernel, by decide +kernel⟩
set_option maxRecDepth 100000 in
set_option maxHeartbeats 4000000 in
theorem k_X6_n {l : Launch}   {res : Int32} (hq : (mA q).Nodup) (hNK : NOK N)  (hf : f_X6_n g = some res) : kMet l yX6_n wsX6_n { frames := 0, cells := 0, slots := 0, locals := 0 } D vwCl (mT cs) N (mA q) [.ref (q 0)] (mW q cs isK isB fed at_ ltr ab ps g kp nx fa tp rs rv ct it) (some (.int res)) (mW q cs isK isB fed at_ ltr ab ps g kp nx fa tp rs rv ct it) := by
  have iX6 : ∀ w ∈ wsX60, w ∈ wsX6_n := fun _ h => List.mem_cons_of_mem _ (List.mem_append_right _ h)
  refine kMet.of (cc := cX6_n) (nL := 1) (ret := (some .int)) (own := RX6) (lv := [(0, .ref (q 0))]) (by decide +kernel) rfl rfl hNK hq (Nat.le_of_ble_eq_true rfl) rfl (fun X C => ?_)
  refine VF.of hf ?_
  unfold f_X6_n
  refine v_aload_n C 0 dX6_n_0 rfl ?_
  refine v_get C (T := TX6) (n := 16) (C9 := RX6) iX6 0 rfl rfl 0 (by decide) (List.mem_of_getElem? (i := 1) rfl) rfl rfl dX6_n_1 ?_
  refine v_iconst C dX6_n_4 (v := 0) (by decide) ?_
  refine v_lald C 1 1 rfl rfl dX6_n_5 ?_
  refine v_l2i C dX6_n_6 ?_
  exact v_iret (rvf := fun (res : Int32) => (some (.int res))) (wf := fun (res : Int32) => (mW q cs isK isB fed at_ ltr ab ps g kp nx fa tp rs rv ct it)) C dX6_n_7 rfl rfl

def f_X6_all (g : Nat → Int64) : Option (Int32) :=
(f_X6_n g).bind (fun (r1 : Int32) =>
some ((1 <<< (r1 &&& 31)) - 1))

theorem nI_X6_all : NameIn yX6_all 0 := ⟨by decide +kernel, by decide +kernel, by decide +kernel⟩
set_option maxRecDepth 100000 in
set_option maxHeartbeats 4000000 in
theorem k_X6_all {l : Launch}   {res : Int32} (hq : (mA q).Nodup) (hNK : NOK N)  (hf : f_X6_all g = some res) : kMet l yX6_all wsX6_all { frames := 1, cells := 0, slots := 0, locals := 20 } D vwCl (mT cs) N (mA q) [.ref (q 0)] (mW q cs isK isB fed at_ ltr ab ps g kp nx fa tp rs rv ct it) (some (.int res)) (mW q cs isK isB fed at_ ltr ab ps g kp nx fa tp rs rv ct it) := by
  refine kMet.of (cc := cX6_all) (nL := 1) (ret := (some .int)) (own := RX6) (lv := [(0, .ref (q 0))]) (by decide +kernel) rfl rfl hNK hq (Nat.le_of_ble_eq_true rfl) rfl (fun X C => ?_)
  refine VF.of hf ?_
  unfold f_X6_all
  refine v_iconst C dX6_all_0 (v := 1) (by decide) ?_
  refine v_aload_n C 0 dX6_all_1 rfl ?_
  refine v_callV0v C 0 rfl rfl rfl (fun l9 r9 h9 => k_X6_n (l := l9) hq hNK  h9) gX6_all_X6_n rfl nI_X6_n ⟨rfl, rfl, Nat.le_of_ble_eq_true rfl, Nat.le_of_ble_eq_true rfl⟩ dX6_all_2 (Nat.le_of_ble_eq_true rfl) (fun r1 => ?_)
  refine v_ishl C dX6_all_5 ?_
  refine v_iconst C dX6_all_6 (v := 1) (by decide) ?_
  refine v_isub C dX6_all_7 ?_
  exact v_iret (rvf := fun (res : Int32) => (some (.int res))) (wf := fun (res : Int32) => (mW q cs isK isB fed at_ ltr ab ps g kp nx fa tp rs rv ct it)) C dX6_all_8 rfl rfl

def f_X6_isPartner (g : Nat → Int64) (a1 : Int32) : Option (Bool) :=
(f_X6_n g).bind (fun (r1 : Int32) =>
(f_X6_isIn a1.toInt64 0 ((r1 - 1).toInt64)).bind (fun (r2 : Bool) =>
some r2))

theorem nI_X6_isPartner : NameIn yX6_isPartner 1 := ⟨by decide +kernel, by decide +kernel, by decide +kernel⟩
set_option maxRecDepth 100000 in
set_option maxHeartbeats 4000000 in
theorem k_X6_isPartner {l : Launch} {a1 : Int32}  {res : Bool} (hq : (mA q).Nodup) (hNK : NOK N)  (hf : f_X6_isPartner g a1 = some res) : kMet l yX6_isPartner wsX6_isPartner { frames := 1, cells := 0, slots := 0, locals := 25 } D vwCl (mT cs) N (mA q) [.ref (q 0), .int a1] (mW q cs isK isB fed at_ ltr ab ps g kp nx fa tp rs rv ct it) (some (.int (bI res))) (mW q cs isK isB fed at_ ltr ab ps g kp nx fa tp rs rv ct it) := by
  refine kMet.of (cc := cX6_isPartner) (nL := 2) (ret := (some .boolean)) (own := RX6) (lv := [(0, .ref (q 0)), (1, .int a1)]) (by decide +kernel) rfl rfl hNK hq (Nat.le_of_ble_eq_true rfl) rfl (fun X C => ?_)
  refine VF.of hf ?_
  unfold f_X6_isPartner
  refine v_iload_n C 1 dX6_isPartner_0 rfl ?_
  refine v_i2l C dX6_isPartner_1 ?_
  refine v_lconst C dX6_isPartner_2 (v := 0) (by decide) ?_
  refine v_aload_n C 0 dX6_isPartner_3 rfl ?_
  refine v_callV0v C 0 rfl rfl rfl (fun l9 r9 h9 => k_X6_n (l := l9) hq hNK  h9) gX6_isPartner_X6_n rfl nI_X6_n ⟨rfl, rfl, Nat.le_of_ble_eq_true rfl, Nat.le_of_ble_eq_true rfl⟩ dX6_isPartner_4 (Nat.le_of_ble_eq_true rfl) (fun r1 => ?_)
  refine v_iconst C dX6_isPartner_7 (v := 1) (by decide) ?_
  refine v_isub C dX6_isPartner_8 ?_
  refine v_i2l C dX6_isPartner_9 ?_
  refine v_callSP3v C (fun l9 r9 h9 => k_X6_isIn (l := l9) h9) gX6_isPartner_X6_isIn rfl nI_X6_isIn ⟨rfl, rfl, Nat.le_of_ble_eq_true rfl, Nat.le_of_ble_eq_true rfl⟩ dX6_isPartner_10 (Nat.le_of_ble_eq_true rfl) (fun r2 => ?_)
  exact v_zret (rvf := fun (res : Bool) => (some (.int (bI res)))) (wf := fun (res : Bool) => (mW q cs isK isB fed at_ ltr ab ps g kp nx fa tp rs rv ct it)) C dX6_isPartner_13 rfl rfl

def f_X6_isTwo (g : Nat → Int64) (a1 : Int32) (a2 : Int32) : Option (Bool) :=
(f_X6_isPartner g a1).bind (fun (r1 : Bool) =>
jn0 (some false) (fun k2 =>
if r1 = true then (
(f_X6_isPartner g a2).bind (fun (r3 : Bool) =>
if r3 = true then (
if (a1 : Int32) = a2 then (
k2) else (
some true)) else (
k2))) else (
k2)))

theorem nI_X6_isTwo : NameIn yX6_isTwo 2 := ⟨by decide +kernel, by decide +kernel, by decide +kernel⟩
set_option maxRecDepth 100000 in
set_option maxHeartbeats 4000000 in
theorem k_X6_isTwo {l : Launch} {a1 : Int32} {a2 : Int32}  {res : Bool} (hq : (mA q).Nodup) (hNK : NOK N)  (hf : f_X6_isTwo g a1 a2 = some res) : kMet l yX6_isTwo wsX6_isTwo { frames := 2, cells := 0, slots := 0, locals := 46 } D vwCl (mT cs) N (mA q) [.ref (q 0), .int a1, .int a2] (mW q cs isK isB fed at_ ltr ab ps g kp nx fa tp rs rv ct it) (some (.int (bI res))) (mW q cs isK isB fed at_ ltr ab ps g kp nx fa tp rs rv ct it) := by
  refine kMet.of (cc := cX6_isTwo) (nL := 3) (ret := (some .boolean)) (own := RX6) (lv := [(0, .ref (q 0)), (1, .int a1), (2, .int a2)]) (by decide +kernel) rfl rfl hNK hq (Nat.le_of_ble_eq_true rfl) rfl (fun X C => ?_)
  refine VF.of hf ?_
  unfold f_X6_isTwo
  refine v_aload_n C 0 dX6_isTwo_0 rfl ?_
  refine v_iload_n C 1 dX6_isTwo_1 rfl ?_
  refine v_callV1v C 0 rfl rfl rfl (fun l9 r9 h9 => k_X6_isPartner (l := l9) hq hNK  h9) gX6_isTwo_X6_isPartner rfl nI_X6_isPartner ⟨rfl, rfl, Nat.le_of_ble_eq_true rfl, Nat.le_of_ble_eq_true rfl⟩ dX6_isTwo_2 (Nat.le_of_ble_eq_true rfl) (fun r1 => ?_)
  refine v_jn0 (wj := ((mW q cs isK isB fed at_ ltr ab ps g kp nx fa tp rs rv ct it))) (pcj := 25) (lvj := ([])) (stj := ([])) ?_ (fun k2 hk2 => ?_)
  · refine v_iconst C dX6_isTwo_25 (v := 0) (by decide) ?_
    exact v_zret (rvf := fun (res : Bool) => (some (.int (bI res)))) (wf := fun (res : Bool) => (mW q cs isK isB fed at_ ltr ab ps g kp nx fa tp rs rv ct it)) C dX6_isTwo_26 rfl rfl
  · refine v_ifb_eq C (b := r1) dX6_isTwo_5 (tgt := 25) (by decide) ?_ ?_
    · exact v_sub [] rfl (hk2)
    · refine v_aload_n C 0 dX6_isTwo_8 rfl ?_
      refine v_iload_n C 2 dX6_isTwo_9 rfl ?_
      refine v_callV1v C 0 rfl rfl rfl (fun l9 r9 h9 => k_X6_isPartner (l := l9) hq hNK  h9) gX6_isTwo_X6_isPartner rfl nI_X6_isPartner ⟨rfl, rfl, Nat.le_of_ble_eq_true rfl, Nat.le_of_ble_eq_true rfl⟩ dX6_isTwo_10 (Nat.le_of_ble_eq_true rfl) (fun r3 => ?_)
      refine v_ifb_eq C (b := r3) dX6_isTwo_13 (tgt := 25) (by decide) ?_ ?_
      · exact v_sub [] rfl (hk2)
      · refine v_iload_n C 1 dX6_isTwo_16 rfl ?_
        refine v_iload_n C 2 dX6_isTwo_17 rfl ?_
        refine v_icmp_eq C dX6_isTwo_18 (tgt := 25) (by decide) ?_ ?_
        · exact v_sub [] rfl (hk2)
        · refine v_iconst C dX6_isTwo_21 (v := 1) (by decide) ?_
          refine v_goto C dX6_isTwo_22 (tgt := 26) (by decide) ?_
          exact v_zret (rvf := fun (res : Bool) => (some (.int (bI res)))) (wf := fun (res : Bool) => (mW q cs isK isB fed at_ ltr ab ps g kp nx fa tp rs rv ct it)) C dX6_isTwo_26 rfl rfl

def f_X6_isSet (g : Nat → Int64) (a1 : Int32) : Option (Bool) :=
(f_X6_all g).bind (fun (r1 : Int32) =>
(f_X6_isIn a1.toInt64 0 r1.toInt64).bind (fun (r2 : Bool) =>
some r2))

theorem nI_X6_isSet : NameIn yX6_isSet 1 := ⟨by decide +kernel, by decide +kernel, by decide +kernel⟩
set_option maxRecDepth 100000 in
set_option maxHeartbeats 4000000 in
theorem k_X6_isSet {l : Launch} {a1 : Int32}  {res : Bool} (hq : (mA q).Nodup) (hNK : NOK N)  (hf : f_X6_isSet g a1 = some res) : kMet l yX6_isSet wsX6_isSet { frames := 2, cells := 0, slots := 0, locals := 40 } D vwCl (mT cs) N (mA q) [.ref (q 0), .int a1] (mW q cs isK isB fed at_ ltr ab ps g kp nx fa tp rs rv ct it) (some (.int (bI res))) (mW q cs isK isB fed at_ ltr ab ps g kp nx fa tp rs rv ct it) := by
  refine kMet.of (cc := cX6_isSet) (nL := 2) (ret := (some .boolean)) (own := RX6) (lv := [(0, .ref (q 0)), (1, .int a1)]) (by decide +kernel) rfl rfl hNK hq (Nat.le_of_ble_eq_true rfl) rfl (fun X C => ?_)
  refine VF.of hf ?_
  unfold f_X6_isSet
  refine v_iload_n C 1 dX6_isSet_0 rfl ?_
  refine v_i2l C dX6_isSet_1 ?_
  refine v_lconst C dX6_isSet_2 (v := 0) (by decide) ?_
  refine v_aload_n C 0 dX6_isSet_3 rfl ?_
  refine v_callV0v C 0 rfl rfl rfl (fun l9 r9 h9 => k_X6_all (l := l9) hq hNK  h9) gX6_isSet_X6_all rfl nI_X6_all ⟨rfl, rfl, Nat.le_of_ble_eq_true rfl, Nat.le_of_ble_eq_true rfl⟩ dX6_isSet_4 (Nat.le_of_ble_eq_true rfl) (fun r1 => ?_)
  refine v_i2l C dX6_isSet_7 ?_
  refine v_callSP3v C (fun l9 r9 h9 => k_X6_isIn (l := l9) h9) gX6_isSet_X6_isIn rfl nI_X6_isIn ⟨rfl, rfl, Nat.le_of_ble_eq_true rfl, Nat.le_of_ble_eq_true rfl⟩ dX6_isSet_8 (Nat.le_of_ble_eq_true rfl) (fun r2 => ?_)
  exact v_zret (rvf := fun (res : Bool) => (some (.int (bI res)))) (wf := fun (res : Bool) => (mW q cs isK isB fed at_ ltr ab ps g kp nx fa tp rs rv ct it)) C dX6_isSet_11 rfl rfl

def f_X6_v (g : Nat → Int64) (a1 : Int32) (a2 : Int32) : Option (Int64) :=
ck (inb ((183 + (512 * a1)) + a2) 2231) (
some (g ((183 + (512 * a1)) + a2).toNatClampNeg))

theorem nI_X6_v : NameIn yX6_v 2 := ⟨by decide +kernel, by decide +kernel, by decide +kernel⟩
set_option maxRecDepth 100000 in
set_option maxHeartbeats 4000000 in
theorem k_X6_v {l : Launch} {a1 : Int32} {a2 : Int32}  {res : Int64} (hq : (mA q).Nodup) (hNK : NOK N)  (hf : f_X6_v g a1 a2 = some res) : kMet l yX6_v wsX6_v { frames := 0, cells := 0, slots := 0, locals := 0 } D vwCl (mT cs) N (mA q) [.ref (q 0), .int a1, .int a2] (mW q cs isK isB fed at_ ltr ab ps g kp nx fa tp rs rv ct it) (some (.long res)) (mW q cs isK isB fed at_ ltr ab ps g kp nx fa tp rs rv ct it) := by
  have iX6 : ∀ w ∈ wsX60, w ∈ wsX6_v := fun _ h => List.mem_cons_of_mem _ (List.mem_append_right _ h)
  refine kMet.of (cc := cX6_v) (nL := 3) (ret := (some .long)) (own := RX6) (lv := [(0, .ref (q 0)), (1, .int a1), (2, .int a2)]) (by decide +kernel) rfl rfl hNK hq (Nat.le_of_ble_eq_true rfl) rfl (fun X C => ?_)
  refine VF.of hf ?_
  unfold f_X6_v
  refine v_aload_n C 0 dX6_v_0 rfl ?_
  refine v_get C (T := TX6) (n := 16) (C9 := RX6) iX6 0 rfl rfl 0 (by decide) (List.mem_of_getElem? (i := 1) rfl) rfl rfl dX6_v_1 ?_
  refine v_sipush C dX6_v_4 (v := 183) (by decide) ?_
  refine v_sipush C dX6_v_7 (v := 512) (by decide) ?_
  refine v_iload_n C 1 dX6_v_10 rfl ?_
  refine v_imul C dX6_v_11 ?_
  refine v_iadd C dX6_v_12 ?_
  refine v_iload_n C 2 dX6_v_13 rfl ?_
  refine v_iadd C dX6_v_14 ?_
  refine v_lald C 1 1 rfl rfl dX6_v_15 ?_
  exact v_lret (rvf := fun (res : Int64) => (some (.long res))) (wf := fun (res : Int64) => (mW q cs isK isB fed at_ ltr ab ps g kp nx fa tp rs rv ct it)) C dX6_v_16 rfl rfl

def f_X6_partners (g : Nat → Int64) (a1 : Int32) : Option (Int32 × (Nat → Int64)) :=
(f_X6_isIn a1.toInt64 1 9).bind (fun (r1 : Bool) =>
if r1 = true then (
(f_X6_begins g a1).bind (fun (r2 : (Nat → Int64)) =>
some (a1, r2))) else (
some ((-2), g)))

theorem nI_X6_partners : NameIn yX6_partners 1 := ⟨by decide +kernel, by decide +kernel, by decide +kernel⟩
set_option maxRecDepth 100000 in
set_option maxHeartbeats 4000000 in
theorem k_X6_partners {l : Launch} {a1 : Int32}  {res : Int32 × (Nat → Int64)} (hq : (mA q).Nodup) (hNK : NOK N)  (hf : f_X6_partners g a1 = some res) : kMet l yX6_partners wsX6_partners { frames := 1, cells := 0, slots := 0, locals := 25 } D vwCl (mT cs) N (mA q) [.ref (q 0), .int a1] (mW q cs isK isB fed at_ ltr ab ps g kp nx fa tp rs rv ct it) (some (.int res.1)) (mW q cs isK isB fed at_ ltr ab ps res.2 kp nx fa tp rs rv ct it) := by
  refine kMet.of (cc := cX6_partners) (nL := 2) (ret := (some .int)) (own := RX6) (lv := [(0, .ref (q 0)), (1, .int a1)]) (by decide +kernel) rfl rfl hNK hq (Nat.le_of_ble_eq_true rfl) rfl (fun X C => ?_)
  refine VF.of hf ?_
  unfold f_X6_partners
  refine v_iload_n C 1 dX6_partners_0 rfl ?_
  refine v_i2l C dX6_partners_1 ?_
  refine v_lconst C dX6_partners_2 (v := 1) (by decide) ?_
  refine v_ldc2 C (v := 9) (List.mem_of_getElem? (i := 1) rfl) dX6_partners_3 ?_
  refine v_callSP3v C (fun l9 r9 h9 => k_X6_isIn (l := l9) h9) gX6_partners_X6_isIn rfl nI_X6_isIn ⟨rfl, rfl, Nat.le_of_ble_eq_true rfl, Nat.le_of_ble_eq_true rfl⟩ dX6_partners_6 (Nat.le_of_ble_eq_true rfl) (fun r1 => ?_)
  refine v_ifb_ne C (b := r1) dX6_partners_9 (tgt := 15) (by decide) ?_ ?_
  · refine v_aload_n C 0 dX6_partners_15 rfl ?_
    refine v_iload_n C 1 dX6_partners_16 rfl ?_
    refine v_callV1n C 0 rfl rfl rfl (fun l9 r9 h9 => k_X6_begins (l := l9) hq hNK  h9) gX6_partners_X6_begins rfl nI_X6_begins ⟨rfl, rfl, Nat.le_of_ble_eq_true rfl, Nat.le_of_ble_eq_true rfl⟩ dX6_partners_17 (Nat.le_of_ble_eq_true rfl) (fun r2 => ?_)
    refine v_iload_n C 1 dX6_partners_20 rfl ?_
    exact v_iret (rvf := fun (res : Int32 × (Nat → Int64)) => (some (.int res.1))) (wf := fun (res : Int32 × (Nat → Int64)) => (mW q cs isK isB fed at_ ltr ab ps res.2 kp nx fa tp rs rv ct it)) C dX6_partners_21 rfl rfl
  · refine v_bipush C dX6_partners_12 (v := (-2)) (by decide) ?_
    exact v_iret (rvf := fun (res : Int32 × (Nat → Int64)) => (some (.int res.1))) (wf := fun (res : Int32 × (Nat → Int64)) => (mW q cs isK isB fed at_ ltr ab ps res.2 kp nx fa tp rs rv ct it)) C dX6_partners_14 rfl rfl

def f_X6_value (g : Nat → Int64) (a1 : Int32) (a2 : Int32) (a3 : Int64) : Option (Int32 × (Nat → Int64)) :=
(f_X6_isGame a1).bind (fun (r1 : Bool) =>
if r1 = true then (
(f_X6_isSet g a2).bind (fun (r2 : Bool) =>
if r2 = true then (
if (a2 : Int32) = 0 then (
some ((-1), g)) else (
(f_X6_isIn a3 (-1000000000000) 1000000000000).bind (fun (r3 : Bool) =>
if r3 = true then (
ck (inb ((183 + (512 * a1)) + a2) 2231) (
nm (vp_updL g ((183 + (512 * a1)) + a2).toNatClampNeg a3) (fun (g4 : Nat → Int64) =>
some (1, g4)))) else (
some ((-2), g))))) else (
some ((-1), g)))) else (
some ((-1), g)))

theorem nI_X6_value : NameIn yX6_value 3 := ⟨by decide +kernel, by decide +kernel, by decide +kernel⟩
set_option maxRecDepth 100000 in
set_option maxHeartbeats 4000000 in
theorem k_X6_value {l : Launch} {a1 : Int32} {a2 : Int32} {a3 : Int64}  {res : Int32 × (Nat → Int64)} (hq : (mA q).Nodup) (hNK : NOK N)  (hf : f_X6_value g a1 a2 a3 = some res) : kMet l yX6_value wsX6_value { frames := 3, cells := 0, slots := 0, locals := 61 } D vwCl (mT cs) N (mA q) [.ref (q 0), .int a1, .int a2, .long a3] (mW q cs isK isB fed at_ ltr ab ps g kp nx fa tp rs rv ct it) (some (.int res.1)) (mW q cs isK isB fed at_ ltr ab ps res.2 kp nx fa tp rs rv ct it) := by
  have iX6 : ∀ w ∈ wsX60, w ∈ wsX6_value := fun _ h => List.mem_cons_of_mem _ (List.mem_append_right _ h)
  refine kMet.of (cc := cX6_value) (nL := 5) (ret := (some .int)) (own := RX6) (lv := [(0, .ref (q 0)), (1, .int a1), (2, .int a2), (3, .long a3)]) (by decide +kernel) rfl rfl hNK hq (Nat.le_of_ble_eq_true rfl) rfl (fun X C => ?_)
  refine VF.of hf ?_
  unfold f_X6_value
  refine v_iload_n C 1 dX6_value_0 rfl ?_
  refine v_callSP1v C (fun l9 r9 h9 => k_X6_isGame (l := l9) h9) gX6_value_X6_isGame rfl nI_X6_isGame ⟨rfl, rfl, Nat.le_of_ble_eq_true rfl, Nat.le_of_ble_eq_true rfl⟩ dX6_value_1 (Nat.le_of_ble_eq_true rfl) (fun r1 => ?_)
  refine v_ifb_eq C (b := r1) dX6_value_4 (tgt := 19) (by decide) ?_ ?_
  · refine v_iconst C dX6_value_19 (v := (-1)) (by decide) ?_
    exact v_iret (rvf := fun (res : Int32 × (Nat → Int64)) => (some (.int res.1))) (wf := fun (res : Int32 × (Nat → Int64)) => (mW q cs isK isB fed at_ ltr ab ps res.2 kp nx fa tp rs rv ct it)) C dX6_value_20 rfl rfl
  · refine v_aload_n C 0 dX6_value_7 rfl ?_
    refine v_iload_n C 2 dX6_value_8 rfl ?_
    refine v_callV1v C 0 rfl rfl rfl (fun l9 r9 h9 => k_X6_isSet (l := l9) hq hNK  h9) gX6_value_X6_isSet rfl nI_X6_isSet ⟨rfl, rfl, Nat.le_of_ble_eq_true rfl, Nat.le_of_ble_eq_true rfl⟩ dX6_value_9 (Nat.le_of_ble_eq_true rfl) (fun r2 => ?_)
    refine v_ifb_eq C (b := r2) dX6_value_12 (tgt := 19) (by decide) ?_ ?_
    · refine v_iconst C dX6_value_19 (v := (-1)) (by decide) ?_
      exact v_iret (rvf := fun (res : Int32 × (Nat → Int64)) => (some (.int res.1))) (wf := fun (res : Int32 × (Nat → Int64)) => (mW q cs isK isB fed at_ ltr ab ps res.2 kp nx fa tp rs rv ct it)) C dX6_value_20 rfl rfl
    · refine v_iload_n C 2 dX6_value_15 rfl ?_
      refine v_if_ne C dX6_value_16 (tgt := 21) (by decide) ?_ ?_
      · refine v_lload_n C 3 dX6_value_21 rfl ?_
        refine v_ldc2 C (v := (-1000000000000)) (List.mem_of_getElem? (i := 1) rfl) dX6_value_22 ?_
        refine v_ldc2 C (v := 1000000000000) (List.mem_of_getElem? (i := 2) rfl) dX6_value_25 ?_
        refine v_callSP3v C (fun l9 r9 h9 => k_X6_isIn (l := l9) h9) gX6_value_X6_isIn rfl nI_X6_isIn ⟨rfl, rfl, Nat.le_of_ble_eq_true rfl, Nat.le_of_ble_eq_true rfl⟩ dX6_value_28 (Nat.le_of_ble_eq_true rfl) (fun r3 => ?_)
        refine v_ifb_ne C (b := r3) dX6_value_31 (tgt := 37) (by decide) ?_ ?_
        · refine v_aload_n C 0 dX6_value_37 rfl ?_
          refine v_get C (T := TX6) (n := 16) (C9 := RX6) iX6 0 rfl rfl 0 (by decide) (List.mem_of_getElem? (i := 3) rfl) rfl rfl dX6_value_38 ?_
          refine v_sipush C dX6_value_41 (v := 183) (by decide) ?_
          refine v_sipush C dX6_value_44 (v := 512) (by decide) ?_
          refine v_iload_n C 1 dX6_value_47 rfl ?_
          refine v_imul C dX6_value_48 ?_
          refine v_iadd C dX6_value_49 ?_
          refine v_iload_n C 2 dX6_value_50 rfl ?_
          refine v_iadd C dX6_value_51 ?_
          refine v_lload_n C 3 dX6_value_52 rfl ?_
          refine v_last_nm C (fun g4 => (mW q cs isK isB fed at_ ltr ab ps g4 kp nx fa tp rs rv ct it)) 1 1 rfl rfl rfl (fun _ => rfl) dX6_value_53 (fun g4 => ?_)
          refine v_iconst C dX6_value_54 (v := 1) (by decide) ?_
          exact v_iret (rvf := fun (res : Int32 × (Nat → Int64)) => (some (.int res.1))) (wf := fun (res : Int32 × (Nat → Int64)) => (mW q cs isK isB fed at_ ltr ab ps res.2 kp nx fa tp rs rv ct it)) C dX6_value_55 rfl rfl
        · refine v_bipush C dX6_value_34 (v := (-2)) (by decide) ?_
          exact v_iret (rvf := fun (res : Int32 × (Nat → Int64)) => (some (.int res.1))) (wf := fun (res : Int32 × (Nat → Int64)) => (mW q cs isK isB fed at_ ltr ab ps res.2 kp nx fa tp rs rv ct it)) C dX6_value_36 rfl rfl
      · refine v_iconst C dX6_value_19 (v := (-1)) (by decide) ?_
        exact v_iret (rvf := fun (res : Int32 × (Nat → Int64)) => (some (.int res.1))) (wf := fun (res : Int32 × (Nat → Int64)) => (mW q cs isK isB fed at_ ltr ab ps res.2 kp nx fa tp rs rv ct it)) C dX6_value_20 rfl rfl

def f_X6_valueOf (g : Nat → Int64) (a1 : Int32) (a2 : Int32) : Option (Int64) :=
(f_X6_isGame a1).bind (fun (r1 : Bool) =>
jn0 (some (-9223372036854775808)) (fun k2 =>
if r1 = true then (
(f_X6_isSet g a2).bind (fun (r3 : Bool) =>
if r3 = true then (
(f_X6_v g a1 a2).bind (fun (r4 : Int64) =>
some r4)) else (
k2))) else (
k2)))

theorem nI_X6_valueOf : NameIn yX6_valueOf 2 := ⟨by decide +kernel, by decide +kernel, by decide +kernel⟩
set_option maxRecDepth 100000 in
set_option maxHeartbeats 4000000 in
theorem k_X6_valueOf {l : Launch} {a1 : Int32} {a2 : Int32}  {res : Int64} (hq : (mA q).Nodup) (hNK : NOK N)  (hf : f_X6_valueOf g a1 a2 = some res) : kMet l yX6_valueOf wsX6_valueOf { frames := 3, cells := 0, slots := 0, locals := 61 } D vwCl (mT cs) N (mA q) [.ref (q 0), .int a1, .int a2] (mW q cs isK isB fed at_ ltr ab ps g kp nx fa tp rs rv ct it) (some (.long res)) (mW q cs isK isB fed at_ ltr ab ps g kp nx fa tp rs rv ct it) := by
  refine kMet.of (cc := cX6_valueOf) (nL := 3) (ret := (some .long)) (own := RX6) (lv := [(0, .ref (q 0)), (1, .int a1), (2, .int a2)]) (by decide +kernel) rfl rfl hNK hq (Nat.le_of_ble_eq_true rfl) rfl (fun X C => ?_)
  refine VF.of hf ?_
  unfold f_X6_valueOf
  refine v_iload_n C 1 dX6_valueOf_0 rfl ?_
  refine v_callSP1v C (fun l9 r9 h9 => k_X6_isGame (l := l9) h9) gX6_valueOf_X6_isGame rfl nI_X6_isGame ⟨rfl, rfl, Nat.le_of_ble_eq_true rfl, Nat.le_of_ble_eq_true rfl⟩ dX6_valueOf_1 (Nat.le_of_ble_eq_true rfl) (fun r1 => ?_)
  refine v_jn0 (wj := ((mW q cs isK isB fed at_ ltr ab ps g kp nx fa tp rs rv ct it))) (pcj := 24) (lvj := ([])) (stj := ([])) ?_ (fun k2 hk2 => ?_)
  · refine v_ldc2 C (v := (-9223372036854775808)) (List.mem_of_getElem? (i := 1) rfl) dX6_valueOf_24 ?_
    exact v_lret (rvf := fun (res : Int64) => (some (.long res))) (wf := fun (res : Int64) => (mW q cs isK isB fed at_ ltr ab ps g kp nx fa tp rs rv ct it)) C dX6_valueOf_27 rfl rfl
  · refine v_ifb_eq C (b := r1) dX6_valueOf_4 (tgt := 24) (by decide) ?_ ?_
    · exact v_sub [] rfl (hk2)
    · refine v_aload_n C 0 dX6_valueOf_7 rfl ?_
      refine v_iload_n C 2 dX6_valueOf_8 rfl ?_
      refine v_callV1v C 0 rfl rfl rfl (fun l9 r9 h9 => k_X6_isSet (l := l9) hq hNK  h9) gX6_valueOf_X6_isSet rfl nI_X6_isSet ⟨rfl, rfl, Nat.le_of_ble_eq_true rfl, Nat.le_of_ble_eq_true rfl⟩ dX6_valueOf_9 (Nat.le_of_ble_eq_true rfl) (fun r3 => ?_)
      refine v_ifb_eq C (b := r3) dX6_valueOf_12 (tgt := 24) (by decide) ?_ ?_
      · exact v_sub [] rfl (hk2)
      · refine v_aload_n C 0 dX6_valueOf_15 rfl ?_
        refine v_iload_n C 1 dX6_valueOf_16 rfl ?_
        refine v_iload_n C 2 dX6_valueOf_17 rfl ?_
        refine v_callV2v C 0 rfl rfl rfl (fun l9 r9 h9 => k_X6_v (l := l9) hq hNK  h9) gX6_valueOf_X6_v rfl nI_X6_v ⟨rfl, rfl, Nat.le_of_ble_eq_true rfl, Nat.le_of_ble_eq_true rfl⟩ dX6_valueOf_18 (Nat.le_of_ble_eq_true rfl) (fun r4 => ?_)
        refine v_goto C dX6_valueOf_21 (tgt := 27) (by decide) ?_
        exact v_lret (rvf := fun (res : Int64) => (some (.long res))) (wf := fun (res : Int64) => (mW q cs isK isB fed at_ ltr ab ps g kp nx fa tp rs rv ct it)) C dX6_valueOf_27 rfl rfl

def f_X6_becomes (g : Nat → Int64) (a1 : Int32) (a2 : Int64) : Option (Int32 × (Nat → Int64)) :=
ck (inb a1 2231) (
nm (g a1.toNatClampNeg) (fun (x1 : Int64) =>
ck (inb a1 2231) (
nm (vp_updL g a1.toNatClampNeg a2) (fun (g2 : Nat → Int64) =>
some (x1.toInt32, g2)))))

theorem nI_X6_becomes : NameIn yX6_becomes 2 := ⟨by decide +kernel, by decide +kernel, by decide +kernel⟩
set_option maxRecDepth 100000 in
set_option maxHeartbeats 4000000 in
theorem k_X6_becomes {l : Launch} {a1 : Int32} {a2 : Int64}  {res : Int32 × (Nat → Int64)} (hq : (mA q).Nodup) (hNK : NOK N)  (hf : f_X6_becomes g a1 a2 = some res) : kMet l yX6_becomes wsX6_becomes { frames := 0, cells := 0, slots := 0, locals := 0 } D vwCl (mT cs) N (mA q) [.ref (q 0), .int a1, .long a2] (mW q cs isK isB fed at_ ltr ab ps g kp nx fa tp rs rv ct it) (some (.int res.1)) (mW q cs isK isB fed at_ ltr ab ps res.2 kp nx fa tp rs rv ct it) := by
  have iX6 : ∀ w ∈ wsX60, w ∈ wsX6_becomes := fun _ h => List.mem_cons_of_mem _ (List.mem_append_right _ h)
  refine kMet.of (cc := cX6_becomes) (nL := 6) (ret := (some .int)) (own := RX6) (lv := [(0, .ref (q 0)), (1, .int a1), (2, .long a2)]) (by decide +kernel) rfl rfl hNK hq (Nat.le_of_ble_eq_true rfl) rfl (fun X C => ?_)
  refine VF.of hf ?_
  unfold f_X6_becomes
  refine v_aload_n C 0 dX6_becomes_0 rfl ?_
  refine v_get C (T := TX6) (n := 16) (C9 := RX6) iX6 0 rfl rfl 0 (by decide) (List.mem_of_getElem? (i := 1) rfl) rfl rfl dX6_becomes_1 ?_
  refine v_iload_n C 1 dX6_becomes_4 rfl ?_
  refine v_lald C 1 1 rfl rfl dX6_becomes_5 ?_
  refine v_lstore_nm C (lvf := fun x1 => [(4, .long x1), (0, .ref (q 0)), (1, .int a1), (2, .long a2)]) dX6_becomes_6 (by decide) (fun _ => rfl) (fun x1 => ?_)
  refine v_aload_n C 1 dX6_becomes_8 rfl ?_
  refine v_get C (T := TX6) (n := 16) (C9 := RX6) iX6 0 rfl rfl 0 (by decide) (List.mem_of_getElem? (i := 1) rfl) rfl rfl dX6_becomes_9 ?_
  refine v_iload_n C 2 dX6_becomes_12 rfl ?_
  refine v_lload_n C 3 dX6_becomes_13 rfl ?_
  refine v_last_nm C (fun g2 => (mW q cs isK isB fed at_ ltr ab ps g2 kp nx fa tp rs rv ct it)) 1 1 rfl rfl rfl (fun _ => rfl) dX6_becomes_14 (fun g2 => ?_)
  refine v_lload C 0 dX6_becomes_15 rfl ?_
  refine v_l2i C dX6_becomes_17 ?_
  exact v_iret (rvf := fun (res : Int32 × (Nat → Int64)) => (some (.int res.1))) (wf := fun (res : Int32 × (Nat → Int64)) => (mW q cs isK isB fed at_ ltr ab ps res.2 kp nx fa tp rs rv ct it)) C dX6_becomes_18 rfl rfl

end WK
