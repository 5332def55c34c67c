section WK
variable {q : Nat → Nat} {cs : Nat → ClassId} {D : va_G} {N : (Nat → Prop) → State → Prop} {isK : Bool} {isB : Bool} {fed : Int32} {at_ : Int32} {ltr : Int32} {ab : Int64} {ps : Nat} {g : Nat → Int64} {kp : Nat → Int64} {nx : Nat → Int64} {fa : Nat → Int64} {tp : Nat → Int32} {rs : Nat → Int32} {rv : Nat → Int64} {ct : Nat → Int32} {it : Nat → Int64}
def B_X6_isAlike_1 (g : Nat → Int64) (a1 : Int32) (a2 : Int32) (a3 : Int32) (rec1 : Int32 → Option (Bool))  (v2 : Int32) : Option (Bool) :=
(f_X6_all g).bind (fun (r3 : Int32) =>
if (r3 : Int32) < v2 then (
some true) else (
(f_X6_has v2 a2).bind (fun (r4 : Bool) =>
jn0 (nm (v2 + 1) (fun (x6 : Int32) =>
rec1 x6)) (fun k5 =>
if r4 = true then (
k5) else (
(f_X6_has v2 a3).bind (fun (r7 : Bool) =>
if r7 = true then (
k5) else (
(f_X6_v g a1 (v2 ||| (1 <<< (a2 &&& 31)))).bind (fun (r8 : Int64) =>
(f_X6_v g a1 (v2 ||| (1 <<< (a3 &&& 31)))).bind (fun (r9 : Int64) =>
if (r8 : Int64) = r9 then (
k5) else (
some false))))))))))
def L_X6_isAlike_1 (g : Nat → Int64) (a1 : Int32) (a2 : Int32) (a3 : Int32)  : Nat → Int32 → Option (Bool)
  | 0, _ => none
  | m9 + 1, v2 => B_X6_isAlike_1 g a1 a2 a3 (L_X6_isAlike_1 g a1 a2 a3 m9)  v2

def f_X6_isAlike (g : Nat → Int64) (a1 : Int32) (a2 : Int32) (a3 : Int32) : Option (Bool) :=
L_X6_isAlike_1 g a1 a2 a3  FU 0

theorem nI_X6_isAlike : NameIn yX6_isAlike 3 := ⟨by decide +kernel, by decide +kernel, by decide +kernel⟩
set_option maxRecDepth 100000 in
set_option maxHeartbeats 4000000 in
theorem lp_X6_isAlike_1 {X : CX} {res : Bool} {a1 : Int32} {a2 : Int32} {a3 : Int32}   (hq : (mA q).Nodup) (hNK : NOK N) (C : Ok X cX6_isAlike 5 (some .boolean) wsX6_isAlike RX6 { frames := 2, cells := 0, slots := 0, locals := 40 } D vwCl (mT cs) (mA q) N (some (.int (bI res))) (mW q cs isK isB fed at_ ltr ab ps g kp nx fa tp rs rv ct it))  : ∀ fuel : Nat, ∀ v2 : Int32, VF X res (L_X6_isAlike_1 g a1 a2 a3 fuel v2) (mW q cs isK isB fed at_ ltr ab ps g kp nx fa tp rs rv ct it) 3 [(0, .ref (q 0)), (1, .int a1), (2, .int a2), (3, .int a3), (4, .int v2)] [] := by
  intro fuel
  induction fuel with
  | zero =>
    intro _
    exact v_none
  | succ fuel ih =>
    intro v2
    show VF X res (B_X6_isAlike_1 g a1 a2 a3 (L_X6_isAlike_1 g a1 a2 a3 fuel)  v2) _ _ _ _
    unfold B_X6_isAlike_1
    refine v_iload C 4 dX6_isAlike_3 rfl ?_
    refine v_aload_n C 0 dX6_isAlike_5 rfl ?_
    refine v_callV0v C 0 rfl rfl rfl (fun l9 r9 h9 => k_X6_all (l := l9) hq hNK  h9) gX6_isAlike_X6_all rfl nI_X6_all ⟨rfl, rfl, Nat.le_of_ble_eq_true rfl, Nat.le_of_ble_eq_true rfl⟩ dX6_isAlike_6 (Nat.le_of_ble_eq_true rfl) (fun r3 => ?_)
    refine v_icmp_gt C dX6_isAlike_9 (tgt := 64) (by decide) ?_ ?_
    · refine v_iconst C dX6_isAlike_64 (v := 1) (by decide) ?_
      exact v_zret (rvf := fun (res : Bool) => (some (.int (bI res)))) (wf := fun (res : Bool) => (mW q cs isK isB fed at_ ltr ab ps g kp nx fa tp rs rv ct it)) C dX6_isAlike_65 rfl rfl
    · refine v_iload C 4 dX6_isAlike_12 rfl ?_
      refine v_iload_n C 2 dX6_isAlike_14 rfl ?_
      refine v_callSP2v C (fun l9 r9 h9 => k_X6_has (l := l9) h9) gX6_isAlike_X6_has rfl nI_X6_has ⟨rfl, rfl, Nat.le_of_ble_eq_true rfl, Nat.le_of_ble_eq_true rfl⟩ dX6_isAlike_15 (Nat.le_of_ble_eq_true rfl) (fun r4 => ?_)
      refine v_jn0 (wj := ((mW q cs isK isB fed at_ ltr ab ps g kp nx fa tp rs rv ct it))) (pcj := 58) (lvj := ([(0, .ref (q 0)), (1, .int a1), (2, .int a2), (3, .int a3), (4, .int v2)])) (stj := ([])) ?_ (fun k5 hk5 => ?_)
      · refine v_iinc_nm C (lvf := fun x6 => [(4, .int x6), (0, .ref (q 0)), (1, .int a1), (2, .int a2), (3, .int a3)]) 4 dX6_isAlike_58 rfl rfl (by decide) (fun _ => rfl) (fun x6 => ?_)
        refine v_goto C dX6_isAlike_61 (tgt := 3) (by decide) ?_
        exact v_sub [1, 2, 3, 4, 0] rfl (ih x6)
      · refine v_ifb_ne C (b := r4) dX6_isAlike_18 (tgt := 58) (by decide) ?_ ?_
        · exact v_sub [0, 1, 2, 3, 4] rfl (hk5)
        · refine v_iload C 4 dX6_isAlike_21 rfl ?_
          refine v_iload_n C 3 dX6_isAlike_23 rfl ?_
          refine v_callSP2v C (fun l9 r9 h9 => k_X6_has (l := l9) h9) gX6_isAlike_X6_has rfl nI_X6_has ⟨rfl, rfl, Nat.le_of_ble_eq_true rfl, Nat.le_of_ble_eq_true rfl⟩ dX6_isAlike_24 (Nat.le_of_ble_eq_true rfl) (fun r7 => ?_)
          refine v_ifb_ne C (b := r7) dX6_isAlike_27 (tgt := 58) (by decide) ?_ ?_
          · exact v_sub [0, 1, 2, 3, 4] rfl (hk5)
          · refine v_aload_n C 0 dX6_isAlike_30 rfl ?_
            refine v_iload_n C 1 dX6_isAlike_31 rfl ?_
            refine v_iload C 4 dX6_isAlike_32 rfl ?_
            refine v_iconst C dX6_isAlike_34 (v := 1) (by decide) ?_
            refine v_iload_n C 2 dX6_isAlike_35 rfl ?_
            refine v_ishl C dX6_isAlike_36 ?_
            refine v_ior C dX6_isAlike_37 ?_
            refine v_callV2v C 0 rfl rfl rfl (fun l9 r9 h9 => k_X6_v (l := l9) hq hNK  h9) gX6_isAlike_X6_v rfl nI_X6_v ⟨rfl, rfl, Nat.le_of_ble_eq_true rfl, Nat.le_of_ble_eq_true rfl⟩ dX6_isAlike_38 (Nat.le_of_ble_eq_true rfl) (fun r8 => ?_)
            refine v_aload_n C 0 dX6_isAlike_41 rfl ?_
            refine v_iload_n C 1 dX6_isAlike_42 rfl ?_
            refine v_iload C 4 dX6_isAlike_43 rfl ?_
            refine v_iconst C dX6_isAlike_45 (v := 1) (by decide) ?_
            refine v_iload_n C 3 dX6_isAlike_46 rfl ?_
            refine v_ishl C dX6_isAlike_47 ?_
            refine v_ior C dX6_isAlike_48 ?_
            refine v_callV2v C 0 rfl rfl rfl (fun l9 r9 h9 => k_X6_v (l := l9) hq hNK  h9) gX6_isAlike_X6_v rfl nI_X6_v ⟨rfl, rfl, Nat.le_of_ble_eq_true rfl, Nat.le_of_ble_eq_true rfl⟩ dX6_isAlike_49 (Nat.le_of_ble_eq_true rfl) (fun r9 => ?_)
            refine v_lcmp_eq C dX6_isAlike_52 dX6_isAlike_53 (tgt := 58) (by decide) ?_ ?_
            · exact v_sub [0, 1, 2, 3, 4] rfl (hk5)
            · refine v_iconst C dX6_isAlike_56 (v := 0) (by decide) ?_
              exact v_zret (rvf := fun (res : Bool) => (some (.int (bI res)))) (wf := fun (res : Bool) => (mW q cs isK isB fed at_ ltr ab ps g kp nx fa tp rs rv ct it)) C dX6_isAlike_57 rfl rfl

set_option maxRecDepth 100000 in
set_option maxHeartbeats 4000000 in
theorem k_X6_isAlike {l : Launch} {a1 : Int32} {a2 : Int32} {a3 : Int32}  {res : Bool} (hq : (mA q).Nodup) (hNK : NOK N)  (hf : f_X6_isAlike g a1 a2 a3 = some res) : kMet l yX6_isAlike wsX6_isAlike { frames := 2, cells := 0, slots := 0, locals := 40 } D vwCl (mT cs) N (mA q) [.ref (q 0), .int a1, .int a2, .int a3] (mW q cs isK isB fed at_ ltr ab ps g kp nx fa tp rs rv ct it) (some (.int (bI res))) (mW q cs isK isB fed at_ ltr ab ps g kp nx fa tp rs rv ct it) := by
  refine kMet.of (cc := cX6_isAlike) (nL := 5) (ret := (some .boolean)) (own := RX6) (lv := [(0, .ref (q 0)), (1, .int a1), (2, .int a2), (3, .int a3)]) (by decide +kernel) rfl rfl hNK hq (Nat.le_of_ble_eq_true rfl) rfl (fun X C => ?_)
  refine VF.of hf ?_
  unfold f_X6_isAlike
  refine v_iconst C dX6_isAlike_0 (v := 0) (by decide) ?_
  refine v_istore C (lv' := [(4, .int 0), (0, .ref (q 0)), (1, .int a1), (2, .int a2), (3, .int a3)]) dX6_isAlike_1 (by decide) rfl ?_
  refine v_sub [1, 2, 3, 4, 0] rfl (lp_X6_isAlike_1 hq hNK C   FU 0)

def B_X6_alike_1 (g : Nat → Int64) (a1 : Int32) (a2 : Int32) (rec3 : Int32 → Int32 → Option (Int32))  (v4 : Int32) (v5 : Int32) : Option (Int32) :=
(f_X6_n g).bind (fun (r6 : Int32) =>
if (v5 : Int32) < r6 then (
(f_X6_isAlike g a1 a2 v5).bind (fun (r7 : Bool) =>
jn1 (fun (v9 : Int32) =>
nm (v4 ||| v9) (fun (x10 : Int32) =>
nm (v5 + 1) (fun (x11 : Int32) =>
rec3 x10 x11))) (fun k8 =>
if r7 = true then (
k8 (1 <<< (v5 &&& 31))) else (
k8 0)))) else (
some v4))
def L_X6_alike_1 (g : Nat → Int64) (a1 : Int32) (a2 : Int32)  : Nat → Int32 → Int32 → Option (Int32)
  | 0, _, _ => none
  | m9 + 1, v4, v5 => B_X6_alike_1 g a1 a2 (L_X6_alike_1 g a1 a2 m9)  v4 v5

def f_X6_alike (g : Nat → Int64) (a1 : Int32) (a2 : Int32) : Option (Int32) :=
(f_X6_isGame a1).bind (fun (r1 : Bool) =>
if r1 = true then (
(f_X6_isPartner g a2).bind (fun (r2 : Bool) =>
if r2 = true then (
L_X6_alike_1 g a1 a2  FU 0 0) else (
some (-1)))) else (
some (-1)))

theorem nI_X6_alike : NameIn yX6_alike 2 := ⟨by decide +kernel, by decide +kernel, by decide +kernel⟩
set_option maxRecDepth 100000 in
set_option maxHeartbeats 4000000 in
theorem lp_X6_alike_1 {X : CX} {res : Int32} {a1 : Int32} {a2 : Int32}   (hq : (mA q).Nodup) (hNK : NOK N) (C : Ok X cX6_alike 5 (some .int) wsX6_alike RX6 { frames := 3, cells := 0, slots := 0, locals := 64 } D vwCl (mT cs) (mA q) N (some (.int res)) (mW q cs isK isB fed at_ ltr ab ps g kp nx fa tp rs rv ct it))  : ∀ fuel : Nat, ∀ v4 : Int32, ∀ v5 : Int32, VF X res (L_X6_alike_1 g a1 a2 fuel v4 v5) (mW q cs isK isB fed at_ ltr ab ps g kp nx fa tp rs rv ct it) 22 [(0, .ref (q 0)), (1, .int a1), (2, .int a2), (3, .int v4), (4, .int v5)] [] := by
  intro fuel
  induction fuel with
  | zero =>
    intro _ _
    exact v_none
  | succ fuel ih =>
    intro v4 v5
    show VF X res (B_X6_alike_1 g a1 a2 (L_X6_alike_1 g a1 a2 fuel)  v4 v5) _ _ _ _
    unfold B_X6_alike_1
    refine v_iload C 4 dX6_alike_22 rfl ?_
    refine v_aload_n C 0 dX6_alike_24 rfl ?_
    refine v_callV0v C 0 rfl rfl rfl (fun l9 r9 h9 => k_X6_n (l := l9) hq hNK  h9) gX6_alike_X6_n rfl nI_X6_n ⟨rfl, rfl, Nat.le_of_ble_eq_true rfl, Nat.le_of_ble_eq_true rfl⟩ dX6_alike_25 (Nat.le_of_ble_eq_true rfl) (fun r6 => ?_)
    refine v_icmp_ge C dX6_alike_28 (tgt := 59) (by decide) ?_ ?_
    · refine v_iload_n C 3 dX6_alike_59 rfl ?_
      exact v_iret (rvf := fun (res : Int32) => (some (.int res))) (wf := fun (res : Int32) => (mW q cs isK isB fed at_ ltr ab ps g kp nx fa tp rs rv ct it)) C dX6_alike_60 rfl rfl
    · refine v_iload_n C 3 dX6_alike_31 rfl ?_
      refine v_aload_n C 0 dX6_alike_32 rfl ?_
      refine v_iload_n C 1 dX6_alike_33 rfl ?_
      refine v_iload_n C 2 dX6_alike_34 rfl ?_
      refine v_iload C 4 dX6_alike_35 rfl ?_
      refine v_callV3v C 0 rfl rfl rfl (fun l9 r9 h9 => k_X6_isAlike (l := l9) hq hNK  h9) gX6_alike_X6_isAlike rfl nI_X6_isAlike ⟨rfl, rfl, Nat.le_of_ble_eq_true rfl, Nat.le_of_ble_eq_true rfl⟩ dX6_alike_37 (Nat.le_of_ble_eq_true rfl) (fun r7 => ?_)
      refine v_jn1 (wj := (fun v9 => (mW q cs isK isB fed at_ ltr ab ps g kp nx fa tp rs rv ct it))) (pcj := 51) (lvj := (fun v9 => [(0, .ref (q 0)), (1, .int a1), (2, .int a2), (4, .int v5)])) (stj := (fun v9 => [.int v9, .int v4])) (fun v9 => ?_) (fun k8 hk8 => ?_)
      · refine v_ior C dX6_alike_51 ?_
        refine v_istore_n_nm C (lvf := fun x10 => [(3, .int x10), (0, .ref (q 0)), (1, .int a1), (2, .int a2), (4, .int v5)]) dX6_alike_52 rfl (by decide) (fun _ => rfl) (fun x10 => ?_)
        refine v_iinc_nm C (lvf := fun x11 => [(4, .int x11), (3, .int x10), (0, .ref (q 0)), (1, .int a1), (2, .int a2)]) 4 dX6_alike_53 rfl rfl (by decide) (fun _ => rfl) (fun x11 => ?_)
        refine v_goto C dX6_alike_56 (tgt := 22) (by decide) ?_
        exact v_sub [2, 3, 4, 1, 0] rfl (ih x10 x11)
      · refine v_ifb_eq C (b := r7) dX6_alike_40 (tgt := 50) (by decide) ?_ ?_
        · refine v_iconst C dX6_alike_50 (v := 0) (by decide) ?_
          exact v_sub [0, 1, 2, 4] rfl (hk8 0)
        · refine v_iconst C dX6_alike_43 (v := 1) (by decide) ?_
          refine v_iload C 4 dX6_alike_44 rfl ?_
          refine v_ishl C dX6_alike_46 ?_
          refine v_goto C dX6_alike_47 (tgt := 51) (by decide) ?_
          exact v_sub [0, 1, 2, 4] rfl (hk8 (1 <<< (v5 &&& 31)))

set_option maxRecDepth 100000 in
set_option maxHeartbeats 4000000 in
theorem k_X6_alike {l : Launch} {a1 : Int32} {a2 : Int32}  {res : Int32} (hq : (mA q).Nodup) (hNK : NOK N)  (hf : f_X6_alike g a1 a2 = some res) : kMet l yX6_alike wsX6_alike { frames := 3, cells := 0, slots := 0, locals := 64 } D vwCl (mT cs) N (mA q) [.ref (q 0), .int a1, .int a2] (mW q cs isK isB fed at_ ltr ab ps g kp nx fa tp rs rv ct it) (some (.int res)) (mW q cs isK isB fed at_ ltr ab ps g kp nx fa tp rs rv ct it) := by
  refine kMet.of (cc := cX6_alike) (nL := 5) (ret := (some .int)) (own := RX6) (lv := [(0, .ref (q 0)), (1, .int a1), (2, .int a2)]) (by decide +kernel) rfl rfl hNK hq (Nat.le_of_ble_eq_true rfl) rfl (fun X C => ?_)
  refine VF.of hf ?_
  unfold f_X6_alike
  refine v_iload_n C 1 dX6_alike_0 rfl ?_
  refine v_callSP1v C (fun l9 r9 h9 => k_X6_isGame (l := l9) h9) gX6_alike_X6_isGame rfl nI_X6_isGame ⟨rfl, rfl, Nat.le_of_ble_eq_true rfl, Nat.le_of_ble_eq_true rfl⟩ dX6_alike_1 (Nat.le_of_ble_eq_true rfl) (fun r1 => ?_)
  refine v_ifb_eq C (b := r1) dX6_alike_4 (tgt := 15) (by decide) ?_ ?_
  · refine v_iconst C dX6_alike_15 (v := (-1)) (by decide) ?_
    exact v_iret (rvf := fun (res : Int32) => (some (.int res))) (wf := fun (res : Int32) => (mW q cs isK isB fed at_ ltr ab ps g kp nx fa tp rs rv ct it)) C dX6_alike_16 rfl rfl
  · refine v_aload_n C 0 dX6_alike_7 rfl ?_
    refine v_iload_n C 2 dX6_alike_8 rfl ?_
    refine v_callV1v C 0 rfl rfl rfl (fun l9 r9 h9 => k_X6_isPartner (l := l9) hq hNK  h9) gX6_alike_X6_isPartner rfl nI_X6_isPartner ⟨rfl, rfl, Nat.le_of_ble_eq_true rfl, Nat.le_of_ble_eq_true rfl⟩ dX6_alike_9 (Nat.le_of_ble_eq_true rfl) (fun r2 => ?_)
    refine v_ifb_ne C (b := r2) dX6_alike_12 (tgt := 17) (by decide) ?_ ?_
    · refine v_iconst C dX6_alike_17 (v := 0) (by decide) ?_
      refine v_istore_n C (lv' := [(3, .int 0), (0, .ref (q 0)), (1, .int a1), (2, .int a2)]) dX6_alike_18 rfl (by decide) rfl ?_
      refine v_iconst C dX6_alike_19 (v := 0) (by decide) ?_
      refine v_istore C (lv' := [(4, .int 0), (3, .int 0), (0, .ref (q 0)), (1, .int a1), (2, .int a2)]) dX6_alike_20 (by decide) rfl ?_
      refine v_sub [2, 3, 4, 1, 0] rfl (lp_X6_alike_1 hq hNK C   FU 0 0)
    · refine v_iconst C dX6_alike_15 (v := (-1)) (by decide) ?_
      exact v_iret (rvf := fun (res : Int32) => (some (.int res))) (wf := fun (res : Int32) => (mW q cs isK isB fed at_ ltr ab ps g kp nx fa tp rs rv ct it)) C dX6_alike_16 rfl rfl

def f_X6_carrier (isB : Bool) (g : Nat → Int64) (a1 : Int32) : Option (Int32 × Bool) :=
(f_X6_isGame a1).bind (fun (r1 : Bool) =>
if r1 = true then (
(f_X6_all g).bind (fun (r2 : Int32) =>
(f_X6_kind isB g a1 0).bind (fun (r3 : Int32 × Bool) =>
some (r2 &&& (r3.1 ^^^ (-1)), r3.2)))) else (
some ((-1), isB)))

theorem nI_X6_carrier : NameIn yX6_carrier 1 := ⟨by decide +kernel, by decide +kernel, by decide +kernel⟩
set_option maxRecDepth 100000 in
set_option maxHeartbeats 4000000 in
theorem k_X6_carrier {l : Launch} {a1 : Int32}  {res : Int32 × Bool} (hq : (mA q).Nodup) (hNK : NOK N)  (hf : f_X6_carrier isB g a1 = some res) : kMet l yX6_carrier wsX6_carrier { frames := 4, cells := 0, slots := 0, locals := 102 } D vwCl (mT cs) N (mA q) [.ref (q 0), .int a1] (mW q cs isK isB fed at_ ltr ab ps g kp nx fa tp rs rv ct it) (some (.int res.1)) (mW q cs isK res.2 fed at_ ltr ab ps g kp nx fa tp rs rv ct it) := by
  refine kMet.of (cc := cX6_carrier) (nL := 2) (ret := (some .int)) (own := RX6) (lv := [(0, .ref (q 0)), (1, .int a1)]) (by decide +kernel) rfl rfl hNK hq (Nat.le_of_ble_eq_true rfl) rfl (fun X C => ?_)
  refine VF.of hf ?_
  unfold f_X6_carrier
  refine v_iload_n C 1 dX6_carrier_0 rfl ?_
  refine v_callSP1v C (fun l9 r9 h9 => k_X6_isGame (l := l9) h9) gX6_carrier_X6_isGame rfl nI_X6_isGame ⟨rfl, rfl, Nat.le_of_ble_eq_true rfl, Nat.le_of_ble_eq_true rfl⟩ dX6_carrier_1 (Nat.le_of_ble_eq_true rfl) (fun r1 => ?_)
  refine v_ifb_eq C (b := r1) dX6_carrier_4 (tgt := 23) (by decide) ?_ ?_
  · refine v_iconst C dX6_carrier_23 (v := (-1)) (by decide) ?_
    exact v_iret (rvf := fun (res : Int32 × Bool) => (some (.int res.1))) (wf := fun (res : Int32 × Bool) => (mW q cs isK res.2 fed at_ ltr ab ps g kp nx fa tp rs rv ct it)) C dX6_carrier_24 rfl rfl
  · refine v_aload_n C 0 dX6_carrier_7 rfl ?_
    refine v_callV0v C 0 rfl rfl rfl (fun l9 r9 h9 => k_X6_all (l := l9) hq hNK  h9) gX6_carrier_X6_all rfl nI_X6_all ⟨rfl, rfl, Nat.le_of_ble_eq_true rfl, Nat.le_of_ble_eq_true rfl⟩ dX6_carrier_8 (Nat.le_of_ble_eq_true rfl) (fun r2 => ?_)
    refine v_aload_n C 0 dX6_carrier_11 rfl ?_
    refine v_iload_n C 1 dX6_carrier_12 rfl ?_
    refine v_iconst C dX6_carrier_13 (v := 0) (by decide) ?_
    refine v_callV2v C 0 rfl rfl rfl (fun l9 r9 h9 => k_X6_kind (l := l9) hq hNK  h9) gX6_carrier_X6_kind rfl nI_X6_kind ⟨rfl, rfl, Nat.le_of_ble_eq_true rfl, Nat.le_of_ble_eq_true rfl⟩ dX6_carrier_14 (Nat.le_of_ble_eq_true rfl) (fun r3 => ?_)
    refine v_iconst C dX6_carrier_17 (v := (-1)) (by decide) ?_
    refine v_ixor C dX6_carrier_18 ?_
    refine v_iand C dX6_carrier_19 ?_
    refine v_goto C dX6_carrier_20 (tgt := 24) (by decide) ?_
    exact v_iret (rvf := fun (res : Int32 × Bool) => (some (.int res.1))) (wf := fun (res : Int32 × Bool) => (mW q cs isK res.2 fed at_ ltr ab ps g kp nx fa tp rs rv ct it)) C dX6_carrier_24 rfl rfl

def f_X6_agree (isB : Bool) (g : Nat → Int64) (a1 : Int32) (a2 : Int32) (a3 : Int32) (a4 : Int32) : Option (Bool × Bool) :=
if (a2 : Int32) = 0 then (
jn0 (some (true, isB)) (fun k12 =>
if (a3 &&& (a4 ^^^ (-1)) : Int32) = 0 then (
(f_X6_v g a1 a3).bind (fun (r13 : Int64) =>
(f_X6_v g a1 a4).bind (fun (r14 : Int64) =>
if (r14 : Int64) < r13 then (
some (false, isB)) else (
k12)))) else (
k12))) else (
jn0 ((f_X6_v g a1 a3).bind (fun (r2 : Int64) =>
(f_X6_v g a1 a4).bind (fun (r3 : Int64) =>
(f_X6_plus isB r2 r3).bind (fun (r4 : Int64 × Bool) =>
jn2 (fun (v6 : Int64) (isB7 : Bool) =>
if (v6 : Int64) < r4.1 then (
some (false, isB7)) else (
some (true, isB7))) (fun k5 =>
if (a2 : Int32) = 2 then (
(f_X6_v g a1 (a3 ||| a4)).bind (fun (r11 : Int64) =>
k5 r11 r4.2)) else (
(f_X6_v g a1 (a3 &&& a4)).bind (fun (r8 : Int64) =>
(f_X6_v g a1 (a3 ||| a4)).bind (fun (r9 : Int64) =>
(f_X6_plus r4.2 r8 r9).bind (fun (r10 : Int64 × Bool) =>
k5 r10.1 r10.2))))))))) (fun k1 =>
if (a2 : Int32) = 2 then (
if (a3 &&& a4 : Int32) = 0 then (
k1) else (
some (true, isB))) else (
k1)))

theorem nI_X6_agree : NameIn yX6_agree 4 := ⟨by decide +kernel, by decide +kernel, by decide +kernel⟩
set_option maxRecDepth 100000 in
set_option maxHeartbeats 4000000 in
theorem k_X6_agree {l : Launch} {a1 : Int32} {a2 : Int32} {a3 : Int32} {a4 : Int32}  {res : Bool × Bool} (hq : (mA q).Nodup) (hNK : NOK N)  (hf : f_X6_agree isB g a1 a2 a3 a4 = some res) : kMet l yX6_agree wsX6_agree { frames := 1, cells := 0, slots := 0, locals := 26 } D vwCl (mT cs) N (mA q) [.ref (q 0), .int a1, .int a2, .int a3, .int a4] (mW q cs isK isB fed at_ ltr ab ps g kp nx fa tp rs rv ct it) (some (.int (bI res.1))) (mW q cs isK res.2 fed at_ ltr ab ps g kp nx fa tp rs rv ct it) := by
  refine kMet.of (cc := cX6_agree) (nL := 7) (ret := (some .boolean)) (own := RX6) (lv := [(0, .ref (q 0)), (1, .int a1), (2, .int a2), (3, .int a3), (4, .int a4)]) (by decide +kernel) rfl rfl hNK hq (Nat.le_of_ble_eq_true rfl) rfl (fun X C => ?_)
  refine VF.of hf ?_
  unfold f_X6_agree
  refine v_iload_n C 2 dX6_agree_0 rfl ?_
  refine v_if_ne C dX6_agree_1 (tgt := 36) (by decide) ?_ ?_
  · refine v_iload_n C 2 dX6_agree_36 rfl ?_
    refine v_iconst C dX6_agree_37 (v := 2) (by decide) ?_
    refine v_jn0 (wj := ((mW q cs isK isB fed at_ ltr ab ps g kp nx fa tp rs rv ct it))) (pcj := 50) (lvj := ([(0, .ref (q 0)), (1, .int a1), (2, .int a2), (3, .int a3), (4, .int a4)])) (stj := ([])) ?_ (fun k1 hk1 => ?_)
    · refine v_aload_n C 0 dX6_agree_50 rfl ?_
      refine v_aload_n C 0 dX6_agree_51 rfl ?_
      refine v_iload_n C 1 dX6_agree_52 rfl ?_
      refine v_iload_n C 3 dX6_agree_53 rfl ?_
      refine v_callV2v C 0 rfl rfl rfl (fun l9 r9 h9 => k_X6_v (l := l9) hq hNK  h9) gX6_agree_X6_v rfl nI_X6_v ⟨rfl, rfl, Nat.le_of_ble_eq_true rfl, Nat.le_of_ble_eq_true rfl⟩ dX6_agree_54 (Nat.le_of_ble_eq_true rfl) (fun r2 => ?_)
      refine v_aload_n C 0 dX6_agree_57 rfl ?_
      refine v_iload_n C 1 dX6_agree_58 rfl ?_
      refine v_iload C 4 dX6_agree_59 rfl ?_
      refine v_callV2v C 0 rfl rfl rfl (fun l9 r9 h9 => k_X6_v (l := l9) hq hNK  h9) gX6_agree_X6_v rfl nI_X6_v ⟨rfl, rfl, Nat.le_of_ble_eq_true rfl, Nat.le_of_ble_eq_true rfl⟩ dX6_agree_61 (Nat.le_of_ble_eq_true rfl) (fun r3 => ?_)
      refine v_callV2v C 0 rfl rfl rfl (fun l9 r9 h9 => k_X6_plus (l := l9) hq hNK  h9) gX6_agree_X6_plus rfl nI_X6_plus ⟨rfl, rfl, Nat.le_of_ble_eq_true rfl, Nat.le_of_ble_eq_true rfl⟩ dX6_agree_64 (Nat.le_of_ble_eq_true rfl) (fun r4 => ?_)
      refine v_lstore C (lv' := [(5, .long r4.1), (0, .ref (q 0)), (1, .int a1), (2, .int a2), (3, .int a3), (4, .int a4)]) dX6_agree_67 (by decide) rfl ?_
      refine v_lload C 0 dX6_agree_69 rfl ?_
      refine v_iload_n C 3 dX6_agree_71 rfl ?_
      refine v_iconst C dX6_agree_72 (v := 2) (by decide) ?_
      refine v_jn2 (wj := (fun v6 isB7 => (mW q cs isK isB7 fed at_ ltr ab ps g kp nx fa tp rs rv ct it))) (pcj := 110) (lvj := (fun v6 isB7 => [])) (stj := (fun v6 isB7 => [.long v6, .long r4.1])) (fun v6 isB7 => ?_) (fun k5 hk5 => ?_)
      · refine v_lcmp_gt C dX6_agree_110 dX6_agree_111 (tgt := 118) (by decide) ?_ ?_
        · refine v_iconst C dX6_agree_118 (v := 0) (by decide) ?_
          exact v_zret (rvf := fun (res : Bool × Bool) => (some (.int (bI res.1)))) (wf := fun (res : Bool × Bool) => (mW q cs isK res.2 fed at_ ltr ab ps g kp nx fa tp rs rv ct it)) C dX6_agree_119 rfl rfl
        · refine v_iconst C dX6_agree_114 (v := 1) (by decide) ?_
          refine v_goto C dX6_agree_115 (tgt := 119) (by decide) ?_
          exact v_zret (rvf := fun (res : Bool × Bool) => (some (.int (bI res.1)))) (wf := fun (res : Bool × Bool) => (mW q cs isK res.2 fed at_ ltr ab ps g kp nx fa tp rs rv ct it)) C dX6_agree_119 rfl rfl
      · refine v_icmp_ne C dX6_agree_73 (tgt := 88) (by decide) ?_ ?_
        · refine v_aload_n C 1 dX6_agree_88 rfl ?_
          refine v_aload_n C 1 dX6_agree_89 rfl ?_
          refine v_iload_n C 2 dX6_agree_90 rfl ?_
          refine v_iload_n C 4 dX6_agree_91 rfl ?_
          refine v_iload C 5 dX6_agree_92 rfl ?_
          refine v_iand C dX6_agree_94 ?_
          refine v_callV2v C 0 rfl rfl rfl (fun l9 r9 h9 => k_X6_v (l := l9) hq hNK  h9) gX6_agree_X6_v rfl nI_X6_v ⟨rfl, rfl, Nat.le_of_ble_eq_true rfl, Nat.le_of_ble_eq_true rfl⟩ dX6_agree_95 (Nat.le_of_ble_eq_true rfl) (fun r8 => ?_)
          refine v_aload_n C 1 dX6_agree_98 rfl ?_
          refine v_iload_n C 2 dX6_agree_99 rfl ?_
          refine v_iload_n C 4 dX6_agree_100 rfl ?_
          refine v_iload C 5 dX6_agree_101 rfl ?_
          refine v_ior C dX6_agree_103 ?_
          refine v_callV2v C 0 rfl rfl rfl (fun l9 r9 h9 => k_X6_v (l := l9) hq hNK  h9) gX6_agree_X6_v rfl nI_X6_v ⟨rfl, rfl, Nat.le_of_ble_eq_true rfl, Nat.le_of_ble_eq_true rfl⟩ dX6_agree_104 (Nat.le_of_ble_eq_true rfl) (fun r9 => ?_)
          refine v_callV2v C 0 rfl rfl rfl (fun l9 r9 h9 => k_X6_plus (l := l9) hq hNK  h9) gX6_agree_X6_plus rfl nI_X6_plus ⟨rfl, rfl, Nat.le_of_ble_eq_true rfl, Nat.le_of_ble_eq_true rfl⟩ dX6_agree_107 (Nat.le_of_ble_eq_true rfl) (fun r10 => ?_)
          exact v_sub [] rfl (hk5 r10.1 r10.2)
        · refine v_aload_n C 1 dX6_agree_76 rfl ?_
          refine v_iload_n C 2 dX6_agree_77 rfl ?_
          refine v_iload_n C 4 dX6_agree_78 rfl ?_
          refine v_iload C 5 dX6_agree_79 rfl ?_
          refine v_ior C dX6_agree_81 ?_
          refine v_callV2v C 0 rfl rfl rfl (fun l9 r9 h9 => k_X6_v (l := l9) hq hNK  h9) gX6_agree_X6_v rfl nI_X6_v ⟨rfl, rfl, Nat.le_of_ble_eq_true rfl, Nat.le_of_ble_eq_true rfl⟩ dX6_agree_82 (Nat.le_of_ble_eq_true rfl) (fun r11 => ?_)
          refine v_goto C dX6_agree_85 (tgt := 110) (by decide) ?_
          exact v_sub [] rfl (hk5 r11 r4.2)
    · refine v_icmp_ne C dX6_agree_38 (tgt := 50) (by decide) ?_ ?_
      · exact v_sub [0, 1, 2, 3, 4] rfl (hk1)
      · refine v_iload_n C 3 dX6_agree_41 rfl ?_
        refine v_iload C 4 dX6_agree_42 rfl ?_
        refine v_iand C dX6_agree_44 ?_
        refine v_if_eq C dX6_agree_45 (tgt := 50) (by decide) ?_ ?_
        · exact v_sub [0, 1, 2, 3, 4] rfl (hk1)
        · refine v_iconst C dX6_agree_48 (v := 1) (by decide) ?_
          exact v_zret (rvf := fun (res : Bool × Bool) => (some (.int (bI res.1)))) (wf := fun (res : Bool × Bool) => (mW q cs isK res.2 fed at_ ltr ab ps g kp nx fa tp rs rv ct it)) C dX6_agree_49 rfl rfl
  · refine v_iload_n C 3 dX6_agree_4 rfl ?_
    refine v_iload C 4 dX6_agree_5 rfl ?_
    refine v_iconst C dX6_agree_7 (v := (-1)) (by decide) ?_
    refine v_ixor C dX6_agree_8 ?_
    refine v_iand C dX6_agree_9 ?_
    refine v_jn0 (wj := ((mW q cs isK isB fed at_ ltr ab ps g kp nx fa tp rs rv ct it))) (pcj := 30) (lvj := ([])) (stj := ([])) ?_ (fun k12 hk12 => ?_)
    · refine v_iconst C dX6_agree_30 (v := 1) (by decide) ?_
      refine v_goto C dX6_agree_31 (tgt := 35) (by decide) ?_
      exact v_zret (rvf := fun (res : Bool × Bool) => (some (.int (bI res.1)))) (wf := fun (res : Bool × Bool) => (mW q cs isK res.2 fed at_ ltr ab ps g kp nx fa tp rs rv ct it)) C dX6_agree_35 rfl rfl
    · refine v_if_ne C dX6_agree_10 (tgt := 30) (by decide) ?_ ?_
      · exact v_sub [] rfl (hk12)
      · refine v_aload_n C 0 dX6_agree_13 rfl ?_
        refine v_iload_n C 1 dX6_agree_14 rfl ?_
        refine v_iload_n C 3 dX6_agree_15 rfl ?_
        refine v_callV2v C 0 rfl rfl rfl (fun l9 r9 h9 => k_X6_v (l := l9) hq hNK  h9) gX6_agree_X6_v rfl nI_X6_v ⟨rfl, rfl, Nat.le_of_ble_eq_true rfl, Nat.le_of_ble_eq_true rfl⟩ dX6_agree_16 (Nat.le_of_ble_eq_true rfl) (fun r13 => ?_)
        refine v_aload_n C 0 dX6_agree_19 rfl ?_
        refine v_iload_n C 1 dX6_agree_20 rfl ?_
        refine v_iload C 4 dX6_agree_21 rfl ?_
        refine v_callV2v C 0 rfl rfl rfl (fun l9 r9 h9 => k_X6_v (l := l9) hq hNK  h9) gX6_agree_X6_v rfl nI_X6_v ⟨rfl, rfl, Nat.le_of_ble_eq_true rfl, Nat.le_of_ble_eq_true rfl⟩ dX6_agree_23 (Nat.le_of_ble_eq_true rfl) (fun r14 => ?_)
        refine v_lcmp_gt C dX6_agree_26 dX6_agree_27 (tgt := 34) (by decide) ?_ ?_
        · refine v_iconst C dX6_agree_34 (v := 0) (by decide) ?_
          exact v_zret (rvf := fun (res : Bool × Bool) => (some (.int (bI res.1)))) (wf := fun (res : Bool × Bool) => (mW q cs isK res.2 fed at_ ltr ab ps g kp nx fa tp rs rv ct it)) C dX6_agree_35 rfl rfl
        · exact v_sub [] rfl (hk12)

def B_X6_is_2 (g : Nat → Int64) (a1 : Int32) (a2 : Int32) (v5 : Int32) (rec9 : Int32 → Bool → Option (Int32 × Bool)) (kx10 : Bool → Option (Int32 × Bool)) (v11 : Int32) (isB12 : Bool) : Option (Int32 × Bool) :=
(f_X6_all g).bind (fun (r13 : Int32) =>
if (r13 : Int32) < v11 then (
kx10 isB12) else (
(f_X6_agree isB12 g a1 a2 v5 v11).bind (fun (r14 : Bool × Bool) =>
if r14.2 = true then (
some ((-6), r14.2)) else (
if r14.1 = true then (
nm (v11 + 1) (fun (x15 : Int32) =>
rec9 x15 r14.2)) else (
some (0, r14.2))))))
def L_X6_is_2 (g : Nat → Int64) (a1 : Int32) (a2 : Int32) (v5 : Int32) (kx10 : Bool → Option (Int32 × Bool)) : Nat → Int32 → Bool → Option (Int32 × Bool)
  | 0, _, _ => none
  | m9 + 1, v11, isB12 => B_X6_is_2 g a1 a2 v5 (L_X6_is_2 g a1 a2 v5 kx10 m9) kx10 v11 isB12

def B_X6_is_1 (g : Nat → Int64) (a1 : Int32) (a2 : Int32) (rec4 : Int32 → Bool → Option (Int32 × Bool))  (v5 : Int32) (isB6 : Bool) : Option (Int32 × Bool) :=
(f_X6_all g).bind (fun (r7 : Int32) =>
if (r7 : Int32) < v5 then (
some (1, isB6)) else (
nm (v5 + 1) (fun (x8 : Int32) =>
L_X6_is_2 g a1 a2 v5 (fun (isB16 : Bool) =>
nm (v5 + 1) (fun (x17 : Int32) =>
rec4 x17 isB16)) FU x8 isB6)))
def L_X6_is_1 (g : Nat → Int64) (a1 : Int32) (a2 : Int32)  : Nat → Int32 → Bool → Option (Int32 × Bool)
  | 0, _, _ => none
  | m9 + 1, v5, isB6 => B_X6_is_1 g a1 a2 (L_X6_is_1 g a1 a2 m9)  v5 isB6

def f_X6_is (isB : Bool) (g : Nat → Int64) (a1 : Int32) (a2 : Int32) : Option (Int32 × Bool) :=
(f_X6_isGame a1).bind (fun (r1 : Bool) =>
if r1 = true then (
(f_X6_isIn a2.toInt64 0 2).bind (fun (r2 : Bool) =>
if r2 = true then (
nm false (fun (isB3 : Bool) =>
L_X6_is_1 g a1 a2  FU 0 isB3)) else (
some ((-1), isB)))) else (
some ((-1), isB)))

theorem nI_X6_is : NameIn yX6_is 2 := ⟨by decide +kernel, by decide +kernel, by decide +kernel⟩
set_option maxRecDepth 100000 in
set_option maxHeartbeats 4000000 in
theorem lp_X6_is_2 {X : CX} {res : Int32 × Bool} {a1 : Int32} {a2 : Int32}  {v5 : Int32} (hq : (mA q).Nodup) (hNK : NOK N) (C : Ok X cX6_is 6 (some .int) wsX6_is RX6 { frames := 2, cells := 0, slots := 0, locals := 52 } D vwCl (mT cs) (mA q) N (some (.int res.1)) (mW q cs isK res.2 fed at_ ltr ab ps g kp nx fa tp rs rv ct it))  (kx10 : Bool → Option (Int32 × Bool)) (Jkx10 : ∀ isBZz : Bool, VF X res (kx10 isBZz) (mW q cs isK isBZz fed at_ ltr ab ps g kp nx fa tp rs rv ct it) 84 [(0, .ref (q 0)), (1, .int a1), (2, .int a2), (3, .int v5)] []) : ∀ fuel : Nat, ∀ v11 : Int32, ∀ isB12 : Bool, VF X res (L_X6_is_2 g a1 a2 v5 kx10 fuel v11 isB12) (mW q cs isK isB12 fed at_ ltr ab ps g kp nx fa tp rs rv ct it) 41 [(0, .ref (q 0)), (1, .int a1), (2, .int a2), (3, .int v5), (4, .int v11)] [] := by
  have iX6 : ∀ w ∈ wsX60, w ∈ wsX6_is := fun _ h => List.mem_cons_of_mem _ (List.mem_append_right _ h)
  intro fuel
  induction fuel with
  | zero =>
    intro _ _
    exact v_none
  | succ fuel ih =>
    intro v11 isB12
    show VF X res (B_X6_is_2 g a1 a2 v5 (L_X6_is_2 g a1 a2 v5 kx10 fuel) kx10 v11 isB12) _ _ _ _
    unfold B_X6_is_2
    refine v_iload C 4 dX6_is_41 rfl ?_
    refine v_aload_n C 0 dX6_is_43 rfl ?_
    refine v_callV0v C 0 rfl rfl rfl (fun l9 r9 h9 => k_X6_all (l := l9) hq hNK  h9) gX6_is_X6_all rfl nI_X6_all ⟨rfl, rfl, Nat.le_of_ble_eq_true rfl, Nat.le_of_ble_eq_true rfl⟩ dX6_is_44 (Nat.le_of_ble_eq_true rfl) (fun r13 => ?_)
    refine v_icmp_gt C dX6_is_47 (tgt := 84) (by decide) ?_ ?_
    · exact v_sub [0, 1, 2, 3] rfl (Jkx10 isB12)
    · refine v_aload_n C 0 dX6_is_50 rfl ?_
      refine v_iload_n C 1 dX6_is_51 rfl ?_
      refine v_iload_n C 2 dX6_is_52 rfl ?_
      refine v_iload_n C 3 dX6_is_53 rfl ?_
      refine v_iload C 4 dX6_is_54 rfl ?_
      refine v_callV4v C 0 rfl rfl rfl (fun l9 r9 h9 => k_X6_agree (l := l9) hq hNK  h9) gX6_is_X6_agree rfl nI_X6_agree ⟨rfl, rfl, Nat.le_of_ble_eq_true rfl, Nat.le_of_ble_eq_true rfl⟩ dX6_is_56 (Nat.le_of_ble_eq_true rfl) (fun r14 => ?_)
      refine v_istore C (lv' := [(5, .int (bI r14.1)), (0, .ref (q 0)), (1, .int a1), (2, .int a2), (3, .int v5), (4, .int v11)]) dX6_is_59 (by decide) rfl ?_
      refine v_aload_n C 1 dX6_is_61 rfl ?_
      refine v_get C (T := TX6) (n := 16) (C9 := RX6) iX6 0 rfl rfl 5 (by decide) (List.mem_of_getElem? (i := 2) rfl) rfl rfl dX6_is_62 ?_
      refine v_ifb_eq C (b := r14.2) dX6_is_65 (tgt := 71) (by decide) ?_ ?_
      · refine v_iload C 0 dX6_is_71 rfl ?_
        refine v_ifb_ne C (b := r14.1) dX6_is_73 (tgt := 78) (by decide) ?_ ?_
        · refine v_iinc_nm C (lvf := fun x15 => [(4, .int x15), (5, .int (bI r14.1)), (0, .ref (q 0)), (1, .int a1), (2, .int a2), (3, .int v5)]) 5 dX6_is_78 rfl rfl (by decide) (fun _ => rfl) (fun x15 => ?_)
          refine v_goto C dX6_is_81 (tgt := 41) (by decide) ?_
          exact v_sub [2, 3, 4, 5, 0] rfl (ih x15 r14.2)
        · refine v_iconst C dX6_is_76 (v := 0) (by decide) ?_
          exact v_iret (rvf := fun (res : Int32 × Bool) => (some (.int res.1))) (wf := fun (res : Int32 × Bool) => (mW q cs isK res.2 fed at_ ltr ab ps g kp nx fa tp rs rv ct it)) C dX6_is_77 rfl rfl
      · refine v_bipush C dX6_is_68 (v := (-6)) (by decide) ?_
        exact v_iret (rvf := fun (res : Int32 × Bool) => (some (.int res.1))) (wf := fun (res : Int32 × Bool) => (mW q cs isK res.2 fed at_ ltr ab ps g kp nx fa tp rs rv ct it)) C dX6_is_70 rfl rfl

set_option maxRecDepth 100000 in
set_option maxHeartbeats 4000000 in
theorem lp_X6_is_1 {X : CX} {res : Int32 × Bool} {a1 : Int32} {a2 : Int32}   (hq : (mA q).Nodup) (hNK : NOK N) (C : Ok X cX6_is 6 (some .int) wsX6_is RX6 { frames := 2, cells := 0, slots := 0, locals := 52 } D vwCl (mT cs) (mA q) N (some (.int res.1)) (mW q cs isK res.2 fed at_ ltr ab ps g kp nx fa tp rs rv ct it))  : ∀ fuel : Nat, ∀ v5 : Int32, ∀ isB6 : Bool, VF X res (L_X6_is_1 g a1 a2 fuel v5 isB6) (mW q cs isK isB6 fed at_ ltr ab ps g kp nx fa tp rs rv ct it) 28 [(0, .ref (q 0)), (1, .int a1), (2, .int a2), (3, .int v5)] [] := by
  intro fuel
  induction fuel with
  | zero =>
    intro _ _
    exact v_none
  | succ fuel ih =>
    intro v5 isB6
    show VF X res (B_X6_is_1 g a1 a2 (L_X6_is_1 g a1 a2 fuel)  v5 isB6) _ _ _ _
    unfold B_X6_is_1
    refine v_iload_n C 3 dX6_is_28 rfl ?_
    refine v_aload_n C 0 dX6_is_29 rfl ?_
    refine v_callV0v C 0 rfl rfl rfl (fun l9 r9 h9 => k_X6_all (l := l9) hq hNK  h9) gX6_is_X6_all rfl nI_X6_all ⟨rfl, rfl, Nat.le_of_ble_eq_true rfl, Nat.le_of_ble_eq_true rfl⟩ dX6_is_30 (Nat.le_of_ble_eq_true rfl) (fun r7 => ?_)
    refine v_icmp_gt C dX6_is_33 (tgt := 90) (by decide) ?_ ?_
    · refine v_iconst C dX6_is_90 (v := 1) (by decide) ?_
      exact v_iret (rvf := fun (res : Int32 × Bool) => (some (.int res.1))) (wf := fun (res : Int32 × Bool) => (mW q cs isK res.2 fed at_ ltr ab ps g kp nx fa tp rs rv ct it)) C dX6_is_91 rfl rfl
    · refine v_iload_n C 3 dX6_is_36 rfl ?_
      refine v_iconst C dX6_is_37 (v := 1) (by decide) ?_
      refine v_iadd C dX6_is_38 ?_
      refine v_istore_nm C (lvf := fun x8 => [(4, .int x8), (0, .ref (q 0)), (1, .int a1), (2, .int a2), (3, .int v5)]) dX6_is_39 (by decide) (fun _ => rfl) (fun x8 => ?_)
      refine v_sub [1, 2, 3, 4, 0] rfl (lp_X6_is_2 hq hNK C  _ (fun isB16 => ?_) FU x8 isB6)
      refine v_iinc_nm C (lvf := fun x17 => [(3, .int x17), (0, .ref (q 0)), (1, .int a1), (2, .int a2)]) 3 dX6_is_84 rfl rfl (by decide) (fun _ => rfl) (fun x17 => ?_)
      refine v_goto C dX6_is_87 (tgt := 28) (by decide) ?_
      exact v_sub [1, 2, 3, 0] rfl (ih x17 isB16)

set_option maxRecDepth 100000 in
set_option maxHeartbeats 4000000 in
theorem k_X6_is {l : Launch} {a1 : Int32} {a2 : Int32}  {res : Int32 × Bool} (hq : (mA q).Nodup) (hNK : NOK N)  (hf : f_X6_is isB g a1 a2 = some res) : kMet l yX6_is wsX6_is { frames := 2, cells := 0, slots := 0, locals := 52 } D vwCl (mT cs) N (mA q) [.ref (q 0), .int a1, .int a2] (mW q cs isK isB fed at_ ltr ab ps g kp nx fa tp rs rv ct it) (some (.int res.1)) (mW q cs isK res.2 fed at_ ltr ab ps g kp nx fa tp rs rv ct it) := by
  have iX6 : ∀ w ∈ wsX60, w ∈ wsX6_is := fun _ h => List.mem_cons_of_mem _ (List.mem_append_right _ h)
  refine kMet.of (cc := cX6_is) (nL := 6) (ret := (some .int)) (own := RX6) (lv := [(0, .ref (q 0)), (1, .int a1), (2, .int a2)]) (by decide +kernel) rfl rfl hNK hq (Nat.le_of_ble_eq_true rfl) rfl (fun X C => ?_)
  refine VF.of hf ?_
  unfold f_X6_is
  refine v_iload_n C 1 dX6_is_0 rfl ?_
  refine v_callSP1v C (fun l9 r9 h9 => k_X6_isGame (l := l9) h9) gX6_is_X6_isGame rfl nI_X6_isGame ⟨rfl, rfl, Nat.le_of_ble_eq_true rfl, Nat.le_of_ble_eq_true rfl⟩ dX6_is_1 (Nat.le_of_ble_eq_true rfl) (fun r1 => ?_)
  refine v_ifb_eq C (b := r1) dX6_is_4 (tgt := 19) (by decide) ?_ ?_
  · refine v_iconst C dX6_is_19 (v := (-1)) (by decide) ?_
    exact v_iret (rvf := fun (res : Int32 × Bool) => (some (.int res.1))) (wf := fun (res : Int32 × Bool) => (mW q cs isK res.2 fed at_ ltr ab ps g kp nx fa tp rs rv ct it)) C dX6_is_20 rfl rfl
  · refine v_iload_n C 2 dX6_is_7 rfl ?_
    refine v_i2l C dX6_is_8 ?_
    refine v_lconst C dX6_is_9 (v := 0) (by decide) ?_
    refine v_ldc2 C (v := 2) (List.mem_of_getElem? (i := 1) rfl) dX6_is_10 ?_
    refine v_callSP3v C (fun l9 r9 h9 => k_X6_isIn (l := l9) h9) gX6_is_X6_isIn rfl nI_X6_isIn ⟨rfl, rfl, Nat.le_of_ble_eq_true rfl, Nat.le_of_ble_eq_true rfl⟩ dX6_is_13 (Nat.le_of_ble_eq_true rfl) (fun r2 => ?_)
    refine v_ifb_ne C (b := r2) dX6_is_16 (tgt := 21) (by decide) ?_ ?_
    · refine v_aload_n C 0 dX6_is_21 rfl ?_
      refine v_iconst C dX6_is_22 (v := 0) (by decide) ?_
      refine v_put_nm C (v := false) (fun z9 => Value.int (bI z9)) (ty := .boolean) (T := TX6) (n := 16) (C9 := RX6) (ty0 := tyX6) (fun isB3 => (mW q cs isK isB3 fed at_ ltr ab ps g kp nx fa tp rs rv ct it)) iX6 tyX6_ok nmX6 0 rfl rfl rfl 5 (by decide) (List.mem_of_getElem? (i := 2) rfl) rfl rfl rfl bI_nar bI_fit (Nat.le_of_ble_eq_true rfl) (fun _ => rfl) dX6_is_23 (fun isB3 => ?_)
      refine v_iconst C dX6_is_26 (v := 0) (by decide) ?_
      refine v_istore_n C (lv' := [(3, .int 0), (0, .ref (q 0)), (1, .int a1), (2, .int a2)]) dX6_is_27 rfl (by decide) rfl ?_
      refine v_sub [1, 2, 3, 0] rfl (lp_X6_is_1 hq hNK C   FU 0 isB3)
    · refine v_iconst C dX6_is_19 (v := (-1)) (by decide) ?_
      exact v_iret (rvf := fun (res : Int32 × Bool) => (some (.int res.1))) (wf := fun (res : Int32 × Bool) => (mW q cs isK res.2 fed at_ ltr ab ps g kp nx fa tp rs rv ct it)) C dX6_is_20 rfl rfl

def B_X6_summed_1 (g : Nat → Int64) (it : Nat → Int64) (a1 : Int32) (a2 : Int32) (a3 : Int32) (rec1 : Int64 → Int32 → Bool → Option (Int64 × Bool))  (v2 : Int64) (v3 : Int32) (isB4 : Bool) : Option (Int64 × Bool) :=
(f_X6_n g).bind (fun (r5 : Int32) =>
if (v3 : Int32) < r5 then (
(f_X6_has a3 v3).bind (fun (r6 : Bool) =>
jn2 (fun (v8 : Int64) (isB9 : Bool) =>
nm (v3 + 1) (fun (x10 : Int32) =>
rec1 v8 x10 isB9)) (fun k7 =>
if r6 = true then (
ck (inb (((20 * a1) + a2) + v3) 80) (
(f_X6_plus isB4 v2 (it (((20 * a1) + a2) + v3).toNatClampNeg)).bind (fun (r11 : Int64 × Bool) =>
k7 r11.1 r11.2))) else (
k7 v2 isB4)))) else (
some (v2, isB4)))
def L_X6_summed_1 (g : Nat → Int64) (it : Nat → Int64) (a1 : Int32) (a2 : Int32) (a3 : Int32)  : Nat → Int64 → Int32 → Bool → Option (Int64 × Bool)
  | 0, _, _, _ => none
  | m9 + 1, v2, v3, isB4 => B_X6_summed_1 g it a1 a2 a3 (L_X6_summed_1 g it a1 a2 a3 m9)  v2 v3 isB4

def f_X6_summed (isB : Bool) (g : Nat → Int64) (it : Nat → Int64) (a1 : Int32) (a2 : Int32) (a3 : Int32) : Option (Int64 × Bool) :=
L_X6_summed_1 g it a1 a2 a3  FU 0 0 isB

theorem nI_X6_summed : NameIn yX6_summed 3 := ⟨by decide +kernel, by decide +kernel, by decide +kernel⟩
set_option maxRecDepth 100000 in
set_option maxHeartbeats 4000000 in
theorem lp_X6_summed_1 {X : CX} {res : Int64 × Bool} {a1 : Int32} {a2 : Int32} {a3 : Int32}   (hq : (mA q).Nodup) (hNK : NOK N) (C : Ok X cX6_summed 7 (some .long) wsX6_summed RX6 { frames := 1, cells := 0, slots := 0, locals := 26 } D vwCl (mT cs) (mA q) N (some (.long res.1)) (mW q cs isK res.2 fed at_ ltr ab ps g kp nx fa tp rs rv ct it))  : ∀ fuel : Nat, ∀ v2 : Int64, ∀ v3 : Int32, ∀ isB4 : Bool, VF X res (L_X6_summed_1 g it a1 a2 a3 fuel v2 v3 isB4) (mW q cs isK isB4 fed at_ ltr ab ps g kp nx fa tp rs rv ct it) 6 [(0, .ref (q 0)), (1, .int a1), (2, .int a2), (3, .int a3), (4, .long v2), (6, .int v3)] [] := by
  have iX6 : ∀ w ∈ wsX60, w ∈ wsX6_summed := fun _ h => List.mem_cons_of_mem _ (List.mem_append_right _ h)
  intro fuel
  induction fuel with
  | zero =>
    intro _ _ _
    exact v_none
  | succ fuel ih =>
    intro v2 v3 isB4
    show VF X res (B_X6_summed_1 g it a1 a2 a3 (L_X6_summed_1 g it a1 a2 a3 fuel)  v2 v3 isB4) _ _ _ _
    unfold B_X6_summed_1
    refine v_iload C 5 dX6_summed_6 rfl ?_
    refine v_aload_n C 0 dX6_summed_8 rfl ?_
    refine v_callV0v C 0 rfl rfl rfl (fun l9 r9 h9 => k_X6_n (l := l9) hq hNK  h9) gX6_summed_X6_n rfl nI_X6_n ⟨rfl, rfl, Nat.le_of_ble_eq_true rfl, Nat.le_of_ble_eq_true rfl⟩ dX6_summed_9 (Nat.le_of_ble_eq_true rfl) (fun r5 => ?_)
    refine v_icmp_ge C dX6_summed_12 (tgt := 52) (by decide) ?_ ?_
    · refine v_lload C 4 dX6_summed_52 rfl ?_
      exact v_lret (rvf := fun (res : Int64 × Bool) => (some (.long res.1))) (wf := fun (res : Int64 × Bool) => (mW q cs isK res.2 fed at_ ltr ab ps g kp nx fa tp rs rv ct it)) C dX6_summed_54 rfl rfl
    · refine v_iload_n C 3 dX6_summed_15 rfl ?_
      refine v_iload C 5 dX6_summed_16 rfl ?_
      refine v_callSP2v C (fun l9 r9 h9 => k_X6_has (l := l9) h9) gX6_summed_X6_has rfl nI_X6_has ⟨rfl, rfl, Nat.le_of_ble_eq_true rfl, Nat.le_of_ble_eq_true rfl⟩ dX6_summed_18 (Nat.le_of_ble_eq_true rfl) (fun r6 => ?_)
      refine v_jn2 (wj := (fun v8 isB9 => (mW q cs isK isB9 fed at_ ltr ab ps g kp nx fa tp rs rv ct it))) (pcj := 46) (lvj := (fun v8 isB9 => [(0, .ref (q 0)), (1, .int a1), (2, .int a2), (3, .int a3), (4, .long v8), (6, .int v3)])) (stj := (fun v8 isB9 => [])) (fun v8 isB9 => ?_) (fun k7 hk7 => ?_)
      · refine v_iinc_nm C (lvf := fun x10 => [(6, .int x10), (0, .ref (q 0)), (1, .int a1), (2, .int a2), (3, .int a3), (4, .long v8)]) 5 dX6_summed_46 rfl rfl (by decide) (fun _ => rfl) (fun x10 => ?_)
        refine v_goto C dX6_summed_49 (tgt := 6) (by decide) ?_
        exact v_sub [1, 2, 3, 4, 5, 0] rfl (ih v8 x10 isB9)
      · refine v_ifb_eq C (b := r6) dX6_summed_21 (tgt := 46) (by decide) ?_ ?_
        · exact v_sub [0, 1, 2, 3, 4, 5] rfl (hk7 v2 isB4)
        · refine v_aload_n C 0 dX6_summed_24 rfl ?_
          refine v_lload C 4 dX6_summed_25 rfl ?_
          refine v_aload_n C 0 dX6_summed_27 rfl ?_
          refine v_get C (T := TX6) (n := 16) (C9 := RX6) iX6 0 rfl rfl 15 (by decide) (List.mem_of_getElem? (i := 1) rfl) rfl rfl dX6_summed_28 ?_
          refine v_bipush C dX6_summed_31 (v := 20) (by decide) ?_
          refine v_iload_n C 1 dX6_summed_33 rfl ?_
          refine v_imul C dX6_summed_34 ?_
          refine v_iload_n C 2 dX6_summed_35 rfl ?_
          refine v_iadd C dX6_summed_36 ?_
          refine v_iload C 5 dX6_summed_37 rfl ?_
          refine v_iadd C dX6_summed_39 ?_
          refine v_lald C 9 1 rfl rfl dX6_summed_40 ?_
          refine v_callV2v C 0 rfl rfl rfl (fun l9 r9 h9 => k_X6_plus (l := l9) hq hNK  h9) gX6_summed_X6_plus rfl nI_X6_plus ⟨rfl, rfl, Nat.le_of_ble_eq_true rfl, Nat.le_of_ble_eq_true rfl⟩ dX6_summed_41 (Nat.le_of_ble_eq_true rfl) (fun r11 => ?_)
          refine v_lstore C (lv' := [(4, .long r11.1), (0, .ref (q 0)), (1, .int a1), (2, .int a2), (3, .int a3), (6, .int v3)]) dX6_summed_44 (by decide) rfl ?_
          exact v_sub [1, 2, 3, 4, 0, 5] rfl (hk7 r11.1 r11.2)

set_option maxRecDepth 100000 in
set_option maxHeartbeats 4000000 in
theorem k_X6_summed {l : Launch} {a1 : Int32} {a2 : Int32} {a3 : Int32}  {res : Int64 × Bool} (hq : (mA q).Nodup) (hNK : NOK N)  (hf : f_X6_summed isB g it a1 a2 a3 = some res) : kMet l yX6_summed wsX6_summed { frames := 1, cells := 0, slots := 0, locals := 26 } D vwCl (mT cs) N (mA q) [.ref (q 0), .int a1, .int a2, .int a3] (mW q cs isK isB fed at_ ltr ab ps g kp nx fa tp rs rv ct it) (some (.long res.1)) (mW q cs isK res.2 fed at_ ltr ab ps g kp nx fa tp rs rv ct it) := by
  refine kMet.of (cc := cX6_summed) (nL := 7) (ret := (some .long)) (own := RX6) (lv := [(0, .ref (q 0)), (1, .int a1), (2, .int a2), (3, .int a3)]) (by decide +kernel) rfl rfl hNK hq (Nat.le_of_ble_eq_true rfl) rfl (fun X C => ?_)
  refine VF.of hf ?_
  unfold f_X6_summed
  refine v_lconst C dX6_summed_0 (v := 0) (by decide) ?_
  refine v_lstore C (lv' := [(4, .long 0), (0, .ref (q 0)), (1, .int a1), (2, .int a2), (3, .int a3)]) dX6_summed_1 (by decide) rfl ?_
  refine v_iconst C dX6_summed_3 (v := 0) (by decide) ?_
  refine v_istore C (lv' := [(6, .int 0), (4, .long 0), (0, .ref (q 0)), (1, .int a1), (2, .int a2), (3, .int a3)]) dX6_summed_4 (by decide) rfl ?_
  refine v_sub [2, 3, 4, 5, 1, 0] rfl (lp_X6_summed_1 hq hNK C   FU 0 0 isB)

def B_X6_stable_1 (g : Nat → Int64) (it : Nat → Int64) (a1 : Int32) (a2 : Int32) (a3 : Int32) (rec11 : Bool → Int32 → Bool → Option (Int32 × Bool)) (kx12 : Bool → Bool → Option (Int32 × Bool)) (v13 : Bool) (v14 : Int32) (isB15 : Bool) : Option (Int32 × Bool) :=
(f_X6_all g).bind (fun (r16 : Int32) =>
if (r16 : Int32) < v14 then (
kx12 v13 isB15) else (
if v13 = true then (
if isB15 = true then (
kx12 v13 isB15) else (
(f_X6_v g a1 v14).bind (fun (r17 : Int64) =>
(f_X6_summed isB15 g it a2 a3 v14).bind (fun (r18 : Int64 × Bool) =>
jn1 (fun (v20 : Bool) =>
nm (v14 + 1) (fun (x21 : Int32) =>
rec11 v20 x21 r18.2)) (fun k19 =>
if (r18.1 : Int64) < r17 then (
k19 false) else (
k19 true)))))) else (
kx12 v13 isB15)))
def L_X6_stable_1 (g : Nat → Int64) (it : Nat → Int64) (a1 : Int32) (a2 : Int32) (a3 : Int32) (kx12 : Bool → Bool → Option (Int32 × Bool)) : Nat → Bool → Int32 → Bool → Option (Int32 × Bool)
  | 0, _, _, _ => none
  | m9 + 1, v13, v14, isB15 => B_X6_stable_1 g it a1 a2 a3 (L_X6_stable_1 g it a1 a2 a3 kx12 m9) kx12 v13 v14 isB15

def f_X6_stable (isB : Bool) (g : Nat → Int64) (ct : Nat → Int32) (it : Nat → Int64) (a1 : Int32) (a2 : Int32) (a3 : Int32) : Option (Int32 × Bool) :=
(f_X6_isGame a1).bind (fun (r1 : Bool) =>
if r1 = true then (
(f_X6_isRow a2).bind (fun (r2 : Bool) =>
if r2 = true then (
(f_X6_isThere g ct a2 a3).bind (fun (r3 : Bool) =>
if r3 = true then (
nm false (fun (isB4 : Bool) =>
(f_X6_all g).bind (fun (r5 : Int32) =>
(f_X6_summed isB4 g it a2 a3 r5).bind (fun (r6 : Int64 × Bool) =>
(f_X6_all g).bind (fun (r7 : Int32) =>
(f_X6_v g a1 r7).bind (fun (r8 : Int64) =>
jn1 (fun (v10 : Bool) =>
L_X6_stable_1 g it a1 a2 a3 (fun (v22 : Bool) (isB23 : Bool) =>
if isB23 = true then (
some ((-6), isB23)) else (
if v22 = true then (
some (1, isB23)) else (
some (0, isB23)))) FU v10 1 r6.2) (fun k9 =>
if (r6.1 : Int64) = r8 then (
k9 true) else (
k9 false)))))))) else (
some ((-3), isB)))) else (
some ((-1), isB)))) else (
some ((-1), isB)))

theorem nI_X6_stable : NameIn yX6_stable 3 := ⟨by decide +kernel, by decide +kernel, by decide +kernel⟩
set_option maxRecDepth 100000 in
set_option maxHeartbeats 4000000 in
theorem lp_X6_stable_1 {X : CX} {res : Int32 × Bool} {a1 : Int32} {a2 : Int32} {a3 : Int32}   (hq : (mA q).Nodup) (hNK : NOK N) (C : Ok X cX6_stable 6 (some .int) wsX6_stable RX6 { frames := 2, cells := 0, slots := 0, locals := 52 } D vwCl (mT cs) (mA q) N (some (.int res.1)) (mW q cs isK res.2 fed at_ ltr ab ps g kp nx fa tp rs rv ct it))  (kx12 : Bool → Bool → Option (Int32 × Bool)) (Jkx12 : ∀ y4 : Bool, ∀ isBZz : Bool, VF X res (kx12 y4 isBZz) (mW q cs isK isBZz fed at_ ltr ab ps g kp nx fa tp rs rv ct it) 119 [(0, .ref (q 0)), (4, .int (bI y4))] []) : ∀ fuel : Nat, ∀ v13 : Bool, ∀ v14 : Int32, ∀ isB15 : Bool, VF X res (L_X6_stable_1 g it a1 a2 a3 kx12 fuel v13 v14 isB15) (mW q cs isK isB15 fed at_ ltr ab ps g kp nx fa tp rs rv ct it) 66 [(0, .ref (q 0)), (1, .int a1), (2, .int a2), (3, .int a3), (4, .int (bI v13)), (5, .int v14)] [] := by
  have iX6 : ∀ w ∈ wsX60, w ∈ wsX6_stable := fun _ h => List.mem_cons_of_mem _ (List.mem_append_right _ h)
  intro fuel
  induction fuel with
  | zero =>
    intro _ _ _
    exact v_none
  | succ fuel ih =>
    intro v13 v14 isB15
    show VF X res (B_X6_stable_1 g it a1 a2 a3 (L_X6_stable_1 g it a1 a2 a3 kx12 fuel) kx12 v13 v14 isB15) _ _ _ _
    unfold B_X6_stable_1
    refine v_iload C 5 dX6_stable_66 rfl ?_
    refine v_aload_n C 0 dX6_stable_68 rfl ?_
    refine v_callV0v C 0 rfl rfl rfl (fun l9 r9 h9 => k_X6_all (l := l9) hq hNK  h9) gX6_stable_X6_all rfl nI_X6_all ⟨rfl, rfl, Nat.le_of_ble_eq_true rfl, Nat.le_of_ble_eq_true rfl⟩ dX6_stable_69 (Nat.le_of_ble_eq_true rfl) (fun r16 => ?_)
    refine v_icmp_gt C dX6_stable_72 (tgt := 119) (by decide) ?_ ?_
    · exact v_sub [0, 4] rfl (Jkx12 v13 isB15)
    · refine v_iload C 4 dX6_stable_75 rfl ?_
      refine v_ifb_eq C (b := v13) dX6_stable_77 (tgt := 119) (by decide) ?_ ?_
      · exact v_sub [0, 4] rfl (Jkx12 v13 isB15)
      · refine v_aload_n C 0 dX6_stable_80 rfl ?_
        refine v_get C (T := TX6) (n := 16) (C9 := RX6) iX6 0 rfl rfl 5 (by decide) (List.mem_of_getElem? (i := 1) rfl) rfl rfl dX6_stable_81 ?_
        refine v_ifb_ne C (b := isB15) dX6_stable_84 (tgt := 119) (by decide) ?_ ?_
        · exact v_sub [0, 4] rfl (Jkx12 v13 isB15)
        · refine v_aload_n C 0 dX6_stable_87 rfl ?_
          refine v_iload_n C 1 dX6_stable_88 rfl ?_
          refine v_iload C 5 dX6_stable_89 rfl ?_
          refine v_callV2v C 0 rfl rfl rfl (fun l9 r9 h9 => k_X6_v (l := l9) hq hNK  h9) gX6_stable_X6_v rfl nI_X6_v ⟨rfl, rfl, Nat.le_of_ble_eq_true rfl, Nat.le_of_ble_eq_true rfl⟩ dX6_stable_91 (Nat.le_of_ble_eq_true rfl) (fun r17 => ?_)
          refine v_aload_n C 0 dX6_stable_94 rfl ?_
          refine v_iload_n C 2 dX6_stable_95 rfl ?_
          refine v_iload_n C 3 dX6_stable_96 rfl ?_
          refine v_iload C 5 dX6_stable_97 rfl ?_
          refine v_callV3v C 0 rfl rfl rfl (fun l9 r9 h9 => k_X6_summed (l := l9) hq hNK  h9) gX6_stable_X6_summed rfl nI_X6_summed ⟨rfl, rfl, Nat.le_of_ble_eq_true rfl, Nat.le_of_ble_eq_true rfl⟩ dX6_stable_99 (Nat.le_of_ble_eq_true rfl) (fun r18 => ?_)
          refine v_jn1 (wj := (fun v20 => (mW q cs isK r18.2 fed at_ ltr ab ps g kp nx fa tp rs rv ct it))) (pcj := 111) (lvj := (fun v20 => [(0, .ref (q 0)), (1, .int a1), (2, .int a2), (3, .int a3), (5, .int v14)])) (stj := (fun v20 => [.int (bI v20)])) (fun v20 => ?_) (fun k19 hk19 => ?_)
          · refine v_istore C (lv' := [(4, .int (bI v20)), (0, .ref (q 0)), (1, .int a1), (2, .int a2), (3, .int a3), (5, .int v14)]) dX6_stable_111 (by decide) rfl ?_
            refine v_iinc_nm C (lvf := fun x21 => [(5, .int x21), (4, .int (bI v20)), (0, .ref (q 0)), (1, .int a1), (2, .int a2), (3, .int a3)]) 5 dX6_stable_113 rfl rfl (by decide) (fun _ => rfl) (fun x21 => ?_)
            refine v_goto C dX6_stable_116 (tgt := 66) (by decide) ?_
            exact v_sub [2, 3, 4, 5, 1, 0] rfl (ih v20 x21 r18.2)
          · refine v_lcmp_gt C dX6_stable_102 dX6_stable_103 (tgt := 110) (by decide) ?_ ?_
            · refine v_iconst C dX6_stable_110 (v := 0) (by decide) ?_
              exact v_sub [0, 1, 2, 3, 5] rfl (hk19 false)
            · refine v_iconst C dX6_stable_106 (v := 1) (by decide) ?_
              refine v_goto C dX6_stable_107 (tgt := 111) (by decide) ?_
              exact v_sub [0, 1, 2, 3, 5] rfl (hk19 true)

set_option maxRecDepth 100000 in
set_option maxHeartbeats 4000000 in
theorem k_X6_stable {l : Launch} {a1 : Int32} {a2 : Int32} {a3 : Int32}  {res : Int32 × Bool} (hq : (mA q).Nodup) (hNK : NOK N)  (hf : f_X6_stable isB g ct it a1 a2 a3 = some res) : kMet l yX6_stable wsX6_stable { frames := 2, cells := 0, slots := 0, locals := 52 } D vwCl (mT cs) N (mA q) [.ref (q 0), .int a1, .int a2, .int a3] (mW q cs isK isB fed at_ ltr ab ps g kp nx fa tp rs rv ct it) (some (.int res.1)) (mW q cs isK res.2 fed at_ ltr ab ps g kp nx fa tp rs rv ct it) := by
  have iX6 : ∀ w ∈ wsX60, w ∈ wsX6_stable := fun _ h => List.mem_cons_of_mem _ (List.mem_append_right _ h)
  refine kMet.of (cc := cX6_stable) (nL := 6) (ret := (some .int)) (own := RX6) (lv := [(0, .ref (q 0)), (1, .int a1), (2, .int a2), (3, .int a3)]) (by decide +kernel) rfl rfl hNK hq (Nat.le_of_ble_eq_true rfl) rfl (fun X C => ?_)
  refine VF.of hf ?_
  unfold f_X6_stable
  refine v_iload_n C 1 dX6_stable_0 rfl ?_
  refine v_callSP1v C (fun l9 r9 h9 => k_X6_isGame (l := l9) h9) gX6_stable_X6_isGame rfl nI_X6_isGame ⟨rfl, rfl, Nat.le_of_ble_eq_true rfl, Nat.le_of_ble_eq_true rfl⟩ dX6_stable_1 (Nat.le_of_ble_eq_true rfl) (fun r1 => ?_)
  refine v_ifb_eq C (b := r1) dX6_stable_4 (tgt := 14) (by decide) ?_ ?_
  · refine v_iconst C dX6_stable_14 (v := (-1)) (by decide) ?_
    exact v_iret (rvf := fun (res : Int32 × Bool) => (some (.int res.1))) (wf := fun (res : Int32 × Bool) => (mW q cs isK res.2 fed at_ ltr ab ps g kp nx fa tp rs rv ct it)) C dX6_stable_15 rfl rfl
  · refine v_iload_n C 2 dX6_stable_7 rfl ?_
    refine v_callSP1v C (fun l9 r9 h9 => k_X6_isRow (l := l9) h9) gX6_stable_X6_isRow rfl nI_X6_isRow ⟨rfl, rfl, Nat.le_of_ble_eq_true rfl, Nat.le_of_ble_eq_true rfl⟩ dX6_stable_8 (Nat.le_of_ble_eq_true rfl) (fun r2 => ?_)
    refine v_ifb_ne C (b := r2) dX6_stable_11 (tgt := 16) (by decide) ?_ ?_
    · refine v_aload_n C 0 dX6_stable_16 rfl ?_
      refine v_iload_n C 2 dX6_stable_17 rfl ?_
      refine v_iload_n C 3 dX6_stable_18 rfl ?_
      refine v_callV2v C 0 rfl rfl rfl (fun l9 r9 h9 => k_X6_isThere (l := l9) hq hNK  h9) gX6_stable_X6_isThere rfl nI_X6_isThere ⟨rfl, rfl, Nat.le_of_ble_eq_true rfl, Nat.le_of_ble_eq_true rfl⟩ dX6_stable_19 (Nat.le_of_ble_eq_true rfl) (fun r3 => ?_)
      refine v_ifb_ne C (b := r3) dX6_stable_22 (tgt := 28) (by decide) ?_ ?_
      · refine v_aload_n C 0 dX6_stable_28 rfl ?_
        refine v_iconst C dX6_stable_29 (v := 0) (by decide) ?_
        refine v_put_nm C (v := false) (fun z9 => Value.int (bI z9)) (ty := .boolean) (T := TX6) (n := 16) (C9 := RX6) (ty0 := tyX6) (fun isB4 => (mW q cs isK isB4 fed at_ ltr ab ps g kp nx fa tp rs rv ct it)) iX6 tyX6_ok nmX6 0 rfl rfl rfl 5 (by decide) (List.mem_of_getElem? (i := 1) rfl) rfl rfl rfl bI_nar bI_fit (Nat.le_of_ble_eq_true rfl) (fun _ => rfl) dX6_stable_30 (fun isB4 => ?_)
        refine v_aload_n C 0 dX6_stable_33 rfl ?_
        refine v_iload_n C 2 dX6_stable_34 rfl ?_
        refine v_iload_n C 3 dX6_stable_35 rfl ?_
        refine v_aload_n C 0 dX6_stable_36 rfl ?_
        refine v_callV0v C 0 rfl rfl rfl (fun l9 r9 h9 => k_X6_all (l := l9) hq hNK  h9) gX6_stable_X6_all rfl nI_X6_all ⟨rfl, rfl, Nat.le_of_ble_eq_true rfl, Nat.le_of_ble_eq_true rfl⟩ dX6_stable_37 (Nat.le_of_ble_eq_true rfl) (fun r5 => ?_)
        refine v_callV3v C 0 rfl rfl rfl (fun l9 r9 h9 => k_X6_summed (l := l9) hq hNK  h9) gX6_stable_X6_summed rfl nI_X6_summed ⟨rfl, rfl, Nat.le_of_ble_eq_true rfl, Nat.le_of_ble_eq_true rfl⟩ dX6_stable_40 (Nat.le_of_ble_eq_true rfl) (fun r6 => ?_)
        refine v_aload_n C 0 dX6_stable_43 rfl ?_
        refine v_iload_n C 1 dX6_stable_44 rfl ?_
        refine v_aload_n C 0 dX6_stable_45 rfl ?_
        refine v_callV0v C 0 rfl rfl rfl (fun l9 r9 h9 => k_X6_all (l := l9) hq hNK  h9) gX6_stable_X6_all rfl nI_X6_all ⟨rfl, rfl, Nat.le_of_ble_eq_true rfl, Nat.le_of_ble_eq_true rfl⟩ dX6_stable_46 (Nat.le_of_ble_eq_true rfl) (fun r7 => ?_)
        refine v_callV2v C 0 rfl rfl rfl (fun l9 r9 h9 => k_X6_v (l := l9) hq hNK  h9) gX6_stable_X6_v rfl nI_X6_v ⟨rfl, rfl, Nat.le_of_ble_eq_true rfl, Nat.le_of_ble_eq_true rfl⟩ dX6_stable_49 (Nat.le_of_ble_eq_true rfl) (fun r8 => ?_)
        refine v_jn1 (wj := (fun v10 => (mW q cs isK r6.2 fed at_ ltr ab ps g kp nx fa tp rs rv ct it))) (pcj := 61) (lvj := (fun v10 => [(0, .ref (q 0)), (1, .int a1), (2, .int a2), (3, .int a3)])) (stj := (fun v10 => [.int (bI v10)])) (fun v10 => ?_) (fun k9 hk9 => ?_)
        · refine v_istore C (lv' := [(4, .int (bI v10)), (0, .ref (q 0)), (1, .int a1), (2, .int a2), (3, .int a3)]) dX6_stable_61 (by decide) rfl ?_
          refine v_iconst C dX6_stable_63 (v := 1) (by decide) ?_
          refine v_istore C (lv' := [(5, .int 1), (4, .int (bI v10)), (0, .ref (q 0)), (1, .int a1), (2, .int a2), (3, .int a3)]) dX6_stable_64 (by decide) rfl ?_
          refine v_sub [2, 3, 4, 5, 1, 0] rfl (lp_X6_stable_1 hq hNK C  _ (fun v22 isB23 => ?_) FU v10 1 r6.2)
          refine v_aload_n C 0 dX6_stable_119 rfl ?_
          refine v_get C (T := TX6) (n := 16) (C9 := RX6) iX6 0 rfl rfl 5 (by decide) (List.mem_of_getElem? (i := 1) rfl) rfl rfl dX6_stable_120 ?_
          refine v_ifb_eq C (b := isB23) dX6_stable_123 (tgt := 131) (by decide) ?_ ?_
          · refine v_iload C 1 dX6_stable_131 rfl ?_
            refine v_ifb_eq C (b := v22) dX6_stable_133 (tgt := 140) (by decide) ?_ ?_
            · refine v_iconst C dX6_stable_140 (v := 0) (by decide) ?_
              exact v_iret (rvf := fun (res : Int32 × Bool) => (some (.int res.1))) (wf := fun (res : Int32 × Bool) => (mW q cs isK res.2 fed at_ ltr ab ps g kp nx fa tp rs rv ct it)) C dX6_stable_141 rfl rfl
            · refine v_iconst C dX6_stable_136 (v := 1) (by decide) ?_
              refine v_goto C dX6_stable_137 (tgt := 141) (by decide) ?_
              exact v_iret (rvf := fun (res : Int32 × Bool) => (some (.int res.1))) (wf := fun (res : Int32 × Bool) => (mW q cs isK res.2 fed at_ ltr ab ps g kp nx fa tp rs rv ct it)) C dX6_stable_141 rfl rfl
          · refine v_bipush C dX6_stable_126 (v := (-6)) (by decide) ?_
            refine v_goto C dX6_stable_128 (tgt := 141) (by decide) ?_
            exact v_iret (rvf := fun (res : Int32 × Bool) => (some (.int res.1))) (wf := fun (res : Int32 × Bool) => (mW q cs isK res.2 fed at_ ltr ab ps g kp nx fa tp rs rv ct it)) C dX6_stable_141 rfl rfl
        · refine v_lcmp_ne C dX6_stable_52 dX6_stable_53 (tgt := 60) (by decide) ?_ ?_
          · refine v_iconst C dX6_stable_60 (v := 0) (by decide) ?_
            exact v_sub [0, 1, 2, 3] rfl (hk9 false)
          · refine v_iconst C dX6_stable_56 (v := 1) (by decide) ?_
            refine v_goto C dX6_stable_57 (tgt := 61) (by decide) ?_
            exact v_sub [0, 1, 2, 3] rfl (hk9 true)
      · refine v_bipush C dX6_stable_25 (v := (-3)) (by decide) ?_
        exact v_iret (rvf := fun (res : Int32 × Bool) => (some (.int res.1))) (wf := fun (res : Int32 × Bool) => (mW q cs isK res.2 fed at_ ltr ab ps g kp nx fa tp rs rv ct it)) C dX6_stable_27 rfl rfl
    · refine v_iconst C dX6_stable_14 (v := (-1)) (by decide) ?_
      exact v_iret (rvf := fun (res : Int32 × Bool) => (some (.int res.1))) (wf := fun (res : Int32 × Bool) => (mW q cs isK res.2 fed at_ ltr ab ps g kp nx fa tp rs rv ct it)) C dX6_stable_15 rfl rfl

end WK
