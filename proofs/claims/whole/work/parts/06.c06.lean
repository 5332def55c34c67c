section WK
variable {q : Nat → Nat} {cs : Nat → ClassId} {D : va_G} {N : (Nat → Prop) → State → Prop} {isK : Bool} {isB : Bool} {fed : Int32} {at_ : Int32} {ltr : Int32} {ab : Int64} {ps : Nat} {g : Nat → Int64} {kp : Nat → Int64} {nx : Nat → Int64} {fa : Nat → Int64} {tp : Nat → Int32} {rs : Nat → Int32} {rv : Nat → Int64} {ct : Nat → Int32} {it : Nat → Int64}
def B_X6_differ_1 (g : Nat → Int64) (a1 : Int32) (a2 : Int32) (rec3 : Int32 → Option (Int32))  (v4 : Int32) : Option (Int32) :=
(f_X6_all g).bind (fun (r5 : Int32) =>
if (r5 : Int32) < v4 then (
some (-5)) else (
(f_X6_v g a1 v4).bind (fun (r6 : Int64) =>
(f_X6_v g a2 v4).bind (fun (r7 : Int64) =>
if (r6 : Int64) = r7 then (
nm (v4 + 1) (fun (x8 : Int32) =>
rec3 x8)) else (
some v4)))))
def L_X6_differ_1 (g : Nat → Int64) (a1 : Int32) (a2 : Int32)  : Nat → Int32 → Option (Int32)
  | 0, _ => none
  | m9 + 1, v4 => B_X6_differ_1 g a1 a2 (L_X6_differ_1 g a1 a2 m9)  v4

def f_X6_differ (g : Nat → Int64) (a1 : Int32) (a2 : Int32) : Option (Int32) :=
(f_X6_isGame a1).bind (fun (r1 : Bool) =>
if r1 = true then (
(f_X6_isGame a2).bind (fun (r2 : Bool) =>
if r2 = true then (
L_X6_differ_1 g a1 a2  FU 0) else (
some (-1)))) else (
some (-1)))

theorem nI_X6_differ : NameIn yX6_differ 2 := ⟨by decide +kernel, by decide +kernel, by decide +kernel⟩
set_option maxRecDepth 100000 in
set_option maxHeartbeats 4000000 in
theorem lp_X6_differ_1 {X : CX} {res : Int32} {a1 : Int32} {a2 : Int32}   (hq : (mA q).Nodup) (hNK : NOK N) (C : Ok X cX6_differ 4 (some .int) wsX6_differ RX6 { frames := 2, cells := 0, slots := 0, locals := 45 } D vwCl (mT cs) (mA q) N (some (.int res)) (mW q cs isK isB fed at_ ltr ab ps g kp nx fa tp rs rv ct it))  : ∀ fuel : Nat, ∀ v4 : Int32, VF X res (L_X6_differ_1 g a1 a2 fuel v4) (mW q cs isK isB fed at_ ltr ab ps g kp nx fa tp rs rv ct it) 18 [(0, .ref (q 0)), (1, .int a1), (2, .int a2), (3, .int v4)] [] := by
  intro fuel
  induction fuel with
  | zero =>
    intro _
    exact v_none
  | succ fuel ih =>
    intro v4
    show VF X res (B_X6_differ_1 g a1 a2 (L_X6_differ_1 g a1 a2 fuel)  v4) _ _ _ _
    unfold B_X6_differ_1
    refine v_iload_n C 3 dX6_differ_18 rfl ?_
    refine v_aload_n C 0 dX6_differ_19 rfl ?_
    refine v_callV0v C 0 rfl rfl rfl (fun l9 r9 h9 => k_X6_all (l := l9) hq hNK  h9) gX6_differ_X6_all rfl nI_X6_all ⟨rfl, rfl, Nat.le_of_ble_eq_true rfl, Nat.le_of_ble_eq_true rfl⟩ dX6_differ_20 (Nat.le_of_ble_eq_true rfl) (fun r5 => ?_)
    refine v_icmp_gt C dX6_differ_23 (tgt := 50) (by decide) ?_ ?_
    · refine v_bipush C dX6_differ_50 (v := (-5)) (by decide) ?_
      exact v_iret (rvf := fun (res : Int32) => (some (.int res))) (wf := fun (res : Int32) => (mW q cs isK isB fed at_ ltr ab ps g kp nx fa tp rs rv ct it)) C dX6_differ_52 rfl rfl
    · refine v_aload_n C 0 dX6_differ_26 rfl ?_
      refine v_iload_n C 1 dX6_differ_27 rfl ?_
      refine v_iload_n C 3 dX6_differ_28 rfl ?_
      refine v_callV2v C 0 rfl rfl rfl (fun l9 r9 h9 => k_X6_v (l := l9) hq hNK  h9) gX6_differ_X6_v rfl nI_X6_v ⟨rfl, rfl, Nat.le_of_ble_eq_true rfl, Nat.le_of_ble_eq_true rfl⟩ dX6_differ_29 (Nat.le_of_ble_eq_true rfl) (fun r6 => ?_)
      refine v_aload_n C 0 dX6_differ_32 rfl ?_
      refine v_iload_n C 2 dX6_differ_33 rfl ?_
      refine v_iload_n C 3 dX6_differ_34 rfl ?_
      refine v_callV2v C 0 rfl rfl rfl (fun l9 r9 h9 => k_X6_v (l := l9) hq hNK  h9) gX6_differ_X6_v rfl nI_X6_v ⟨rfl, rfl, Nat.le_of_ble_eq_true rfl, Nat.le_of_ble_eq_true rfl⟩ dX6_differ_35 (Nat.le_of_ble_eq_true rfl) (fun r7 => ?_)
      refine v_lcmp_eq C dX6_differ_38 dX6_differ_39 (tgt := 44) (by decide) ?_ ?_
      · refine v_iinc_nm C (lvf := fun x8 => [(3, .int x8), (0, .ref (q 0)), (1, .int a1), (2, .int a2)]) 3 dX6_differ_44 rfl rfl (by decide) (fun _ => rfl) (fun x8 => ?_)
        refine v_goto C dX6_differ_47 (tgt := 18) (by decide) ?_
        exact v_sub [1, 2, 3, 0] rfl (ih x8)
      · refine v_iload_n C 3 dX6_differ_42 rfl ?_
        exact v_iret (rvf := fun (res : Int32) => (some (.int res))) (wf := fun (res : Int32) => (mW q cs isK isB fed at_ ltr ab ps g kp nx fa tp rs rv ct it)) C dX6_differ_43 rfl rfl

set_option maxRecDepth 100000 in
set_option maxHeartbeats 4000000 in
theorem k_X6_differ {l : Launch} {a1 : Int32} {a2 : Int32}  {res : Int32} (hq : (mA q).Nodup) (hNK : NOK N)  (hf : f_X6_differ g a1 a2 = some res) : kMet l yX6_differ wsX6_differ { frames := 2, cells := 0, slots := 0, locals := 45 } D vwCl (mT cs) N (mA q) [.ref (q 0), .int a1, .int a2] (mW q cs isK isB fed at_ ltr ab ps g kp nx fa tp rs rv ct it) (some (.int res)) (mW q cs isK isB fed at_ ltr ab ps g kp nx fa tp rs rv ct it) := by
  refine kMet.of (cc := cX6_differ) (nL := 4) (ret := (some .int)) (own := RX6) (lv := [(0, .ref (q 0)), (1, .int a1), (2, .int a2)]) (by decide +kernel) rfl rfl hNK hq (Nat.le_of_ble_eq_true rfl) rfl (fun X C => ?_)
  refine VF.of hf ?_
  unfold f_X6_differ
  refine v_iload_n C 1 dX6_differ_0 rfl ?_
  refine v_callSP1v C (fun l9 r9 h9 => k_X6_isGame (l := l9) h9) gX6_differ_X6_isGame rfl nI_X6_isGame ⟨rfl, rfl, Nat.le_of_ble_eq_true rfl, Nat.le_of_ble_eq_true rfl⟩ dX6_differ_1 (Nat.le_of_ble_eq_true rfl) (fun r1 => ?_)
  refine v_ifb_eq C (b := r1) dX6_differ_4 (tgt := 14) (by decide) ?_ ?_
  · refine v_iconst C dX6_differ_14 (v := (-1)) (by decide) ?_
    exact v_iret (rvf := fun (res : Int32) => (some (.int res))) (wf := fun (res : Int32) => (mW q cs isK isB fed at_ ltr ab ps g kp nx fa tp rs rv ct it)) C dX6_differ_15 rfl rfl
  · refine v_iload_n C 2 dX6_differ_7 rfl ?_
    refine v_callSP1v C (fun l9 r9 h9 => k_X6_isGame (l := l9) h9) gX6_differ_X6_isGame rfl nI_X6_isGame ⟨rfl, rfl, Nat.le_of_ble_eq_true rfl, Nat.le_of_ble_eq_true rfl⟩ dX6_differ_8 (Nat.le_of_ble_eq_true rfl) (fun r2 => ?_)
    refine v_ifb_ne C (b := r2) dX6_differ_11 (tgt := 16) (by decide) ?_ ?_
    · refine v_iconst C dX6_differ_16 (v := 0) (by decide) ?_
      refine v_istore_n C (lv' := [(3, .int 0), (0, .ref (q 0)), (1, .int a1), (2, .int a2)]) dX6_differ_17 rfl (by decide) rfl ?_
      refine v_sub [1, 2, 3, 0] rfl (lp_X6_differ_1 hq hNK C   FU 0)
    · refine v_iconst C dX6_differ_14 (v := (-1)) (by decide) ?_
      exact v_iret (rvf := fun (res : Int32) => (some (.int res))) (wf := fun (res : Int32) => (mW q cs isK isB fed at_ ltr ab ps g kp nx fa tp rs rv ct it)) C dX6_differ_15 rfl rfl

def B_X6_unlike_2 (g : Nat → Int64) (a1 : Int32) (v4 : Int32) (rec6 : Int32 → Option (Int32)) (kx7 : Int32 → Option (Int32)) (v8 : Int32) : Option (Int32) :=
(f_X6_v g a1 v8).bind (fun (r9 : Int64) =>
(f_X6_v g a1 v4).bind (fun (r10 : Int64) =>
if (r9 : Int64) = r10 then (
kx7 v8) else (
nm (v8 + 1) (fun (x11 : Int32) =>
rec6 x11))))
def L_X6_unlike_2 (g : Nat → Int64) (a1 : Int32) (v4 : Int32) (kx7 : Int32 → Option (Int32)) : Nat → Int32 → Option (Int32)
  | 0, _ => none
  | m9 + 1, v8 => B_X6_unlike_2 g a1 v4 (L_X6_unlike_2 g a1 v4 kx7 m9) kx7 v8

def B_X6_unlike_1 (g : Nat → Int64) (a1 : Int32) (rec2 : Int32 → Int32 → Option (Int32))  (v3 : Int32) (v4 : Int32) : Option (Int32) :=
(f_X6_all g).bind (fun (r5 : Int32) =>
if (r5 : Int32) < v4 then (
some v3) else (
L_X6_unlike_2 g a1 v4 (fun (v12 : Int32) =>
jn1 (fun (v14 : Int32) =>
nm (v3 + v14) (fun (x15 : Int32) =>
nm (v4 + 1) (fun (x16 : Int32) =>
rec2 x15 x16))) (fun k13 =>
if (v12 : Int32) = v4 then (
k13 1) else (
k13 0))) FU 0))
def L_X6_unlike_1 (g : Nat → Int64) (a1 : Int32)  : Nat → Int32 → Int32 → Option (Int32)
  | 0, _, _ => none
  | m9 + 1, v3, v4 => B_X6_unlike_1 g a1 (L_X6_unlike_1 g a1 m9)  v3 v4

def f_X6_unlike (g : Nat → Int64) (a1 : Int32) : Option (Int32) :=
(f_X6_isGame a1).bind (fun (r1 : Bool) =>
if r1 = true then (
L_X6_unlike_1 g a1  FU 0 0) else (
some (-1)))

theorem nI_X6_unlike : NameIn yX6_unlike 1 := ⟨by decide +kernel, by decide +kernel, by decide +kernel⟩
set_option maxRecDepth 100000 in
set_option maxHeartbeats 4000000 in
theorem lp_X6_unlike_2 {X : CX} {res : Int32} {a1 : Int32}  {v3 : Int32} {v4 : Int32} (hq : (mA q).Nodup) (hNK : NOK N) (C : Ok X cX6_unlike 5 (some .int) wsX6_unlike RX6 { frames := 2, cells := 0, slots := 0, locals := 45 } D vwCl (mT cs) (mA q) N (some (.int res)) (mW q cs isK isB fed at_ ltr ab ps g kp nx fa tp rs rv ct it))  (kx7 : Int32 → Option (Int32)) (Jkx7 : ∀ y4 : Int32, VF X res (kx7 y4) (mW q cs isK isB fed at_ ltr ab ps g kp nx fa tp rs rv ct it) 47 [(0, .ref (q 0)), (1, .int a1), (2, .int v3), (3, .int v4), (4, .int y4)] []) : ∀ fuel : Nat, ∀ v8 : Int32, VF X res (L_X6_unlike_2 g a1 v4 kx7 fuel v8) (mW q cs isK isB fed at_ ltr ab ps g kp nx fa tp rs rv ct it) 24 [(0, .ref (q 0)), (1, .int a1), (2, .int v3), (3, .int v4), (4, .int v8)] [] := by
  intro fuel
  induction fuel with
  | zero =>
    intro _
    exact v_none
  | succ fuel ih =>
    intro v8
    show VF X res (B_X6_unlike_2 g a1 v4 (L_X6_unlike_2 g a1 v4 kx7 fuel) kx7 v8) _ _ _ _
    unfold B_X6_unlike_2
    refine v_aload_n C 0 dX6_unlike_24 rfl ?_
    refine v_iload_n C 1 dX6_unlike_25 rfl ?_
    refine v_iload C 4 dX6_unlike_26 rfl ?_
    refine v_callV2v C 0 rfl rfl rfl (fun l9 r9 h9 => k_X6_v (l := l9) hq hNK  h9) gX6_unlike_X6_v rfl nI_X6_v ⟨rfl, rfl, Nat.le_of_ble_eq_true rfl, Nat.le_of_ble_eq_true rfl⟩ dX6_unlike_28 (Nat.le_of_ble_eq_true rfl) (fun r9 => ?_)
    refine v_aload_n C 0 dX6_unlike_31 rfl ?_
    refine v_iload_n C 1 dX6_unlike_32 rfl ?_
    refine v_iload_n C 3 dX6_unlike_33 rfl ?_
    refine v_callV2v C 0 rfl rfl rfl (fun l9 r9 h9 => k_X6_v (l := l9) hq hNK  h9) gX6_unlike_X6_v rfl nI_X6_v ⟨rfl, rfl, Nat.le_of_ble_eq_true rfl, Nat.le_of_ble_eq_true rfl⟩ dX6_unlike_34 (Nat.le_of_ble_eq_true rfl) (fun r10 => ?_)
    refine v_lcmp_eq C dX6_unlike_37 dX6_unlike_38 (tgt := 47) (by decide) ?_ ?_
    · exact v_sub [0, 1, 2, 3, 4] rfl (Jkx7 v8)
    · refine v_iinc_nm C (lvf := fun x11 => [(4, .int x11), (0, .ref (q 0)), (1, .int a1), (2, .int v3), (3, .int v4)]) 4 dX6_unlike_41 rfl rfl (by decide) (fun _ => rfl) (fun x11 => ?_)
      refine v_goto C dX6_unlike_44 (tgt := 24) (by decide) ?_
      exact v_sub [1, 2, 3, 4, 0] rfl (ih x11)

set_option maxRecDepth 100000 in
set_option maxHeartbeats 4000000 in
theorem lp_X6_unlike_1 {X : CX} {res : Int32} {a1 : Int32}   (hq : (mA q).Nodup) (hNK : NOK N) (C : Ok X cX6_unlike 5 (some .int) wsX6_unlike RX6 { frames := 2, cells := 0, slots := 0, locals := 45 } D vwCl (mT cs) (mA q) N (some (.int res)) (mW q cs isK isB fed at_ ltr ab ps g kp nx fa tp rs rv ct it))  : ∀ fuel : Nat, ∀ v3 : Int32, ∀ v4 : Int32, VF X res (L_X6_unlike_1 g a1 fuel v3 v4) (mW q cs isK isB fed at_ ltr ab ps g kp nx fa tp rs rv ct it) 13 [(0, .ref (q 0)), (1, .int a1), (2, .int v3), (3, .int v4)] [] := by
  intro fuel
  induction fuel with
  | zero =>
    intro _ _
    exact v_none
  | succ fuel ih =>
    intro v3 v4
    show VF X res (B_X6_unlike_1 g a1 (L_X6_unlike_1 g a1 fuel)  v3 v4) _ _ _ _
    unfold B_X6_unlike_1
    refine v_iload_n C 3 dX6_unlike_13 rfl ?_
    refine v_aload_n C 0 dX6_unlike_14 rfl ?_
    refine v_callV0v C 0 rfl rfl rfl (fun l9 r9 h9 => k_X6_all (l := l9) hq hNK  h9) gX6_unlike_X6_all rfl nI_X6_all ⟨rfl, rfl, Nat.le_of_ble_eq_true rfl, Nat.le_of_ble_eq_true rfl⟩ dX6_unlike_15 (Nat.le_of_ble_eq_true rfl) (fun r5 => ?_)
    refine v_icmp_gt C dX6_unlike_18 (tgt := 67) (by decide) ?_ ?_
    · refine v_iload_n C 2 dX6_unlike_67 rfl ?_
      exact v_iret (rvf := fun (res : Int32) => (some (.int res))) (wf := fun (res : Int32) => (mW q cs isK isB fed at_ ltr ab ps g kp nx fa tp rs rv ct it)) C dX6_unlike_68 rfl rfl
    · refine v_iconst C dX6_unlike_21 (v := 0) (by decide) ?_
      refine v_istore C (lv' := [(4, .int 0), (0, .ref (q 0)), (1, .int a1), (2, .int v3), (3, .int v4)]) dX6_unlike_22 (by decide) rfl ?_
      refine v_sub [1, 2, 3, 4, 0] rfl (lp_X6_unlike_2 hq hNK C  _ (fun v12 => ?_) FU 0)
      refine v_iload_n C 2 dX6_unlike_47 rfl ?_
      refine v_iload C 4 dX6_unlike_48 rfl ?_
      refine v_iload_n C 3 dX6_unlike_50 rfl ?_
      refine v_jn1 (wj := (fun v14 => (mW q cs isK isB fed at_ ltr ab ps g kp nx fa tp rs rv ct it))) (pcj := 59) (lvj := (fun v14 => [(0, .ref (q 0)), (1, .int a1), (3, .int v4)])) (stj := (fun v14 => [.int v14, .int v3])) (fun v14 => ?_) (fun k13 hk13 => ?_)
      · refine v_iadd C dX6_unlike_59 ?_
        refine v_istore_n_nm C (lvf := fun x15 => [(2, .int x15), (0, .ref (q 0)), (1, .int a1), (3, .int v4)]) dX6_unlike_60 rfl (by decide) (fun _ => rfl) (fun x15 => ?_)
        refine v_iinc_nm C (lvf := fun x16 => [(3, .int x16), (2, .int x15), (0, .ref (q 0)), (1, .int a1)]) 3 dX6_unlike_61 rfl rfl (by decide) (fun _ => rfl) (fun x16 => ?_)
        refine v_goto C dX6_unlike_64 (tgt := 13) (by decide) ?_
        exact v_sub [2, 3, 1, 0] rfl (ih x15 x16)
      · refine v_icmp_ne C dX6_unlike_51 (tgt := 58) (by decide) ?_ ?_
        · refine v_iconst C dX6_unlike_58 (v := 0) (by decide) ?_
          exact v_sub [0, 1, 3] rfl (hk13 0)
        · refine v_iconst C dX6_unlike_54 (v := 1) (by decide) ?_
          refine v_goto C dX6_unlike_55 (tgt := 59) (by decide) ?_
          exact v_sub [0, 1, 3] rfl (hk13 1)

set_option maxRecDepth 100000 in
set_option maxHeartbeats 4000000 in
theorem k_X6_unlike {l : Launch} {a1 : Int32}  {res : Int32} (hq : (mA q).Nodup) (hNK : NOK N)  (hf : f_X6_unlike g a1 = some res) : kMet l yX6_unlike wsX6_unlike { frames := 2, cells := 0, slots := 0, locals := 45 } D vwCl (mT cs) N (mA q) [.ref (q 0), .int a1] (mW q cs isK isB fed at_ ltr ab ps g kp nx fa tp rs rv ct it) (some (.int res)) (mW q cs isK isB fed at_ ltr ab ps g kp nx fa tp rs rv ct it) := by
  refine kMet.of (cc := cX6_unlike) (nL := 5) (ret := (some .int)) (own := RX6) (lv := [(0, .ref (q 0)), (1, .int a1)]) (by decide +kernel) rfl rfl hNK hq (Nat.le_of_ble_eq_true rfl) rfl (fun X C => ?_)
  refine VF.of hf ?_
  unfold f_X6_unlike
  refine v_iload_n C 1 dX6_unlike_0 rfl ?_
  refine v_callSP1v C (fun l9 r9 h9 => k_X6_isGame (l := l9) h9) gX6_unlike_X6_isGame rfl nI_X6_isGame ⟨rfl, rfl, Nat.le_of_ble_eq_true rfl, Nat.le_of_ble_eq_true rfl⟩ dX6_unlike_1 (Nat.le_of_ble_eq_true rfl) (fun r1 => ?_)
  refine v_ifb_ne C (b := r1) dX6_unlike_4 (tgt := 9) (by decide) ?_ ?_
  · refine v_iconst C dX6_unlike_9 (v := 0) (by decide) ?_
    refine v_istore_n C (lv' := [(2, .int 0), (0, .ref (q 0)), (1, .int a1)]) dX6_unlike_10 rfl (by decide) rfl ?_
    refine v_iconst C dX6_unlike_11 (v := 0) (by decide) ?_
    refine v_istore_n C (lv' := [(3, .int 0), (2, .int 0), (0, .ref (q 0)), (1, .int a1)]) dX6_unlike_12 rfl (by decide) rfl ?_
    refine v_sub [2, 3, 1, 0] rfl (lp_X6_unlike_1 hq hNK C   FU 0 0)
  · refine v_iconst C dX6_unlike_7 (v := (-1)) (by decide) ?_
    exact v_iret (rvf := fun (res : Int32) => (some (.int res))) (wf := fun (res : Int32) => (mW q cs isK isB fed at_ ltr ab ps g kp nx fa tp rs rv ct it)) C dX6_unlike_8 rfl rfl

def f_X6_isThere (g : Nat → Int64) (ct : Nat → Int32) (a1 : Int32) (a2 : Int32) : Option (Bool) :=
ck (inb a1 4) (
jn0 (some false) (fun k1 =>
if (ct a1.toNatClampNeg : Int32) < 0 then (
k1) else (
if (a2 : Int32) < 0 then (
k1) else (
ck (inb a1 4) (
(f_X6_n g).bind (fun (r2 : Int32) =>
if ((ct a1.toNatClampNeg) - r2 : Int32) < a2 then (
k1) else (
some true)))))))

theorem nI_X6_isThere : NameIn yX6_isThere 2 := ⟨by decide +kernel, by decide +kernel, by decide +kernel⟩
set_option maxRecDepth 100000 in
set_option maxHeartbeats 4000000 in
theorem k_X6_isThere {l : Launch} {a1 : Int32} {a2 : Int32}  {res : Bool} (hq : (mA q).Nodup) (hNK : NOK N)  (hf : f_X6_isThere g ct a1 a2 = some res) : kMet l yX6_isThere wsX6_isThere { frames := 1, cells := 0, slots := 0, locals := 20 } D vwCl (mT cs) N (mA q) [.ref (q 0), .int a1, .int a2] (mW q cs isK isB fed at_ ltr ab ps g kp nx fa tp rs rv ct it) (some (.int (bI res))) (mW q cs isK isB fed at_ ltr ab ps g kp nx fa tp rs rv ct it) := by
  have iX6 : ∀ w ∈ wsX60, w ∈ wsX6_isThere := fun _ h => List.mem_cons_of_mem _ (List.mem_append_right _ h)
  refine kMet.of (cc := cX6_isThere) (nL := 3) (ret := (some .boolean)) (own := RX6) (lv := [(0, .ref (q 0)), (1, .int a1), (2, .int a2)]) (by decide +kernel) rfl rfl hNK hq (Nat.le_of_ble_eq_true rfl) rfl (fun X C => ?_)
  refine VF.of hf ?_
  unfold f_X6_isThere
  refine v_aload_n C 0 dX6_isThere_0 rfl ?_
  refine v_get C (T := TX6) (n := 16) (C9 := RX6) iX6 0 rfl rfl 14 (by decide) (List.mem_of_getElem? (i := 1) rfl) rfl rfl dX6_isThere_1 ?_
  refine v_iload_n C 1 dX6_isThere_4 rfl ?_
  refine v_iald C 8 0 rfl rfl dX6_isThere_5 ?_
  refine v_jn0 (wj := ((mW q cs isK isB fed at_ ltr ab ps g kp nx fa tp rs rv ct it))) (pcj := 32) (lvj := ([])) (stj := ([])) ?_ (fun k1 hk1 => ?_)
  · refine v_iconst C dX6_isThere_32 (v := 0) (by decide) ?_
    exact v_zret (rvf := fun (res : Bool) => (some (.int (bI res)))) (wf := fun (res : Bool) => (mW q cs isK isB fed at_ ltr ab ps g kp nx fa tp rs rv ct it)) C dX6_isThere_33 rfl rfl
  · refine v_if_lt C dX6_isThere_6 (tgt := 32) (by decide) ?_ ?_
    · exact v_sub [] rfl (hk1)
    · refine v_iload_n C 2 dX6_isThere_9 rfl ?_
      refine v_if_lt C dX6_isThere_10 (tgt := 32) (by decide) ?_ ?_
      · exact v_sub [] rfl (hk1)
      · refine v_iload_n C 2 dX6_isThere_13 rfl ?_
        refine v_aload_n C 0 dX6_isThere_14 rfl ?_
        refine v_get C (T := TX6) (n := 16) (C9 := RX6) iX6 0 rfl rfl 14 (by decide) (List.mem_of_getElem? (i := 1) rfl) rfl rfl dX6_isThere_15 ?_
        refine v_iload_n C 1 dX6_isThere_18 rfl ?_
        refine v_iald C 8 0 rfl rfl dX6_isThere_19 ?_
        refine v_aload_n C 0 dX6_isThere_20 rfl ?_
        refine v_callV0v C 0 rfl rfl rfl (fun l9 r9 h9 => k_X6_n (l := l9) hq hNK  h9) gX6_isThere_X6_n rfl nI_X6_n ⟨rfl, rfl, Nat.le_of_ble_eq_true rfl, Nat.le_of_ble_eq_true rfl⟩ dX6_isThere_21 (Nat.le_of_ble_eq_true rfl) (fun r2 => ?_)
        refine v_isub C dX6_isThere_24 ?_
        refine v_icmp_gt C dX6_isThere_25 (tgt := 32) (by decide) ?_ ?_
        · exact v_sub [] rfl (hk1)
        · refine v_iconst C dX6_isThere_28 (v := 1) (by decide) ?_
          refine v_goto C dX6_isThere_29 (tgt := 33) (by decide) ?_
          exact v_zret (rvf := fun (res : Bool) => (some (.int (bI res)))) (wf := fun (res : Bool) => (mW q cs isK isB fed at_ ltr ab ps g kp nx fa tp rs rv ct it)) C dX6_isThere_33 rfl rfl

def B_X6_isOrder_1 (g : Nat → Int64) (it : Nat → Int64) (a1 : Int32) (a2 : Int32) (rec2 : Int32 → Int32 → Option (Bool)) (kx3 : Option (Bool)) (v4 : Int32) (v5 : Int32) : Option (Bool) :=
(f_X6_n g).bind (fun (r6 : Int32) =>
if (v5 : Int32) < r6 then (
ck (inb (((20 * a1) + a2) + v5) 80) (
nm (it (((20 * a1) + a2) + v5).toNatClampNeg) (fun (x7 : Int64) =>
(f_X6_n g).bind (fun (r8 : Int32) =>
(f_X6_isIn x7 0 ((r8 - 1).toInt64)).bind (fun (r9 : Bool) =>
if r9 = true then (
(f_X6_has v4 x7.toInt32).bind (fun (r10 : Bool) =>
if r10 = true then (
kx3) else (
nm (v4 ||| (1 <<< (x7.toInt32 &&& 31))) (fun (x11 : Int32) =>
nm (v5 + 1) (fun (x12 : Int32) =>
rec2 x11 x12))))) else (
kx3)))))) else (
some true))
def L_X6_isOrder_1 (g : Nat → Int64) (it : Nat → Int64) (a1 : Int32) (a2 : Int32) (kx3 : Option (Bool)) : Nat → Int32 → Int32 → Option (Bool)
  | 0, _, _ => none
  | m9 + 1, v4, v5 => B_X6_isOrder_1 g it a1 a2 (L_X6_isOrder_1 g it a1 a2 kx3 m9) kx3 v4 v5

def f_X6_isOrder (g : Nat → Int64) (ct : Nat → Int32) (it : Nat → Int64) (a1 : Int32) (a2 : Int32) : Option (Bool) :=
(f_X6_isThere g ct a1 a2).bind (fun (r1 : Bool) =>
if r1 = true then (
L_X6_isOrder_1 g it a1 a2 (some false) FU 0 0) else (
some false))

theorem nI_X6_isOrder : NameIn yX6_isOrder 2 := ⟨by decide +kernel, by decide +kernel, by decide +kernel⟩
set_option maxRecDepth 100000 in
set_option maxHeartbeats 4000000 in
theorem lp_X6_isOrder_1 {X : CX} {res : Bool} {a1 : Int32} {a2 : Int32}   (hq : (mA q).Nodup) (hNK : NOK N) (C : Ok X cX6_isOrder 7 (some .boolean) wsX6_isOrder RX6 { frames := 2, cells := 0, slots := 0, locals := 42 } D vwCl (mT cs) (mA q) N (some (.int (bI res))) (mW q cs isK isB fed at_ ltr ab ps g kp nx fa tp rs rv ct it))  (kx3 : Option (Bool)) (Jkx3 : VF X res (kx3) (mW q cs isK isB fed at_ ltr ab ps g kp nx fa tp rs rv ct it) 67 [] []) : ∀ fuel : Nat, ∀ v4 : Int32, ∀ v5 : Int32, VF X res (L_X6_isOrder_1 g it a1 a2 kx3 fuel v4 v5) (mW q cs isK isB fed at_ ltr ab ps g kp nx fa tp rs rv ct it) 16 [(0, .ref (q 0)), (1, .int a1), (2, .int a2), (3, .int v4), (4, .int v5)] [] := by
  have iX6 : ∀ w ∈ wsX60, w ∈ wsX6_isOrder := fun _ h => List.mem_cons_of_mem _ (List.mem_append_right _ h)
  intro fuel
  induction fuel with
  | zero =>
    intro _ _
    exact v_none
  | succ fuel ih =>
    intro v4 v5
    show VF X res (B_X6_isOrder_1 g it a1 a2 (L_X6_isOrder_1 g it a1 a2 kx3 fuel) kx3 v4 v5) _ _ _ _
    unfold B_X6_isOrder_1
    refine v_iload C 4 dX6_isOrder_16 rfl ?_
    refine v_aload_n C 0 dX6_isOrder_18 rfl ?_
    refine v_callV0v C 0 rfl rfl rfl (fun l9 r9 h9 => k_X6_n (l := l9) hq hNK  h9) gX6_isOrder_X6_n rfl nI_X6_n ⟨rfl, rfl, Nat.le_of_ble_eq_true rfl, Nat.le_of_ble_eq_true rfl⟩ dX6_isOrder_19 (Nat.le_of_ble_eq_true rfl) (fun r6 => ?_)
    refine v_icmp_ge C dX6_isOrder_22 (tgt := 83) (by decide) ?_ ?_
    · refine v_iconst C dX6_isOrder_83 (v := 1) (by decide) ?_
      exact v_zret (rvf := fun (res : Bool) => (some (.int (bI res)))) (wf := fun (res : Bool) => (mW q cs isK isB fed at_ ltr ab ps g kp nx fa tp rs rv ct it)) C dX6_isOrder_84 rfl rfl
    · refine v_aload_n C 0 dX6_isOrder_25 rfl ?_
      refine v_get C (T := TX6) (n := 16) (C9 := RX6) iX6 0 rfl rfl 15 (by decide) (List.mem_of_getElem? (i := 1) rfl) rfl rfl dX6_isOrder_26 ?_
      refine v_bipush C dX6_isOrder_29 (v := 20) (by decide) ?_
      refine v_iload_n C 1 dX6_isOrder_31 rfl ?_
      refine v_imul C dX6_isOrder_32 ?_
      refine v_iload_n C 2 dX6_isOrder_33 rfl ?_
      refine v_iadd C dX6_isOrder_34 ?_
      refine v_iload C 4 dX6_isOrder_35 rfl ?_
      refine v_iadd C dX6_isOrder_37 ?_
      refine v_lald C 9 1 rfl rfl dX6_isOrder_38 ?_
      refine v_lstore_nm C (lvf := fun x7 => [(5, .long x7), (0, .ref (q 0)), (1, .int a1), (2, .int a2), (3, .int v4), (4, .int v5)]) dX6_isOrder_39 (by decide) (fun _ => rfl) (fun x7 => ?_)
      refine v_lload C 0 dX6_isOrder_41 rfl ?_
      refine v_lconst C dX6_isOrder_43 (v := 0) (by decide) ?_
      refine v_aload_n C 1 dX6_isOrder_44 rfl ?_
      refine v_callV0v C 0 rfl rfl rfl (fun l9 r9 h9 => k_X6_n (l := l9) hq hNK  h9) gX6_isOrder_X6_n rfl nI_X6_n ⟨rfl, rfl, Nat.le_of_ble_eq_true rfl, Nat.le_of_ble_eq_true rfl⟩ dX6_isOrder_45 (Nat.le_of_ble_eq_true rfl) (fun r8 => ?_)
      refine v_iconst C dX6_isOrder_48 (v := 1) (by decide) ?_
      refine v_isub C dX6_isOrder_49 ?_
      refine v_i2l C dX6_isOrder_50 ?_
      refine v_callSP3v C (fun l9 r9 h9 => k_X6_isIn (l := l9) h9) gX6_isOrder_X6_isIn rfl nI_X6_isIn ⟨rfl, rfl, Nat.le_of_ble_eq_true rfl, Nat.le_of_ble_eq_true rfl⟩ dX6_isOrder_51 (Nat.le_of_ble_eq_true rfl) (fun r9 => ?_)
      refine v_ifb_eq C (b := r9) dX6_isOrder_54 (tgt := 67) (by decide) ?_ ?_
      · exact v_sub [] rfl (Jkx3)
      · refine v_iload_n C 4 dX6_isOrder_57 rfl ?_
        refine v_lload C 0 dX6_isOrder_58 rfl ?_
        refine v_l2i C dX6_isOrder_60 ?_
        refine v_callSP2v C (fun l9 r9 h9 => k_X6_has (l := l9) h9) gX6_isOrder_X6_has rfl nI_X6_has ⟨rfl, rfl, Nat.le_of_ble_eq_true rfl, Nat.le_of_ble_eq_true rfl⟩ dX6_isOrder_61 (Nat.le_of_ble_eq_true rfl) (fun r10 => ?_)
        refine v_ifb_eq C (b := r10) dX6_isOrder_64 (tgt := 69) (by decide) ?_ ?_
        · refine v_iload_n C 4 dX6_isOrder_69 rfl ?_
          refine v_iconst C dX6_isOrder_70 (v := 1) (by decide) ?_
          refine v_lload C 0 dX6_isOrder_71 rfl ?_
          refine v_l2i C dX6_isOrder_73 ?_
          refine v_ishl C dX6_isOrder_74 ?_
          refine v_ior C dX6_isOrder_75 ?_
          refine v_istore_n_nm C (lvf := fun x11 => [(3, .int x11), (5, .long x7), (0, .ref (q 0)), (1, .int a1), (2, .int a2), (4, .int v5)]) dX6_isOrder_76 rfl (by decide) (fun _ => rfl) (fun x11 => ?_)
          refine v_iinc_nm C (lvf := fun x12 => [(4, .int x12), (3, .int x11), (5, .long x7), (0, .ref (q 0)), (1, .int a1), (2, .int a2)]) 5 dX6_isOrder_77 rfl rfl (by decide) (fun _ => rfl) (fun x12 => ?_)
          refine v_goto C dX6_isOrder_80 (tgt := 16) (by decide) ?_
          exact v_sub [3, 4, 5, 1, 0] rfl (ih x11 x12)
        · exact v_sub [] rfl (Jkx3)

set_option maxRecDepth 100000 in
set_option maxHeartbeats 4000000 in
theorem k_X6_isOrder {l : Launch} {a1 : Int32} {a2 : Int32}  {res : Bool} (hq : (mA q).Nodup) (hNK : NOK N)  (hf : f_X6_isOrder g ct it a1 a2 = some res) : kMet l yX6_isOrder wsX6_isOrder { frames := 2, cells := 0, slots := 0, locals := 42 } D vwCl (mT cs) N (mA q) [.ref (q 0), .int a1, .int a2] (mW q cs isK isB fed at_ ltr ab ps g kp nx fa tp rs rv ct it) (some (.int (bI res))) (mW q cs isK isB fed at_ ltr ab ps g kp nx fa tp rs rv ct it) := by
  refine kMet.of (cc := cX6_isOrder) (nL := 7) (ret := (some .boolean)) (own := RX6) (lv := [(0, .ref (q 0)), (1, .int a1), (2, .int a2)]) (by decide +kernel) rfl rfl hNK hq (Nat.le_of_ble_eq_true rfl) rfl (fun X C => ?_)
  refine VF.of hf ?_
  unfold f_X6_isOrder
  refine v_aload_n C 0 dX6_isOrder_0 rfl ?_
  refine v_iload_n C 1 dX6_isOrder_1 rfl ?_
  refine v_iload_n C 2 dX6_isOrder_2 rfl ?_
  refine v_callV2v C 0 rfl rfl rfl (fun l9 r9 h9 => k_X6_isThere (l := l9) hq hNK  h9) gX6_isOrder_X6_isThere rfl nI_X6_isThere ⟨rfl, rfl, Nat.le_of_ble_eq_true rfl, Nat.le_of_ble_eq_true rfl⟩ dX6_isOrder_3 (Nat.le_of_ble_eq_true rfl) (fun r1 => ?_)
  refine v_ifb_ne C (b := r1) dX6_isOrder_6 (tgt := 11) (by decide) ?_ ?_
  · refine v_iconst C dX6_isOrder_11 (v := 0) (by decide) ?_
    refine v_istore_n C (lv' := [(3, .int 0), (0, .ref (q 0)), (1, .int a1), (2, .int a2)]) dX6_isOrder_12 rfl (by decide) rfl ?_
    refine v_iconst C dX6_isOrder_13 (v := 0) (by decide) ?_
    refine v_istore C (lv' := [(4, .int 0), (3, .int 0), (0, .ref (q 0)), (1, .int a1), (2, .int a2)]) dX6_isOrder_14 (by decide) rfl ?_
    refine v_sub [2, 3, 4, 1, 0] rfl (lp_X6_isOrder_1 hq hNK C  _ ?_ FU 0 0)
    refine v_iconst C dX6_isOrder_67 (v := 0) (by decide) ?_
    exact v_zret (rvf := fun (res : Bool) => (some (.int (bI res)))) (wf := fun (res : Bool) => (mW q cs isK isB fed at_ ltr ab ps g kp nx fa tp rs rv ct it)) C dX6_isOrder_68 rfl rfl
  · refine v_iconst C dX6_isOrder_9 (v := 0) (by decide) ?_
    exact v_zret (rvf := fun (res : Bool) => (some (.int (bI res)))) (wf := fun (res : Bool) => (mW q cs isK isB fed at_ ltr ab ps g kp nx fa tp rs rv ct it)) C dX6_isOrder_10 rfl rfl

def B_X6_ahead_1 (it : Nat → Int64) (a1 : Int32) (a2 : Int32) (a3 : Int32) (rec1 : Int32 → Int32 → Option (Int32))  (v2 : Int32) (v3 : Int32) : Option (Int32) :=
if (v3 : Int32) < a3 then (
ck (inb (((20 * a1) + a2) + v3) 80) (
nm (v2 ||| (1 <<< (((it (((20 * a1) + a2) + v3).toNatClampNeg).toInt32) &&& 31))) (fun (x4 : Int32) =>
nm (v3 + 1) (fun (x5 : Int32) =>
rec1 x4 x5)))) else (
some v2)
def L_X6_ahead_1 (it : Nat → Int64) (a1 : Int32) (a2 : Int32) (a3 : Int32)  : Nat → Int32 → Int32 → Option (Int32)
  | 0, _, _ => none
  | m9 + 1, v2, v3 => B_X6_ahead_1 it a1 a2 a3 (L_X6_ahead_1 it a1 a2 a3 m9)  v2 v3

def f_X6_ahead (it : Nat → Int64) (a1 : Int32) (a2 : Int32) (a3 : Int32) : Option (Int32) :=
L_X6_ahead_1 it a1 a2 a3  FU 0 0

theorem nI_X6_ahead : NameIn yX6_ahead 3 := ⟨by decide +kernel, by decide +kernel, by decide +kernel⟩
set_option maxRecDepth 100000 in
set_option maxHeartbeats 4000000 in
theorem lp_X6_ahead_1 {X : CX} {res : Int32} {a1 : Int32} {a2 : Int32} {a3 : Int32}   (hq : (mA q).Nodup) (hNK : NOK N) (C : Ok X cX6_ahead 6 (some .int) wsX6_ahead RX6 { frames := 0, cells := 0, slots := 0, locals := 0 } D vwCl (mT cs) (mA q) N (some (.int res)) (mW q cs isK isB fed at_ ltr ab ps g kp nx fa tp rs rv ct it))  : ∀ fuel : Nat, ∀ v2 : Int32, ∀ v3 : Int32, VF X res (L_X6_ahead_1 it a1 a2 a3 fuel v2 v3) (mW q cs isK isB fed at_ ltr ab ps g kp nx fa tp rs rv ct it) 6 [(0, .ref (q 0)), (1, .int a1), (2, .int a2), (3, .int a3), (4, .int v2), (5, .int v3)] [] := by
  have iX6 : ∀ w ∈ wsX60, w ∈ wsX6_ahead := fun _ h => List.mem_cons_of_mem _ (List.mem_append_right _ h)
  intro fuel
  induction fuel with
  | zero =>
    intro _ _
    exact v_none
  | succ fuel ih =>
    intro v2 v3
    show VF X res (B_X6_ahead_1 it a1 a2 a3 (L_X6_ahead_1 it a1 a2 a3 fuel)  v2 v3) _ _ _ _
    unfold B_X6_ahead_1
    refine v_iload C 5 dX6_ahead_6 rfl ?_
    refine v_iload_n C 3 dX6_ahead_8 rfl ?_
    refine v_icmp_ge C dX6_ahead_9 (tgt := 40) (by decide) ?_ ?_
    · refine v_iload C 4 dX6_ahead_40 rfl ?_
      exact v_iret (rvf := fun (res : Int32) => (some (.int res))) (wf := fun (res : Int32) => (mW q cs isK isB fed at_ ltr ab ps g kp nx fa tp rs rv ct it)) C dX6_ahead_42 rfl rfl
    · refine v_iload C 4 dX6_ahead_12 rfl ?_
      refine v_iconst C dX6_ahead_14 (v := 1) (by decide) ?_
      refine v_aload_n C 0 dX6_ahead_15 rfl ?_
      refine v_get C (T := TX6) (n := 16) (C9 := RX6) iX6 0 rfl rfl 15 (by decide) (List.mem_of_getElem? (i := 1) rfl) rfl rfl dX6_ahead_16 ?_
      refine v_bipush C dX6_ahead_19 (v := 20) (by decide) ?_
      refine v_iload_n C 1 dX6_ahead_21 rfl ?_
      refine v_imul C dX6_ahead_22 ?_
      refine v_iload_n C 2 dX6_ahead_23 rfl ?_
      refine v_iadd C dX6_ahead_24 ?_
      refine v_iload C 5 dX6_ahead_25 rfl ?_
      refine v_iadd C dX6_ahead_27 ?_
      refine v_lald C 9 1 rfl rfl dX6_ahead_28 ?_
      refine v_l2i C dX6_ahead_29 ?_
      refine v_ishl C dX6_ahead_30 ?_
      refine v_ior C dX6_ahead_31 ?_
      refine v_istore_nm C (lvf := fun x4 => [(4, .int x4), (0, .ref (q 0)), (1, .int a1), (2, .int a2), (3, .int a3), (5, .int v3)]) dX6_ahead_32 (by decide) (fun _ => rfl) (fun x4 => ?_)
      refine v_iinc_nm C (lvf := fun x5 => [(5, .int x5), (4, .int x4), (0, .ref (q 0)), (1, .int a1), (2, .int a2), (3, .int a3)]) 5 dX6_ahead_34 rfl rfl (by decide) (fun _ => rfl) (fun x5 => ?_)
      refine v_goto C dX6_ahead_37 (tgt := 6) (by decide) ?_
      exact v_sub [2, 3, 4, 5, 1, 0] rfl (ih x4 x5)

set_option maxRecDepth 100000 in
set_option maxHeartbeats 4000000 in
theorem k_X6_ahead {l : Launch} {a1 : Int32} {a2 : Int32} {a3 : Int32}  {res : Int32} (hq : (mA q).Nodup) (hNK : NOK N)  (hf : f_X6_ahead it a1 a2 a3 = some res) : kMet l yX6_ahead wsX6_ahead { frames := 0, cells := 0, slots := 0, locals := 0 } D vwCl (mT cs) N (mA q) [.ref (q 0), .int a1, .int a2, .int a3] (mW q cs isK isB fed at_ ltr ab ps g kp nx fa tp rs rv ct it) (some (.int res)) (mW q cs isK isB fed at_ ltr ab ps g kp nx fa tp rs rv ct it) := by
  refine kMet.of (cc := cX6_ahead) (nL := 6) (ret := (some .int)) (own := RX6) (lv := [(0, .ref (q 0)), (1, .int a1), (2, .int a2), (3, .int a3)]) (by decide +kernel) rfl rfl hNK hq (Nat.le_of_ble_eq_true rfl) rfl (fun X C => ?_)
  refine VF.of hf ?_
  unfold f_X6_ahead
  refine v_iconst C dX6_ahead_0 (v := 0) (by decide) ?_
  refine v_istore C (lv' := [(4, .int 0), (0, .ref (q 0)), (1, .int a1), (2, .int a2), (3, .int a3)]) dX6_ahead_1 (by decide) rfl ?_
  refine v_iconst C dX6_ahead_3 (v := 0) (by decide) ?_
  refine v_istore C (lv' := [(5, .int 0), (4, .int 0), (0, .ref (q 0)), (1, .int a1), (2, .int a2), (3, .int a3)]) dX6_ahead_4 (by decide) rfl ?_
  refine v_sub [2, 3, 4, 5, 1, 0] rfl (lp_X6_ahead_1 hq hNK C   FU 0 0)

def f_X6_adds (isB : Bool) (g : Nat → Int64) (ct : Nat → Int32) (it : Nat → Int64) (a1 : Int32) (a2 : Int32) (a3 : Int32) (a4 : Int32) : Option (Int64 × Bool) :=
(f_X6_isGame a1).bind (fun (r1 : Bool) =>
if r1 = true then (
(f_X6_isRow a2).bind (fun (r2 : Bool) =>
if r2 = true then (
(f_X6_n g).bind (fun (r3 : Int32) =>
(f_X6_isIn a4.toInt64 0 ((r3 - 1).toInt64)).bind (fun (r4 : Bool) =>
if r4 = true then (
(f_X6_isOrder g ct it a2 a3).bind (fun (r5 : Bool) =>
if r5 = true then (
nm false (fun (isB6 : Bool) =>
(f_X6_ahead it a2 a3 (a4 + 1)).bind (fun (r7 : Int32) =>
(f_X6_v g a1 r7).bind (fun (r8 : Int64) =>
(f_X6_ahead it a2 a3 a4).bind (fun (r9 : Int32) =>
(f_X6_v g a1 r9).bind (fun (r10 : Int64) =>
(f_X6_minus isB6 r8 r10).bind (fun (r11 : Int64 × Bool) =>
if r11.2 = true then (
some ((-9223372036854775808), r11.2)) else (
some (r11.1, r11.2))))))))) else (
some ((-9223372036854775808), isB)))) else (
some ((-9223372036854775808), isB))))) else (
some ((-9223372036854775808), isB)))) else (
some ((-9223372036854775808), isB)))

theorem nI_X6_adds : NameIn yX6_adds 4 := ⟨by decide +kernel, by decide +kernel, by decide +kernel⟩
set_option maxRecDepth 100000 in
set_option maxHeartbeats 4000000 in
theorem k_X6_adds {l : Launch} {a1 : Int32} {a2 : Int32} {a3 : Int32} {a4 : Int32}  {res : Int64 × Bool} (hq : (mA q).Nodup) (hNK : NOK N)  (hf : f_X6_adds isB g ct it a1 a2 a3 a4 = some res) : kMet l yX6_adds wsX6_adds { frames := 3, cells := 0, slots := 0, locals := 68 } D vwCl (mT cs) N (mA q) [.ref (q 0), .int a1, .int a2, .int a3, .int a4] (mW q cs isK isB fed at_ ltr ab ps g kp nx fa tp rs rv ct it) (some (.long res.1)) (mW q cs isK res.2 fed at_ ltr ab ps g kp nx fa tp rs rv ct it) := by
  have iX6 : ∀ w ∈ wsX60, w ∈ wsX6_adds := fun _ h => List.mem_cons_of_mem _ (List.mem_append_right _ h)
  refine kMet.of (cc := cX6_adds) (nL := 7) (ret := (some .long)) (own := RX6) (lv := [(0, .ref (q 0)), (1, .int a1), (2, .int a2), (3, .int a3), (4, .int a4)]) (by decide +kernel) rfl rfl hNK hq (Nat.le_of_ble_eq_true rfl) rfl (fun X C => ?_)
  refine VF.of hf ?_
  unfold f_X6_adds
  refine v_iload_n C 1 dX6_adds_0 rfl ?_
  refine v_callSP1v C (fun l9 r9 h9 => k_X6_isGame (l := l9) h9) gX6_adds_X6_isGame rfl nI_X6_isGame ⟨rfl, rfl, Nat.le_of_ble_eq_true rfl, Nat.le_of_ble_eq_true rfl⟩ dX6_adds_1 (Nat.le_of_ble_eq_true rfl) (fun r1 => ?_)
  refine v_ifb_eq C (b := r1) dX6_adds_4 (tgt := 40) (by decide) ?_ ?_
  · refine v_ldc2 C (v := (-9223372036854775808)) (List.mem_of_getElem? (i := 1) rfl) dX6_adds_40 ?_
    exact v_lret (rvf := fun (res : Int64 × Bool) => (some (.long res.1))) (wf := fun (res : Int64 × Bool) => (mW q cs isK res.2 fed at_ ltr ab ps g kp nx fa tp rs rv ct it)) C dX6_adds_43 rfl rfl
  · refine v_iload_n C 2 dX6_adds_7 rfl ?_
    refine v_callSP1v C (fun l9 r9 h9 => k_X6_isRow (l := l9) h9) gX6_adds_X6_isRow rfl nI_X6_isRow ⟨rfl, rfl, Nat.le_of_ble_eq_true rfl, Nat.le_of_ble_eq_true rfl⟩ dX6_adds_8 (Nat.le_of_ble_eq_true rfl) (fun r2 => ?_)
    refine v_ifb_eq C (b := r2) dX6_adds_11 (tgt := 40) (by decide) ?_ ?_
    · refine v_ldc2 C (v := (-9223372036854775808)) (List.mem_of_getElem? (i := 1) rfl) dX6_adds_40 ?_
      exact v_lret (rvf := fun (res : Int64 × Bool) => (some (.long res.1))) (wf := fun (res : Int64 × Bool) => (mW q cs isK res.2 fed at_ ltr ab ps g kp nx fa tp rs rv ct it)) C dX6_adds_43 rfl rfl
    · refine v_iload C 4 dX6_adds_14 rfl ?_
      refine v_i2l C dX6_adds_16 ?_
      refine v_lconst C dX6_adds_17 (v := 0) (by decide) ?_
      refine v_aload_n C 0 dX6_adds_18 rfl ?_
      refine v_callV0v C 0 rfl rfl rfl (fun l9 r9 h9 => k_X6_n (l := l9) hq hNK  h9) gX6_adds_X6_n rfl nI_X6_n ⟨rfl, rfl, Nat.le_of_ble_eq_true rfl, Nat.le_of_ble_eq_true rfl⟩ dX6_adds_19 (Nat.le_of_ble_eq_true rfl) (fun r3 => ?_)
      refine v_iconst C dX6_adds_22 (v := 1) (by decide) ?_
      refine v_isub C dX6_adds_23 ?_
      refine v_i2l C dX6_adds_24 ?_
      refine v_callSP3v C (fun l9 r9 h9 => k_X6_isIn (l := l9) h9) gX6_adds_X6_isIn rfl nI_X6_isIn ⟨rfl, rfl, Nat.le_of_ble_eq_true rfl, Nat.le_of_ble_eq_true rfl⟩ dX6_adds_25 (Nat.le_of_ble_eq_true rfl) (fun r4 => ?_)
      refine v_ifb_eq C (b := r4) dX6_adds_28 (tgt := 40) (by decide) ?_ ?_
      · refine v_ldc2 C (v := (-9223372036854775808)) (List.mem_of_getElem? (i := 1) rfl) dX6_adds_40 ?_
        exact v_lret (rvf := fun (res : Int64 × Bool) => (some (.long res.1))) (wf := fun (res : Int64 × Bool) => (mW q cs isK res.2 fed at_ ltr ab ps g kp nx fa tp rs rv ct it)) C dX6_adds_43 rfl rfl
      · refine v_aload_n C 0 dX6_adds_31 rfl ?_
        refine v_iload_n C 2 dX6_adds_32 rfl ?_
        refine v_iload_n C 3 dX6_adds_33 rfl ?_
        refine v_callV2v C 0 rfl rfl rfl (fun l9 r9 h9 => k_X6_isOrder (l := l9) hq hNK  h9) gX6_adds_X6_isOrder rfl nI_X6_isOrder ⟨rfl, rfl, Nat.le_of_ble_eq_true rfl, Nat.le_of_ble_eq_true rfl⟩ dX6_adds_34 (Nat.le_of_ble_eq_true rfl) (fun r5 => ?_)
        refine v_ifb_ne C (b := r5) dX6_adds_37 (tgt := 44) (by decide) ?_ ?_
        · refine v_aload_n C 0 dX6_adds_44 rfl ?_
          refine v_iconst C dX6_adds_45 (v := 0) (by decide) ?_
          refine v_put_nm C (v := false) (fun z9 => Value.int (bI z9)) (ty := .boolean) (T := TX6) (n := 16) (C9 := RX6) (ty0 := tyX6) (fun isB6 => (mW q cs isK isB6 fed at_ ltr ab ps g kp nx fa tp rs rv ct it)) iX6 tyX6_ok nmX6 0 rfl rfl rfl 5 (by decide) (List.mem_of_getElem? (i := 2) rfl) rfl rfl rfl bI_nar bI_fit (Nat.le_of_ble_eq_true rfl) (fun _ => rfl) dX6_adds_46 (fun isB6 => ?_)
          refine v_aload_n C 0 dX6_adds_49 rfl ?_
          refine v_aload_n C 0 dX6_adds_50 rfl ?_
          refine v_iload_n C 1 dX6_adds_51 rfl ?_
          refine v_aload_n C 0 dX6_adds_52 rfl ?_
          refine v_iload_n C 2 dX6_adds_53 rfl ?_
          refine v_iload_n C 3 dX6_adds_54 rfl ?_
          refine v_iload C 4 dX6_adds_55 rfl ?_
          refine v_iconst C dX6_adds_57 (v := 1) (by decide) ?_
          refine v_iadd C dX6_adds_58 ?_
          refine v_callV3v C 0 rfl rfl rfl (fun l9 r9 h9 => k_X6_ahead (l := l9) hq hNK  h9) gX6_adds_X6_ahead rfl nI_X6_ahead ⟨rfl, rfl, Nat.le_of_ble_eq_true rfl, Nat.le_of_ble_eq_true rfl⟩ dX6_adds_59 (Nat.le_of_ble_eq_true rfl) (fun r7 => ?_)
          refine v_callV2v C 0 rfl rfl rfl (fun l9 r9 h9 => k_X6_v (l := l9) hq hNK  h9) gX6_adds_X6_v rfl nI_X6_v ⟨rfl, rfl, Nat.le_of_ble_eq_true rfl, Nat.le_of_ble_eq_true rfl⟩ dX6_adds_62 (Nat.le_of_ble_eq_true rfl) (fun r8 => ?_)
          refine v_aload_n C 0 dX6_adds_65 rfl ?_
          refine v_iload_n C 1 dX6_adds_66 rfl ?_
          refine v_aload_n C 0 dX6_adds_67 rfl ?_
          refine v_iload_n C 2 dX6_adds_68 rfl ?_
          refine v_iload_n C 3 dX6_adds_69 rfl ?_
          refine v_iload C 4 dX6_adds_70 rfl ?_
          refine v_callV3v C 0 rfl rfl rfl (fun l9 r9 h9 => k_X6_ahead (l := l9) hq hNK  h9) gX6_adds_X6_ahead rfl nI_X6_ahead ⟨rfl, rfl, Nat.le_of_ble_eq_true rfl, Nat.le_of_ble_eq_true rfl⟩ dX6_adds_72 (Nat.le_of_ble_eq_true rfl) (fun r9 => ?_)
          refine v_callV2v C 0 rfl rfl rfl (fun l9 r9 h9 => k_X6_v (l := l9) hq hNK  h9) gX6_adds_X6_v rfl nI_X6_v ⟨rfl, rfl, Nat.le_of_ble_eq_true rfl, Nat.le_of_ble_eq_true rfl⟩ dX6_adds_75 (Nat.le_of_ble_eq_true rfl) (fun r10 => ?_)
          refine v_callV2v C 0 rfl rfl rfl (fun l9 r9 h9 => k_X6_minus (l := l9) hq hNK  h9) gX6_adds_X6_minus rfl nI_X6_minus ⟨rfl, rfl, Nat.le_of_ble_eq_true rfl, Nat.le_of_ble_eq_true rfl⟩ dX6_adds_78 (Nat.le_of_ble_eq_true rfl) (fun r11 => ?_)
          refine v_lstore C (lv' := [(5, .long r11.1), (0, .ref (q 0)), (1, .int a1), (2, .int a2), (3, .int a3), (4, .int a4)]) dX6_adds_81 (by decide) rfl ?_
          refine v_aload_n C 1 dX6_adds_83 rfl ?_
          refine v_get C (T := TX6) (n := 16) (C9 := RX6) iX6 0 rfl rfl 5 (by decide) (List.mem_of_getElem? (i := 2) rfl) rfl rfl dX6_adds_84 ?_
          refine v_ifb_eq C (b := r11.2) dX6_adds_87 (tgt := 96) (by decide) ?_ ?_
          · refine v_lload C 0 dX6_adds_96 rfl ?_
            exact v_lret (rvf := fun (res : Int64 × Bool) => (some (.long res.1))) (wf := fun (res : Int64 × Bool) => (mW q cs isK res.2 fed at_ ltr ab ps g kp nx fa tp rs rv ct it)) C dX6_adds_98 rfl rfl
          · refine v_ldc2 C (v := (-9223372036854775808)) (List.mem_of_getElem? (i := 1) rfl) dX6_adds_90 ?_
            refine v_goto C dX6_adds_93 (tgt := 98) (by decide) ?_
            exact v_lret (rvf := fun (res : Int64 × Bool) => (some (.long res.1))) (wf := fun (res : Int64 × Bool) => (mW q cs isK res.2 fed at_ ltr ab ps g kp nx fa tp rs rv ct it)) C dX6_adds_98 rfl rfl
        · refine v_ldc2 C (v := (-9223372036854775808)) (List.mem_of_getElem? (i := 1) rfl) dX6_adds_40 ?_
          exact v_lret (rvf := fun (res : Int64 × Bool) => (some (.long res.1))) (wf := fun (res : Int64 × Bool) => (mW q cs isK res.2 fed at_ ltr ab ps g kp nx fa tp rs rv ct it)) C dX6_adds_43 rfl rfl

def B_X6_pivot_1 (g : Nat → Int64) (it : Nat → Int64) (a1 : Int32) (a2 : Int32) (rec3 : Int32 → Option (Int32))  (v4 : Int32) : Option (Int32) :=
(f_X6_n g).bind (fun (r5 : Int32) =>
if (v4 : Int32) < r5 then (
(f_X6_ahead it a1 a2 v4).bind (fun (r6 : Int32) =>
(f_X6_wins g r6).bind (fun (r7 : Bool) =>
jn0 (nm (v4 + 1) (fun (x9 : Int32) =>
rec3 x9)) (fun k8 =>
if r7 = true then (
k8) else (
(f_X6_ahead it a1 a2 (v4 + 1)).bind (fun (r10 : Int32) =>
(f_X6_wins g r10).bind (fun (r11 : Bool) =>
if r11 = true then (
ck (inb (((20 * a1) + a2) + v4) 80) (
some ((it (((20 * a1) + a2) + v4).toNatClampNeg).toInt32))) else (
k8)))))))) else (
some (-5)))
def L_X6_pivot_1 (g : Nat → Int64) (it : Nat → Int64) (a1 : Int32) (a2 : Int32)  : Nat → Int32 → Option (Int32)
  | 0, _ => none
  | m9 + 1, v4 => B_X6_pivot_1 g it a1 a2 (L_X6_pivot_1 g it a1 a2 m9)  v4

def f_X6_pivot (g : Nat → Int64) (ct : Nat → Int32) (it : Nat → Int64) (a1 : Int32) (a2 : Int32) : Option (Int32) :=
(f_X6_isRow a1).bind (fun (r1 : Bool) =>
if r1 = true then (
(f_X6_isOrder g ct it a1 a2).bind (fun (r2 : Bool) =>
if r2 = true then (
L_X6_pivot_1 g it a1 a2  FU 0) else (
some (-3)))) else (
some (-1)))

theorem nI_X6_pivot : NameIn yX6_pivot 2 := ⟨by decide +kernel, by decide +kernel, by decide +kernel⟩
set_option maxRecDepth 100000 in
set_option maxHeartbeats 4000000 in
theorem lp_X6_pivot_1 {X : CX} {res : Int32} {a1 : Int32} {a2 : Int32}   (hq : (mA q).Nodup) (hNK : NOK N) (C : Ok X cX6_pivot 4 (some .int) wsX6_pivot RX6 { frames := 3, cells := 0, slots := 0, locals := 68 } D vwCl (mT cs) (mA q) N (some (.int res)) (mW q cs isK isB fed at_ ltr ab ps g kp nx fa tp rs rv ct it))  : ∀ fuel : Nat, ∀ v4 : Int32, VF X res (L_X6_pivot_1 g it a1 a2 fuel v4) (mW q cs isK isB fed at_ ltr ab ps g kp nx fa tp rs rv ct it) 23 [(0, .ref (q 0)), (1, .int a1), (2, .int a2), (3, .int v4)] [] := by
  have iX6 : ∀ w ∈ wsX60, w ∈ wsX6_pivot := fun _ h => List.mem_cons_of_mem _ (List.mem_append_right _ h)
  intro fuel
  induction fuel with
  | zero =>
    intro _
    exact v_none
  | succ fuel ih =>
    intro v4
    show VF X res (B_X6_pivot_1 g it a1 a2 (L_X6_pivot_1 g it a1 a2 fuel)  v4) _ _ _ _
    unfold B_X6_pivot_1
    refine v_iload_n C 3 dX6_pivot_23 rfl ?_
    refine v_aload_n C 0 dX6_pivot_24 rfl ?_
    refine v_callV0v C 0 rfl rfl rfl (fun l9 r9 h9 => k_X6_n (l := l9) hq hNK  h9) gX6_pivot_X6_n rfl nI_X6_n ⟨rfl, rfl, Nat.le_of_ble_eq_true rfl, Nat.le_of_ble_eq_true rfl⟩ dX6_pivot_25 (Nat.le_of_ble_eq_true rfl) (fun r5 => ?_)
    refine v_icmp_ge C dX6_pivot_28 (tgt := 82) (by decide) ?_ ?_
    · refine v_bipush C dX6_pivot_82 (v := (-5)) (by decide) ?_
      exact v_iret (rvf := fun (res : Int32) => (some (.int res))) (wf := fun (res : Int32) => (mW q cs isK isB fed at_ ltr ab ps g kp nx fa tp rs rv ct it)) C dX6_pivot_84 rfl rfl
    · refine v_aload_n C 0 dX6_pivot_31 rfl ?_
      refine v_aload_n C 0 dX6_pivot_32 rfl ?_
      refine v_iload_n C 1 dX6_pivot_33 rfl ?_
      refine v_iload_n C 2 dX6_pivot_34 rfl ?_
      refine v_iload_n C 3 dX6_pivot_35 rfl ?_
      refine v_callV3v C 0 rfl rfl rfl (fun l9 r9 h9 => k_X6_ahead (l := l9) hq hNK  h9) gX6_pivot_X6_ahead rfl nI_X6_ahead ⟨rfl, rfl, Nat.le_of_ble_eq_true rfl, Nat.le_of_ble_eq_true rfl⟩ dX6_pivot_36 (Nat.le_of_ble_eq_true rfl) (fun r6 => ?_)
      refine v_callV1v C 0 rfl rfl rfl (fun l9 r9 h9 => k_X6_wins (l := l9) hq hNK  h9) gX6_pivot_X6_wins rfl nI_X6_wins ⟨rfl, rfl, Nat.le_of_ble_eq_true rfl, Nat.le_of_ble_eq_true rfl⟩ dX6_pivot_39 (Nat.le_of_ble_eq_true rfl) (fun r7 => ?_)
      refine v_jn0 (wj := ((mW q cs isK isB fed at_ ltr ab ps g kp nx fa tp rs rv ct it))) (pcj := 76) (lvj := ([(0, .ref (q 0)), (1, .int a1), (2, .int a2), (3, .int v4)])) (stj := ([])) ?_ (fun k8 hk8 => ?_)
      · refine v_iinc_nm C (lvf := fun x9 => [(3, .int x9), (0, .ref (q 0)), (1, .int a1), (2, .int a2)]) 3 dX6_pivot_76 rfl rfl (by decide) (fun _ => rfl) (fun x9 => ?_)
        refine v_goto C dX6_pivot_79 (tgt := 23) (by decide) ?_
        exact v_sub [1, 2, 3, 0] rfl (ih x9)
      · refine v_ifb_ne C (b := r7) dX6_pivot_42 (tgt := 76) (by decide) ?_ ?_
        · exact v_sub [0, 1, 2, 3] rfl (hk8)
        · refine v_aload_n C 0 dX6_pivot_45 rfl ?_
          refine v_aload_n C 0 dX6_pivot_46 rfl ?_
          refine v_iload_n C 1 dX6_pivot_47 rfl ?_
          refine v_iload_n C 2 dX6_pivot_48 rfl ?_
          refine v_iload_n C 3 dX6_pivot_49 rfl ?_
          refine v_iconst C dX6_pivot_50 (v := 1) (by decide) ?_
          refine v_iadd C dX6_pivot_51 ?_
          refine v_callV3v C 0 rfl rfl rfl (fun l9 r9 h9 => k_X6_ahead (l := l9) hq hNK  h9) gX6_pivot_X6_ahead rfl nI_X6_ahead ⟨rfl, rfl, Nat.le_of_ble_eq_true rfl, Nat.le_of_ble_eq_true rfl⟩ dX6_pivot_52 (Nat.le_of_ble_eq_true rfl) (fun r10 => ?_)
          refine v_callV1v C 0 rfl rfl rfl (fun l9 r9 h9 => k_X6_wins (l := l9) hq hNK  h9) gX6_pivot_X6_wins rfl nI_X6_wins ⟨rfl, rfl, Nat.le_of_ble_eq_true rfl, Nat.le_of_ble_eq_true rfl⟩ dX6_pivot_55 (Nat.le_of_ble_eq_true rfl) (fun r11 => ?_)
          refine v_ifb_eq C (b := r11) dX6_pivot_58 (tgt := 76) (by decide) ?_ ?_
          · exact v_sub [0, 1, 2, 3] rfl (hk8)
          · refine v_aload_n C 0 dX6_pivot_61 rfl ?_
            refine v_get C (T := TX6) (n := 16) (C9 := RX6) iX6 0 rfl rfl 15 (by decide) (List.mem_of_getElem? (i := 1) rfl) rfl rfl dX6_pivot_62 ?_
            refine v_bipush C dX6_pivot_65 (v := 20) (by decide) ?_
            refine v_iload_n C 1 dX6_pivot_67 rfl ?_
            refine v_imul C dX6_pivot_68 ?_
            refine v_iload_n C 2 dX6_pivot_69 rfl ?_
            refine v_iadd C dX6_pivot_70 ?_
            refine v_iload_n C 3 dX6_pivot_71 rfl ?_
            refine v_iadd C dX6_pivot_72 ?_
            refine v_lald C 9 1 rfl rfl dX6_pivot_73 ?_
            refine v_l2i C dX6_pivot_74 ?_
            exact v_iret (rvf := fun (res : Int32) => (some (.int res))) (wf := fun (res : Int32) => (mW q cs isK isB fed at_ ltr ab ps g kp nx fa tp rs rv ct it)) C dX6_pivot_75 rfl rfl

set_option maxRecDepth 100000 in
set_option maxHeartbeats 4000000 in
theorem k_X6_pivot {l : Launch} {a1 : Int32} {a2 : Int32}  {res : Int32} (hq : (mA q).Nodup) (hNK : NOK N)  (hf : f_X6_pivot g ct it a1 a2 = some res) : kMet l yX6_pivot wsX6_pivot { frames := 3, cells := 0, slots := 0, locals := 68 } D vwCl (mT cs) N (mA q) [.ref (q 0), .int a1, .int a2] (mW q cs isK isB fed at_ ltr ab ps g kp nx fa tp rs rv ct it) (some (.int res)) (mW q cs isK isB fed at_ ltr ab ps g kp nx fa tp rs rv ct it) := by
  refine kMet.of (cc := cX6_pivot) (nL := 4) (ret := (some .int)) (own := RX6) (lv := [(0, .ref (q 0)), (1, .int a1), (2, .int a2)]) (by decide +kernel) rfl rfl hNK hq (Nat.le_of_ble_eq_true rfl) rfl (fun X C => ?_)
  refine VF.of hf ?_
  unfold f_X6_pivot
  refine v_iload_n C 1 dX6_pivot_0 rfl ?_
  refine v_callSP1v C (fun l9 r9 h9 => k_X6_isRow (l := l9) h9) gX6_pivot_X6_isRow rfl nI_X6_isRow ⟨rfl, rfl, Nat.le_of_ble_eq_true rfl, Nat.le_of_ble_eq_true rfl⟩ dX6_pivot_1 (Nat.le_of_ble_eq_true rfl) (fun r1 => ?_)
  refine v_ifb_ne C (b := r1) dX6_pivot_4 (tgt := 9) (by decide) ?_ ?_
  · refine v_aload_n C 0 dX6_pivot_9 rfl ?_
    refine v_iload_n C 1 dX6_pivot_10 rfl ?_
    refine v_iload_n C 2 dX6_pivot_11 rfl ?_
    refine v_callV2v C 0 rfl rfl rfl (fun l9 r9 h9 => k_X6_isOrder (l := l9) hq hNK  h9) gX6_pivot_X6_isOrder rfl nI_X6_isOrder ⟨rfl, rfl, Nat.le_of_ble_eq_true rfl, Nat.le_of_ble_eq_true rfl⟩ dX6_pivot_12 (Nat.le_of_ble_eq_true rfl) (fun r2 => ?_)
    refine v_ifb_ne C (b := r2) dX6_pivot_15 (tgt := 21) (by decide) ?_ ?_
    · refine v_iconst C dX6_pivot_21 (v := 0) (by decide) ?_
      refine v_istore_n C (lv' := [(3, .int 0), (0, .ref (q 0)), (1, .int a1), (2, .int a2)]) dX6_pivot_22 rfl (by decide) rfl ?_
      refine v_sub [1, 2, 3, 0] rfl (lp_X6_pivot_1 hq hNK C   FU 0)
    · refine v_bipush C dX6_pivot_18 (v := (-3)) (by decide) ?_
      exact v_iret (rvf := fun (res : Int32) => (some (.int res))) (wf := fun (res : Int32) => (mW q cs isK isB fed at_ ltr ab ps g kp nx fa tp rs rv ct it)) C dX6_pivot_20 rfl rfl
  · refine v_iconst C dX6_pivot_7 (v := (-1)) (by decide) ?_
    exact v_iret (rvf := fun (res : Int32) => (some (.int res))) (wf := fun (res : Int32) => (mW q cs isK isB fed at_ ltr ab ps g kp nx fa tp rs rv ct it)) C dX6_pivot_8 rfl rfl

end WK
