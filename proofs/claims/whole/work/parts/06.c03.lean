section WK
variable {q : Nat → Nat} {cs : Nat → ClassId} {D : va_G} {N : (Nat → Prop) → State → Prop} {isK : Bool} {isB : Bool} {fed : Int32} {at_ : Int32} {ltr : Int32} {ab : Int64} {ps : Nat} {g : Nat → Int64} {kp : Nat → Int64} {nx : Nat → Int64} {fa : Nat → Int64} {tp : Nat → Int32} {rs : Nat → Int32} {rv : Nat → Int64} {ct : Nat → Int32} {it : Nat → Int64}
def B_X6_weighs_1 (g : Nat → Int64) (a1 : Int32) (rec1 : Int64 → Int32 → Option (Int64))  (v2 : Int64) (v3 : Int32) : Option (Int64) :=
(f_X6_n g).bind (fun (r4 : Int32) =>
if (v3 : Int32) < r4 then (
(f_X6_has a1 v3).bind (fun (r5 : Bool) =>
jn1 (fun (v7 : Int64) =>
nm (v2 + v7) (fun (x8 : Int64) =>
nm (v3 + 1) (fun (x9 : Int32) =>
rec1 x8 x9))) (fun k6 =>
if r5 = true then (
ck (inb (3 + v3) 2231) (
k6 (g (3 + v3).toNatClampNeg))) else (
k6 0)))) else (
some v2))
def L_X6_weighs_1 (g : Nat → Int64) (a1 : Int32)  : Nat → Int64 → Int32 → Option (Int64)
  | 0, _, _ => none
  | m9 + 1, v2, v3 => B_X6_weighs_1 g a1 (L_X6_weighs_1 g a1 m9)  v2 v3

def f_X6_weighs (g : Nat → Int64) (a1 : Int32) : Option (Int64) :=
L_X6_weighs_1 g a1  FU 0 0

theorem nI_X6_weighs : NameIn yX6_weighs 1 := ⟨by decide +kernel, by decide +kernel, by decide +kernel⟩
set_option maxRecDepth 100000 in
set_option maxHeartbeats 4000000 in
theorem lp_X6_weighs_1 {X : CX} {res : Int64} {a1 : Int32}   (hq : (mA q).Nodup) (hNK : NOK N) (C : Ok X cX6_weighs 5 (some .long) wsX6_weighs RX6 { frames := 1, cells := 0, slots := 0, locals := 21 } D vwCl (mT cs) (mA q) N (some (.long res)) (mW q cs isK isB fed at_ ltr ab ps g kp nx fa tp rs rv ct it))  : ∀ fuel : Nat, ∀ v2 : Int64, ∀ v3 : Int32, VF X res (L_X6_weighs_1 g a1 fuel v2 v3) (mW q cs isK isB fed at_ ltr ab ps g kp nx fa tp rs rv ct it) 5 [(0, .ref (q 0)), (1, .int a1), (2, .long v2), (4, .int v3)] [] := by
  have iX6 : ∀ w ∈ wsX60, w ∈ wsX6_weighs := fun _ h => List.mem_cons_of_mem _ (List.mem_append_right _ h)
  intro fuel
  induction fuel with
  | zero =>
    intro _ _
    exact v_none
  | succ fuel ih =>
    intro v2 v3
    show VF X res (B_X6_weighs_1 g a1 (L_X6_weighs_1 g a1 fuel)  v2 v3) _ _ _ _
    unfold B_X6_weighs_1
    refine v_iload C 3 dX6_weighs_5 rfl ?_
    refine v_aload_n C 0 dX6_weighs_7 rfl ?_
    refine v_callV0v C 0 rfl rfl rfl (fun l9 r9 h9 => k_X6_n (l := l9) hq hNK  h9) gX6_weighs_X6_n rfl nI_X6_n ⟨rfl, rfl, Nat.le_of_ble_eq_true rfl, Nat.le_of_ble_eq_true rfl⟩ dX6_weighs_8 (Nat.le_of_ble_eq_true rfl) (fun r4 => ?_)
    refine v_icmp_ge C dX6_weighs_11 (tgt := 45) (by decide) ?_ ?_
    · refine v_lload_n C 2 dX6_weighs_45 rfl ?_
      exact v_lret (rvf := fun (res : Int64) => (some (.long res))) (wf := fun (res : Int64) => (mW q cs isK isB fed at_ ltr ab ps g kp nx fa tp rs rv ct it)) C dX6_weighs_46 rfl rfl
    · refine v_lload_n C 2 dX6_weighs_14 rfl ?_
      refine v_iload_n C 1 dX6_weighs_15 rfl ?_
      refine v_iload C 3 dX6_weighs_16 rfl ?_
      refine v_callSP2v C (fun l9 r9 h9 => k_X6_has (l := l9) h9) gX6_weighs_X6_has rfl nI_X6_has ⟨rfl, rfl, Nat.le_of_ble_eq_true rfl, Nat.le_of_ble_eq_true rfl⟩ dX6_weighs_18 (Nat.le_of_ble_eq_true rfl) (fun r5 => ?_)
      refine v_jn1 (wj := (fun v7 => (mW q cs isK isB fed at_ ltr ab ps g kp nx fa tp rs rv ct it))) (pcj := 37) (lvj := (fun v7 => [(0, .ref (q 0)), (1, .int a1), (4, .int v3)])) (stj := (fun v7 => [.long v7, .long v2])) (fun v7 => ?_) (fun k6 hk6 => ?_)
      · refine v_ladd C dX6_weighs_37 ?_
        refine v_lstore_n_nm C (lvf := fun x8 => [(2, .long x8), (0, .ref (q 0)), (1, .int a1), (4, .int v3)]) dX6_weighs_38 rfl (by decide) (fun _ => rfl) (fun x8 => ?_)
        refine v_iinc_nm C (lvf := fun x9 => [(4, .int x9), (2, .long x8), (0, .ref (q 0)), (1, .int a1)]) 3 dX6_weighs_39 rfl rfl (by decide) (fun _ => rfl) (fun x9 => ?_)
        refine v_goto C dX6_weighs_42 (tgt := 5) (by decide) ?_
        exact v_sub [2, 3, 1, 0] rfl (ih x8 x9)
      · refine v_ifb_eq C (b := r5) dX6_weighs_21 (tgt := 36) (by decide) ?_ ?_
        · refine v_lconst C dX6_weighs_36 (v := 0) (by decide) ?_
          exact v_sub [0, 1, 3] rfl (hk6 0)
        · refine v_aload_n C 0 dX6_weighs_24 rfl ?_
          refine v_get C (T := TX6) (n := 16) (C9 := RX6) iX6 0 rfl rfl 0 (by decide) (List.mem_of_getElem? (i := 1) rfl) rfl rfl dX6_weighs_25 ?_
          refine v_iconst C dX6_weighs_28 (v := 3) (by decide) ?_
          refine v_iload C 3 dX6_weighs_29 rfl ?_
          refine v_iadd C dX6_weighs_31 ?_
          refine v_lald C 1 1 rfl rfl dX6_weighs_32 ?_
          refine v_goto C dX6_weighs_33 (tgt := 37) (by decide) ?_
          exact v_sub [0, 1, 3] rfl (hk6 (g (3 + v3).toNatClampNeg))

set_option maxRecDepth 100000 in
set_option maxHeartbeats 4000000 in
theorem k_X6_weighs {l : Launch} {a1 : Int32}  {res : Int64} (hq : (mA q).Nodup) (hNK : NOK N)  (hf : f_X6_weighs g a1 = some res) : kMet l yX6_weighs wsX6_weighs { frames := 1, cells := 0, slots := 0, locals := 21 } D vwCl (mT cs) N (mA q) [.ref (q 0), .int a1] (mW q cs isK isB fed at_ ltr ab ps g kp nx fa tp rs rv ct it) (some (.long res)) (mW q cs isK isB fed at_ ltr ab ps g kp nx fa tp rs rv ct it) := by
  refine kMet.of (cc := cX6_weighs) (nL := 5) (ret := (some .long)) (own := RX6) (lv := [(0, .ref (q 0)), (1, .int a1)]) (by decide +kernel) rfl rfl hNK hq (Nat.le_of_ble_eq_true rfl) rfl (fun X C => ?_)
  refine VF.of hf ?_
  unfold f_X6_weighs
  refine v_lconst C dX6_weighs_0 (v := 0) (by decide) ?_
  refine v_lstore_n C (lv' := [(2, .long 0), (0, .ref (q 0)), (1, .int a1)]) dX6_weighs_1 rfl (by decide) rfl ?_
  refine v_iconst C dX6_weighs_2 (v := 0) (by decide) ?_
  refine v_istore C (lv' := [(4, .int 0), (2, .long 0), (0, .ref (q 0)), (1, .int a1)]) dX6_weighs_3 (by decide) rfl ?_
  refine v_sub [2, 3, 1, 0] rfl (lp_X6_weighs_1 hq hNK C   FU 0 0)

def f_X6_wins (g : Nat → Int64) (a1 : Int32) : Option (Bool) :=
(f_X6_weighs g a1).bind (fun (r1 : Int64) =>
ck (inb (1 : Int32) 2231) (
if (r1 : Int64) < (g (1 : Int32).toNatClampNeg) then (
some false) else (
some true)))

theorem nI_X6_wins : NameIn yX6_wins 1 := ⟨by decide +kernel, by decide +kernel, by decide +kernel⟩
set_option maxRecDepth 100000 in
set_option maxHeartbeats 4000000 in
theorem k_X6_wins {l : Launch} {a1 : Int32}  {res : Bool} (hq : (mA q).Nodup) (hNK : NOK N)  (hf : f_X6_wins g a1 = some res) : kMet l yX6_wins wsX6_wins { frames := 2, cells := 0, slots := 0, locals := 45 } D vwCl (mT cs) N (mA q) [.ref (q 0), .int a1] (mW q cs isK isB fed at_ ltr ab ps g kp nx fa tp rs rv ct it) (some (.int (bI res))) (mW q cs isK isB fed at_ ltr ab ps g kp nx fa tp rs rv ct it) := by
  have iX6 : ∀ w ∈ wsX60, w ∈ wsX6_wins := fun _ h => List.mem_cons_of_mem _ (List.mem_append_right _ h)
  refine kMet.of (cc := cX6_wins) (nL := 2) (ret := (some .boolean)) (own := RX6) (lv := [(0, .ref (q 0)), (1, .int a1)]) (by decide +kernel) rfl rfl hNK hq (Nat.le_of_ble_eq_true rfl) rfl (fun X C => ?_)
  refine VF.of hf ?_
  unfold f_X6_wins
  refine v_aload_n C 0 dX6_wins_0 rfl ?_
  refine v_iload_n C 1 dX6_wins_1 rfl ?_
  refine v_callV1v C 0 rfl rfl rfl (fun l9 r9 h9 => k_X6_weighs (l := l9) hq hNK  h9) gX6_wins_X6_weighs rfl nI_X6_weighs ⟨rfl, rfl, Nat.le_of_ble_eq_true rfl, Nat.le_of_ble_eq_true rfl⟩ dX6_wins_2 (Nat.le_of_ble_eq_true rfl) (fun r1 => ?_)
  refine v_aload_n C 0 dX6_wins_5 rfl ?_
  refine v_get C (T := TX6) (n := 16) (C9 := RX6) iX6 0 rfl rfl 0 (by decide) (List.mem_of_getElem? (i := 1) rfl) rfl rfl dX6_wins_6 ?_
  refine v_iconst C dX6_wins_9 (v := 1) (by decide) ?_
  refine v_lald C 1 1 rfl rfl dX6_wins_10 ?_
  refine v_lcmp_lt C dX6_wins_11 dX6_wins_12 (tgt := 19) (by decide) ?_ ?_
  · refine v_iconst C dX6_wins_19 (v := 0) (by decide) ?_
    exact v_zret (rvf := fun (res : Bool) => (some (.int (bI res)))) (wf := fun (res : Bool) => (mW q cs isK isB fed at_ ltr ab ps g kp nx fa tp rs rv ct it)) C dX6_wins_20 rfl rfl
  · refine v_iconst C dX6_wins_15 (v := 1) (by decide) ?_
    refine v_goto C dX6_wins_16 (tgt := 20) (by decide) ?_
    exact v_zret (rvf := fun (res : Bool) => (some (.int (bI res)))) (wf := fun (res : Bool) => (mW q cs isK isB fed at_ ltr ab ps g kp nx fa tp rs rv ct it)) C dX6_wins_20 rfl rfl

def B_X6_edgesIn_2 (g : Nat → Int64) (a1 : Int32) (v3 : Int32) (rec6 : Int64 → Int32 → Option (Int64)) (kx7 : Int64 → Option (Int64)) (v8 : Int64) (v9 : Int32) : Option (Int64) :=
(f_X6_n g).bind (fun (r10 : Int32) =>
if (v9 : Int32) < r10 then (
(f_X6_has a1 v3).bind (fun (r11 : Bool) =>
jn1 (fun (v13 : Int64) =>
nm (v9 + 1) (fun (x14 : Int32) =>
rec6 v13 x14)) (fun k12 =>
if r11 = true then (
(f_X6_has a1 v9).bind (fun (r15 : Bool) =>
if r15 = true then (
(f_X6_edgeOf v3 v9).bind (fun (r16 : Int32) =>
ck (inb (21 + r16) 2231) (
if (g (21 + r16).toNatClampNeg : Int64) = 1 then (
(f_X6_edgeOf v3 v9).bind (fun (r17 : Int32) =>
ck (inb (102 + r17) 2231) (
nm (v8 + (g (102 + r17).toNatClampNeg)) (fun (x18 : Int64) =>
k12 x18)))) else (
k12 v8)))) else (
k12 v8))) else (
k12 v8)))) else (
kx7 v8))
def L_X6_edgesIn_2 (g : Nat → Int64) (a1 : Int32) (v3 : Int32) (kx7 : Int64 → Option (Int64)) : Nat → Int64 → Int32 → Option (Int64)
  | 0, _, _ => none
  | m9 + 1, v8, v9 => B_X6_edgesIn_2 g a1 v3 (L_X6_edgesIn_2 g a1 v3 kx7 m9) kx7 v8 v9

def B_X6_edgesIn_1 (g : Nat → Int64) (a1 : Int32) (rec1 : Int64 → Int32 → Option (Int64))  (v2 : Int64) (v3 : Int32) : Option (Int64) :=
(f_X6_n g).bind (fun (r4 : Int32) =>
if (v3 : Int32) < r4 then (
nm (v3 + 1) (fun (x5 : Int32) =>
L_X6_edgesIn_2 g a1 v3 (fun (v19 : Int64) =>
nm (v3 + 1) (fun (x20 : Int32) =>
rec1 v19 x20)) FU v2 x5)) else (
some v2))
def L_X6_edgesIn_1 (g : Nat → Int64) (a1 : Int32)  : Nat → Int64 → Int32 → Option (Int64)
  | 0, _, _ => none
  | m9 + 1, v2, v3 => B_X6_edgesIn_1 g a1 (L_X6_edgesIn_1 g a1 m9)  v2 v3

def f_X6_edgesIn (g : Nat → Int64) (a1 : Int32) : Option (Int64) :=
L_X6_edgesIn_1 g a1  FU 0 0

theorem nI_X6_edgesIn : NameIn yX6_edgesIn 1 := ⟨by decide +kernel, by decide +kernel, by decide +kernel⟩
set_option maxRecDepth 100000 in
set_option maxHeartbeats 4000000 in
theorem lp_X6_edgesIn_2 {X : CX} {res : Int64} {a1 : Int32}  {v3 : Int32} (hq : (mA q).Nodup) (hNK : NOK N) (C : Ok X cX6_edgesIn 6 (some .long) wsX6_edgesIn RX6 { frames := 2, cells := 0, slots := 0, locals := 44 } D vwCl (mT cs) (mA q) N (some (.long res)) (mW q cs isK isB fed at_ ltr ab ps g kp nx fa tp rs rv ct it))  (kx7 : Int64 → Option (Int64)) (Jkx7 : ∀ y2 : Int64, VF X res (kx7 y2) (mW q cs isK isB fed at_ ltr ab ps g kp nx fa tp rs rv ct it) 91 [(0, .ref (q 0)), (1, .int a1), (2, .long y2), (4, .int v3)] []) : ∀ fuel : Nat, ∀ v8 : Int64, ∀ v9 : Int32, VF X res (L_X6_edgesIn_2 g a1 v3 kx7 fuel v8 v9) (mW q cs isK isB fed at_ ltr ab ps g kp nx fa tp rs rv ct it) 20 [(0, .ref (q 0)), (1, .int a1), (2, .long v8), (4, .int v3), (5, .int v9)] [] := by
  have iX6 : ∀ w ∈ wsX60, w ∈ wsX6_edgesIn := fun _ h => List.mem_cons_of_mem _ (List.mem_append_right _ h)
  intro fuel
  induction fuel with
  | zero =>
    intro _ _
    exact v_none
  | succ fuel ih =>
    intro v8 v9
    show VF X res (B_X6_edgesIn_2 g a1 v3 (L_X6_edgesIn_2 g a1 v3 kx7 fuel) kx7 v8 v9) _ _ _ _
    unfold B_X6_edgesIn_2
    refine v_iload C 4 dX6_edgesIn_20 rfl ?_
    refine v_aload_n C 0 dX6_edgesIn_22 rfl ?_
    refine v_callV0v C 0 rfl rfl rfl (fun l9 r9 h9 => k_X6_n (l := l9) hq hNK  h9) gX6_edgesIn_X6_n rfl nI_X6_n ⟨rfl, rfl, Nat.le_of_ble_eq_true rfl, Nat.le_of_ble_eq_true rfl⟩ dX6_edgesIn_23 (Nat.le_of_ble_eq_true rfl) (fun r10 => ?_)
    refine v_icmp_ge C dX6_edgesIn_26 (tgt := 91) (by decide) ?_ ?_
    · exact v_sub [0, 1, 2, 3] rfl (Jkx7 v8)
    · refine v_iload_n C 1 dX6_edgesIn_29 rfl ?_
      refine v_iload C 3 dX6_edgesIn_30 rfl ?_
      refine v_callSP2v C (fun l9 r9 h9 => k_X6_has (l := l9) h9) gX6_edgesIn_X6_has rfl nI_X6_has ⟨rfl, rfl, Nat.le_of_ble_eq_true rfl, Nat.le_of_ble_eq_true rfl⟩ dX6_edgesIn_32 (Nat.le_of_ble_eq_true rfl) (fun r11 => ?_)
      refine v_jn1 (wj := (fun v13 => (mW q cs isK isB fed at_ ltr ab ps g kp nx fa tp rs rv ct it))) (pcj := 85) (lvj := (fun v13 => [(0, .ref (q 0)), (1, .int a1), (2, .long v13), (4, .int v3), (5, .int v9)])) (stj := (fun v13 => [])) (fun v13 => ?_) (fun k12 hk12 => ?_)
      · refine v_iinc_nm C (lvf := fun x14 => [(5, .int x14), (0, .ref (q 0)), (1, .int a1), (2, .long v13), (4, .int v3)]) 4 dX6_edgesIn_85 rfl rfl (by decide) (fun _ => rfl) (fun x14 => ?_)
        refine v_goto C dX6_edgesIn_88 (tgt := 20) (by decide) ?_
        exact v_sub [1, 2, 3, 4, 0] rfl (ih v13 x14)
      · refine v_ifb_eq C (b := r11) dX6_edgesIn_35 (tgt := 85) (by decide) ?_ ?_
        · exact v_sub [0, 1, 2, 3, 4] rfl (hk12 v8)
        · refine v_iload_n C 1 dX6_edgesIn_38 rfl ?_
          refine v_iload C 4 dX6_edgesIn_39 rfl ?_
          refine v_callSP2v C (fun l9 r9 h9 => k_X6_has (l := l9) h9) gX6_edgesIn_X6_has rfl nI_X6_has ⟨rfl, rfl, Nat.le_of_ble_eq_true rfl, Nat.le_of_ble_eq_true rfl⟩ dX6_edgesIn_41 (Nat.le_of_ble_eq_true rfl) (fun r15 => ?_)
          refine v_ifb_eq C (b := r15) dX6_edgesIn_44 (tgt := 85) (by decide) ?_ ?_
          · exact v_sub [0, 1, 2, 3, 4] rfl (hk12 v8)
          · refine v_aload_n C 0 dX6_edgesIn_47 rfl ?_
            refine v_get C (T := TX6) (n := 16) (C9 := RX6) iX6 0 rfl rfl 0 (by decide) (List.mem_of_getElem? (i := 1) rfl) rfl rfl dX6_edgesIn_48 ?_
            refine v_bipush C dX6_edgesIn_51 (v := 21) (by decide) ?_
            refine v_iload C 3 dX6_edgesIn_53 rfl ?_
            refine v_iload C 4 dX6_edgesIn_55 rfl ?_
            refine v_callSP2v C (fun l9 r9 h9 => k_X6_edgeOf (l := l9) h9) gX6_edgesIn_X6_edgeOf rfl nI_X6_edgeOf ⟨rfl, rfl, Nat.le_of_ble_eq_true rfl, Nat.le_of_ble_eq_true rfl⟩ dX6_edgesIn_57 (Nat.le_of_ble_eq_true rfl) (fun r16 => ?_)
            refine v_iadd C dX6_edgesIn_60 ?_
            refine v_lald C 1 1 rfl rfl dX6_edgesIn_61 ?_
            refine v_lconst C dX6_edgesIn_62 (v := 1) (by decide) ?_
            refine v_lcmp_ne C dX6_edgesIn_63 dX6_edgesIn_64 (tgt := 85) (by decide) ?_ ?_
            · exact v_sub [0, 1, 2, 3, 4] rfl (hk12 v8)
            · refine v_lload_n C 2 dX6_edgesIn_67 rfl ?_
              refine v_aload_n C 0 dX6_edgesIn_68 rfl ?_
              refine v_get C (T := TX6) (n := 16) (C9 := RX6) iX6 0 rfl rfl 0 (by decide) (List.mem_of_getElem? (i := 1) rfl) rfl rfl dX6_edgesIn_69 ?_
              refine v_bipush C dX6_edgesIn_72 (v := 102) (by decide) ?_
              refine v_iload C 3 dX6_edgesIn_74 rfl ?_
              refine v_iload C 4 dX6_edgesIn_76 rfl ?_
              refine v_callSP2v C (fun l9 r9 h9 => k_X6_edgeOf (l := l9) h9) gX6_edgesIn_X6_edgeOf rfl nI_X6_edgeOf ⟨rfl, rfl, Nat.le_of_ble_eq_true rfl, Nat.le_of_ble_eq_true rfl⟩ dX6_edgesIn_78 (Nat.le_of_ble_eq_true rfl) (fun r17 => ?_)
              refine v_iadd C dX6_edgesIn_81 ?_
              refine v_lald C 1 1 rfl rfl dX6_edgesIn_82 ?_
              refine v_ladd C dX6_edgesIn_83 ?_
              refine v_lstore_n_nm C (lvf := fun x18 => [(2, .long x18), (0, .ref (q 0)), (1, .int a1), (4, .int v3), (5, .int v9)]) dX6_edgesIn_84 rfl (by decide) (fun _ => rfl) (fun x18 => ?_)
              exact v_sub [1, 2, 0, 3, 4] rfl (hk12 x18)

set_option maxRecDepth 100000 in
set_option maxHeartbeats 4000000 in
theorem lp_X6_edgesIn_1 {X : CX} {res : Int64} {a1 : Int32}   (hq : (mA q).Nodup) (hNK : NOK N) (C : Ok X cX6_edgesIn 6 (some .long) wsX6_edgesIn RX6 { frames := 2, cells := 0, slots := 0, locals := 44 } D vwCl (mT cs) (mA q) N (some (.long res)) (mW q cs isK isB fed at_ ltr ab ps g kp nx fa tp rs rv ct it))  : ∀ fuel : Nat, ∀ v2 : Int64, ∀ v3 : Int32, VF X res (L_X6_edgesIn_1 g a1 fuel v2 v3) (mW q cs isK isB fed at_ ltr ab ps g kp nx fa tp rs rv ct it) 5 [(0, .ref (q 0)), (1, .int a1), (2, .long v2), (4, .int v3)] [] := by
  intro fuel
  induction fuel with
  | zero =>
    intro _ _
    exact v_none
  | succ fuel ih =>
    intro v2 v3
    show VF X res (B_X6_edgesIn_1 g a1 (L_X6_edgesIn_1 g a1 fuel)  v2 v3) _ _ _ _
    unfold B_X6_edgesIn_1
    refine v_iload C 3 dX6_edgesIn_5 rfl ?_
    refine v_aload_n C 0 dX6_edgesIn_7 rfl ?_
    refine v_callV0v C 0 rfl rfl rfl (fun l9 r9 h9 => k_X6_n (l := l9) hq hNK  h9) gX6_edgesIn_X6_n rfl nI_X6_n ⟨rfl, rfl, Nat.le_of_ble_eq_true rfl, Nat.le_of_ble_eq_true rfl⟩ dX6_edgesIn_8 (Nat.le_of_ble_eq_true rfl) (fun r4 => ?_)
    refine v_icmp_ge C dX6_edgesIn_11 (tgt := 97) (by decide) ?_ ?_
    · refine v_lload_n C 2 dX6_edgesIn_97 rfl ?_
      exact v_lret (rvf := fun (res : Int64) => (some (.long res))) (wf := fun (res : Int64) => (mW q cs isK isB fed at_ ltr ab ps g kp nx fa tp rs rv ct it)) C dX6_edgesIn_98 rfl rfl
    · refine v_iload C 3 dX6_edgesIn_14 rfl ?_
      refine v_iconst C dX6_edgesIn_16 (v := 1) (by decide) ?_
      refine v_iadd C dX6_edgesIn_17 ?_
      refine v_istore_nm C (lvf := fun x5 => [(5, .int x5), (0, .ref (q 0)), (1, .int a1), (2, .long v2), (4, .int v3)]) dX6_edgesIn_18 (by decide) (fun _ => rfl) (fun x5 => ?_)
      refine v_sub [1, 2, 3, 4, 0] rfl (lp_X6_edgesIn_2 hq hNK C  _ (fun v19 => ?_) FU v2 x5)
      refine v_iinc_nm C (lvf := fun x20 => [(4, .int x20), (0, .ref (q 0)), (1, .int a1), (2, .long v19)]) 3 dX6_edgesIn_91 rfl rfl (by decide) (fun _ => rfl) (fun x20 => ?_)
      refine v_goto C dX6_edgesIn_94 (tgt := 5) (by decide) ?_
      exact v_sub [1, 2, 3, 0] rfl (ih v19 x20)

set_option maxRecDepth 100000 in
set_option maxHeartbeats 4000000 in
theorem k_X6_edgesIn {l : Launch} {a1 : Int32}  {res : Int64} (hq : (mA q).Nodup) (hNK : NOK N)  (hf : f_X6_edgesIn g a1 = some res) : kMet l yX6_edgesIn wsX6_edgesIn { frames := 2, cells := 0, slots := 0, locals := 44 } D vwCl (mT cs) N (mA q) [.ref (q 0), .int a1] (mW q cs isK isB fed at_ ltr ab ps g kp nx fa tp rs rv ct it) (some (.long res)) (mW q cs isK isB fed at_ ltr ab ps g kp nx fa tp rs rv ct it) := by
  refine kMet.of (cc := cX6_edgesIn) (nL := 6) (ret := (some .long)) (own := RX6) (lv := [(0, .ref (q 0)), (1, .int a1)]) (by decide +kernel) rfl rfl hNK hq (Nat.le_of_ble_eq_true rfl) rfl (fun X C => ?_)
  refine VF.of hf ?_
  unfold f_X6_edgesIn
  refine v_lconst C dX6_edgesIn_0 (v := 0) (by decide) ?_
  refine v_lstore_n C (lv' := [(2, .long 0), (0, .ref (q 0)), (1, .int a1)]) dX6_edgesIn_1 rfl (by decide) rfl ?_
  refine v_iconst C dX6_edgesIn_2 (v := 0) (by decide) ?_
  refine v_istore C (lv' := [(4, .int 0), (2, .long 0), (0, .ref (q 0)), (1, .int a1)]) dX6_edgesIn_3 (by decide) rfl ?_
  refine v_sub [2, 3, 1, 0] rfl (lp_X6_edgesIn_1 hq hNK C   FU 0 0)

def B_X6_heaviest_1 (g : Nat → Int64) (a1 : Int32) (rec1 : Int64 → Int32 → Option (Int64))  (v2 : Int64) (v3 : Int32) : Option (Int64) :=
(f_X6_n g).bind (fun (r4 : Int32) =>
if (v3 : Int32) < r4 then (
(f_X6_has a1 v3).bind (fun (r5 : Bool) =>
jn1 (fun (v7 : Int64) =>
nm (v3 + 1) (fun (x8 : Int32) =>
rec1 v7 x8)) (fun k6 =>
if r5 = true then (
ck (inb (3 + v3) 2231) (
nm (lMax v2 (g (3 + v3).toNatClampNeg)) (fun (x9 : Int64) =>
k6 x9))) else (
k6 v2)))) else (
some v2))
def L_X6_heaviest_1 (g : Nat → Int64) (a1 : Int32)  : Nat → Int64 → Int32 → Option (Int64)
  | 0, _, _ => none
  | m9 + 1, v2, v3 => B_X6_heaviest_1 g a1 (L_X6_heaviest_1 g a1 m9)  v2 v3

def f_X6_heaviest (g : Nat → Int64) (a1 : Int32) : Option (Int64) :=
L_X6_heaviest_1 g a1  FU 0 0

theorem nI_X6_heaviest : NameIn yX6_heaviest 1 := ⟨by decide +kernel, by decide +kernel, by decide +kernel⟩
set_option maxRecDepth 100000 in
set_option maxHeartbeats 4000000 in
theorem lp_X6_heaviest_1 {X : CX} {res : Int64} {a1 : Int32}   (hq : (mA q).Nodup) (hNK : NOK N) (C : Ok X cX6_heaviest 5 (some .long) wsX6_heaviest RX6 { frames := 1, cells := 0, slots := 0, locals := 23 } D vwCl (mT cs) (mA q) N (some (.long res)) (mW q cs isK isB fed at_ ltr ab ps g kp nx fa tp rs rv ct it))  : ∀ fuel : Nat, ∀ v2 : Int64, ∀ v3 : Int32, VF X res (L_X6_heaviest_1 g a1 fuel v2 v3) (mW q cs isK isB fed at_ ltr ab ps g kp nx fa tp rs rv ct it) 5 [(0, .ref (q 0)), (1, .int a1), (2, .long v2), (4, .int v3)] [] := by
  have iX6 : ∀ w ∈ wsX60, w ∈ wsX6_heaviest := fun _ h => List.mem_cons_of_mem _ (List.mem_append_right _ h)
  intro fuel
  induction fuel with
  | zero =>
    intro _ _
    exact v_none
  | succ fuel ih =>
    intro v2 v3
    show VF X res (B_X6_heaviest_1 g a1 (L_X6_heaviest_1 g a1 fuel)  v2 v3) _ _ _ _
    unfold B_X6_heaviest_1
    refine v_iload C 3 dX6_heaviest_5 rfl ?_
    refine v_aload_n C 0 dX6_heaviest_7 rfl ?_
    refine v_callV0v C 0 rfl rfl rfl (fun l9 r9 h9 => k_X6_n (l := l9) hq hNK  h9) gX6_heaviest_X6_n rfl nI_X6_n ⟨rfl, rfl, Nat.le_of_ble_eq_true rfl, Nat.le_of_ble_eq_true rfl⟩ dX6_heaviest_8 (Nat.le_of_ble_eq_true rfl) (fun r4 => ?_)
    refine v_icmp_ge C dX6_heaviest_11 (tgt := 43) (by decide) ?_ ?_
    · refine v_lload_n C 2 dX6_heaviest_43 rfl ?_
      exact v_lret (rvf := fun (res : Int64) => (some (.long res))) (wf := fun (res : Int64) => (mW q cs isK isB fed at_ ltr ab ps g kp nx fa tp rs rv ct it)) C dX6_heaviest_44 rfl rfl
    · refine v_iload_n C 1 dX6_heaviest_14 rfl ?_
      refine v_iload C 3 dX6_heaviest_15 rfl ?_
      refine v_callSP2v C (fun l9 r9 h9 => k_X6_has (l := l9) h9) gX6_heaviest_X6_has rfl nI_X6_has ⟨rfl, rfl, Nat.le_of_ble_eq_true rfl, Nat.le_of_ble_eq_true rfl⟩ dX6_heaviest_17 (Nat.le_of_ble_eq_true rfl) (fun r5 => ?_)
      refine v_jn1 (wj := (fun v7 => (mW q cs isK isB fed at_ ltr ab ps g kp nx fa tp rs rv ct it))) (pcj := 37) (lvj := (fun v7 => [(0, .ref (q 0)), (1, .int a1), (2, .long v7), (4, .int v3)])) (stj := (fun v7 => [])) (fun v7 => ?_) (fun k6 hk6 => ?_)
      · refine v_iinc_nm C (lvf := fun x8 => [(4, .int x8), (0, .ref (q 0)), (1, .int a1), (2, .long v7)]) 3 dX6_heaviest_37 rfl rfl (by decide) (fun _ => rfl) (fun x8 => ?_)
        refine v_goto C dX6_heaviest_40 (tgt := 5) (by decide) ?_
        exact v_sub [1, 2, 3, 0] rfl (ih v7 x8)
      · refine v_ifb_eq C (b := r5) dX6_heaviest_20 (tgt := 37) (by decide) ?_ ?_
        · exact v_sub [0, 1, 2, 3] rfl (hk6 v2)
        · refine v_lload_n C 2 dX6_heaviest_23 rfl ?_
          refine v_aload_n C 0 dX6_heaviest_24 rfl ?_
          refine v_get C (T := TX6) (n := 16) (C9 := RX6) iX6 0 rfl rfl 0 (by decide) (List.mem_of_getElem? (i := 1) rfl) rfl rfl dX6_heaviest_25 ?_
          refine v_iconst C dX6_heaviest_28 (v := 3) (by decide) ?_
          refine v_iload C 3 dX6_heaviest_29 rfl ?_
          refine v_iadd C dX6_heaviest_31 ?_
          refine v_lald C 1 1 rfl rfl dX6_heaviest_32 ?_
          refine v_mmaxl C (List.mem_of_getElem? (i := 2) rfl) (List.mem_of_getElem? (i := 3) rfl) (List.mem_of_getElem? (i := 4) rfl) (List.mem_of_getElem? (i := 5) rfl) (Nat.le_of_ble_eq_true rfl) (Nat.le_of_ble_eq_true rfl) dX6_heaviest_33 ?_
          refine v_lstore_n_nm C (lvf := fun x9 => [(2, .long x9), (0, .ref (q 0)), (1, .int a1), (4, .int v3)]) dX6_heaviest_36 rfl (by decide) (fun _ => rfl) (fun x9 => ?_)
          exact v_sub [1, 2, 0, 3] rfl (hk6 x9)

set_option maxRecDepth 100000 in
set_option maxHeartbeats 4000000 in
theorem k_X6_heaviest {l : Launch} {a1 : Int32}  {res : Int64} (hq : (mA q).Nodup) (hNK : NOK N)  (hf : f_X6_heaviest g a1 = some res) : kMet l yX6_heaviest wsX6_heaviest { frames := 1, cells := 0, slots := 0, locals := 23 } D vwCl (mT cs) N (mA q) [.ref (q 0), .int a1] (mW q cs isK isB fed at_ ltr ab ps g kp nx fa tp rs rv ct it) (some (.long res)) (mW q cs isK isB fed at_ ltr ab ps g kp nx fa tp rs rv ct it) := by
  refine kMet.of (cc := cX6_heaviest) (nL := 5) (ret := (some .long)) (own := RX6) (lv := [(0, .ref (q 0)), (1, .int a1)]) (by decide +kernel) rfl rfl hNK hq (Nat.le_of_ble_eq_true rfl) rfl (fun X C => ?_)
  refine VF.of hf ?_
  unfold f_X6_heaviest
  refine v_lconst C dX6_heaviest_0 (v := 0) (by decide) ?_
  refine v_lstore_n C (lv' := [(2, .long 0), (0, .ref (q 0)), (1, .int a1)]) dX6_heaviest_1 rfl (by decide) rfl ?_
  refine v_iconst C dX6_heaviest_2 (v := 0) (by decide) ?_
  refine v_istore C (lv' := [(4, .int 0), (2, .long 0), (0, .ref (q 0)), (1, .int a1)]) dX6_heaviest_3 (by decide) rfl ?_
  refine v_sub [2, 3, 1, 0] rfl (lp_X6_heaviest_1 hq hNK C   FU 0 0)

def f_X6_madeOf (g : Nat → Int64) (a1 : Int32) (a2 : Int32) : Option (Int64) :=
if (a2 : Int32) = 0 then (
some 0) else (
if (a1 : Int32) = 0 then (
(f_X6_wins g a2).bind (fun (r1 : Bool) =>
if r1 = true then (
some 1) else (
some 0))) else (
if (a1 : Int32) = 1 then (
(f_X6_weighs g a2).bind (fun (r2 : Int64) =>
some r2)) else (
if (a1 : Int32) = 2 then (
(f_X6_edgesIn g a2).bind (fun (r3 : Int64) =>
some r3)) else (
if (a1 : Int32) = 3 then (
(f_X6_heaviest g a2).bind (fun (r4 : Int64) =>
some r4)) else (
ck (inb (2 : Int32) 2231) (
(f_X6_all g).bind (fun (r5 : Int32) =>
(f_X6_weighs g (r5 &&& (a2 ^^^ (-1)))).bind (fun (r6 : Int64) =>
some (lMax 0 ((g (2 : Int32).toNatClampNeg) - r6))))))))))

theorem nI_X6_madeOf : NameIn yX6_madeOf 2 := ⟨by decide +kernel, by decide +kernel, by decide +kernel⟩
set_option maxRecDepth 100000 in
set_option maxHeartbeats 4000000 in
theorem k_X6_madeOf {l : Launch} {a1 : Int32} {a2 : Int32}  {res : Int64} (hq : (mA q).Nodup) (hNK : NOK N)  (hf : f_X6_madeOf g a1 a2 = some res) : kMet l yX6_madeOf wsX6_madeOf { frames := 3, cells := 0, slots := 0, locals := 69 } D vwCl (mT cs) N (mA q) [.ref (q 0), .int a1, .int a2] (mW q cs isK isB fed at_ ltr ab ps g kp nx fa tp rs rv ct it) (some (.long res)) (mW q cs isK isB fed at_ ltr ab ps g kp nx fa tp rs rv ct it) := by
  have iX6 : ∀ w ∈ wsX60, w ∈ wsX6_madeOf := fun _ h => List.mem_cons_of_mem _ (List.mem_append_right _ h)
  refine kMet.of (cc := cX6_madeOf) (nL := 3) (ret := (some .long)) (own := RX6) (lv := [(0, .ref (q 0)), (1, .int a1), (2, .int a2)]) (by decide +kernel) rfl rfl hNK hq (Nat.le_of_ble_eq_true rfl) rfl (fun X C => ?_)
  refine VF.of hf ?_
  unfold f_X6_madeOf
  refine v_iload_n C 2 dX6_madeOf_0 rfl ?_
  refine v_if_ne C dX6_madeOf_1 (tgt := 6) (by decide) ?_ ?_
  · refine v_iload_n C 1 dX6_madeOf_6 rfl ?_
    refine v_split (fun h0 => ?_) (fun h0 => ?_)
    · refine v_tin C dX6_madeOf_7 (tgt := 36) (off := 29) (by rw [h0]; decide) (by rw [h0]; decide) (by rw [h0]; rfl) (by decide) ?_
      refine v_aload_n C 0 dX6_madeOf_36 rfl ?_
      refine v_iload_n C 2 dX6_madeOf_37 rfl ?_
      refine v_callV1v C 0 rfl rfl rfl (fun l9 r9 h9 => k_X6_wins (l := l9) hq hNK  h9) gX6_madeOf_X6_wins rfl nI_X6_wins ⟨rfl, rfl, Nat.le_of_ble_eq_true rfl, Nat.le_of_ble_eq_true rfl⟩ dX6_madeOf_38 (Nat.le_of_ble_eq_true rfl) (fun r1 => ?_)
      refine v_ifb_eq C (b := r1) dX6_madeOf_41 (tgt := 48) (by decide) ?_ ?_
      · refine v_lconst C dX6_madeOf_48 (v := 0) (by decide) ?_
        exact v_lret (rvf := fun (res : Int64) => (some (.long res))) (wf := fun (res : Int64) => (mW q cs isK isB fed at_ ltr ab ps g kp nx fa tp rs rv ct it)) C dX6_madeOf_49 rfl rfl
      · refine v_lconst C dX6_madeOf_44 (v := 1) (by decide) ?_
        refine v_goto C dX6_madeOf_45 (tgt := 49) (by decide) ?_
        exact v_lret (rvf := fun (res : Int64) => (some (.long res))) (wf := fun (res : Int64) => (mW q cs isK isB fed at_ ltr ab ps g kp nx fa tp rs rv ct it)) C dX6_madeOf_49 rfl rfl
    · refine v_split (fun h1 => ?_) (fun h1 => ?_)
      · refine v_tin C dX6_madeOf_7 (tgt := 50) (off := 43) (by rw [h1]; decide) (by rw [h1]; decide) (by rw [h1]; rfl) (by decide) ?_
        refine v_aload_n C 0 dX6_madeOf_50 rfl ?_
        refine v_iload_n C 2 dX6_madeOf_51 rfl ?_
        refine v_callV1v C 0 rfl rfl rfl (fun l9 r9 h9 => k_X6_weighs (l := l9) hq hNK  h9) gX6_madeOf_X6_weighs rfl nI_X6_weighs ⟨rfl, rfl, Nat.le_of_ble_eq_true rfl, Nat.le_of_ble_eq_true rfl⟩ dX6_madeOf_52 (Nat.le_of_ble_eq_true rfl) (fun r2 => ?_)
        exact v_lret (rvf := fun (res : Int64) => (some (.long res))) (wf := fun (res : Int64) => (mW q cs isK isB fed at_ ltr ab ps g kp nx fa tp rs rv ct it)) C dX6_madeOf_55 rfl rfl
      · refine v_split (fun h2 => ?_) (fun h2 => ?_)
        · refine v_tin C dX6_madeOf_7 (tgt := 56) (off := 49) (by rw [h2]; decide) (by rw [h2]; decide) (by rw [h2]; rfl) (by decide) ?_
          refine v_aload_n C 0 dX6_madeOf_56 rfl ?_
          refine v_iload_n C 2 dX6_madeOf_57 rfl ?_
          refine v_callV1v C 0 rfl rfl rfl (fun l9 r9 h9 => k_X6_edgesIn (l := l9) hq hNK  h9) gX6_madeOf_X6_edgesIn rfl nI_X6_edgesIn ⟨rfl, rfl, Nat.le_of_ble_eq_true rfl, Nat.le_of_ble_eq_true rfl⟩ dX6_madeOf_58 (Nat.le_of_ble_eq_true rfl) (fun r3 => ?_)
          exact v_lret (rvf := fun (res : Int64) => (some (.long res))) (wf := fun (res : Int64) => (mW q cs isK isB fed at_ ltr ab ps g kp nx fa tp rs rv ct it)) C dX6_madeOf_61 rfl rfl
        · refine v_split (fun h3 => ?_) (fun h3 => ?_)
          · refine v_tin C dX6_madeOf_7 (tgt := 62) (off := 55) (by rw [h3]; decide) (by rw [h3]; decide) (by rw [h3]; rfl) (by decide) ?_
            refine v_aload_n C 0 dX6_madeOf_62 rfl ?_
            refine v_iload_n C 2 dX6_madeOf_63 rfl ?_
            refine v_callV1v C 0 rfl rfl rfl (fun l9 r9 h9 => k_X6_heaviest (l := l9) hq hNK  h9) gX6_madeOf_X6_heaviest rfl nI_X6_heaviest ⟨rfl, rfl, Nat.le_of_ble_eq_true rfl, Nat.le_of_ble_eq_true rfl⟩ dX6_madeOf_64 (Nat.le_of_ble_eq_true rfl) (fun r4 => ?_)
            exact v_lret (rvf := fun (res : Int64) => (some (.long res))) (wf := fun (res : Int64) => (mW q cs isK isB fed at_ ltr ab ps g kp nx fa tp rs rv ct it)) C dX6_madeOf_67 rfl rfl
          · have g0 := i32n h0
            have g1 := i32n h1
            have g2 := i32n h2
            have g3 := i32n h3
            rw [show ((0 : Int32).toInt) = 0 from by decide] at g0
            rw [show ((1 : Int32).toInt) = 1 from by decide] at g1
            rw [show ((2 : Int32).toInt) = 2 from by decide] at g2
            rw [show ((3 : Int32).toInt) = 3 from by decide] at g3
            refine v_tout C dX6_madeOf_7 (tgt := 68) (by omega) (by decide) ?_
            refine v_lconst C dX6_madeOf_68 (v := 0) (by decide) ?_
            refine v_aload_n C 0 dX6_madeOf_69 rfl ?_
            refine v_get C (T := TX6) (n := 16) (C9 := RX6) iX6 0 rfl rfl 0 (by decide) (List.mem_of_getElem? (i := 1) rfl) rfl rfl dX6_madeOf_70 ?_
            refine v_iconst C dX6_madeOf_73 (v := 2) (by decide) ?_
            refine v_lald C 1 1 rfl rfl dX6_madeOf_74 ?_
            refine v_aload_n C 0 dX6_madeOf_75 rfl ?_
            refine v_aload_n C 0 dX6_madeOf_76 rfl ?_
            refine v_callV0v C 0 rfl rfl rfl (fun l9 r9 h9 => k_X6_all (l := l9) hq hNK  h9) gX6_madeOf_X6_all rfl nI_X6_all ⟨rfl, rfl, Nat.le_of_ble_eq_true rfl, Nat.le_of_ble_eq_true rfl⟩ dX6_madeOf_77 (Nat.le_of_ble_eq_true rfl) (fun r5 => ?_)
            refine v_iload_n C 2 dX6_madeOf_80 rfl ?_
            refine v_iconst C dX6_madeOf_81 (v := (-1)) (by decide) ?_
            refine v_ixor C dX6_madeOf_82 ?_
            refine v_iand C dX6_madeOf_83 ?_
            refine v_callV1v C 0 rfl rfl rfl (fun l9 r9 h9 => k_X6_weighs (l := l9) hq hNK  h9) gX6_madeOf_X6_weighs rfl nI_X6_weighs ⟨rfl, rfl, Nat.le_of_ble_eq_true rfl, Nat.le_of_ble_eq_true rfl⟩ dX6_madeOf_84 (Nat.le_of_ble_eq_true rfl) (fun r6 => ?_)
            refine v_lsub C dX6_madeOf_87 ?_
            refine v_mmaxl C (List.mem_of_getElem? (i := 2) rfl) (List.mem_of_getElem? (i := 3) rfl) (List.mem_of_getElem? (i := 4) rfl) (List.mem_of_getElem? (i := 5) rfl) (Nat.le_of_ble_eq_true rfl) (Nat.le_of_ble_eq_true rfl) dX6_madeOf_88 ?_
            exact v_lret (rvf := fun (res : Int64) => (some (.long res))) (wf := fun (res : Int64) => (mW q cs isK isB fed at_ ltr ab ps g kp nx fa tp rs rv ct it)) C dX6_madeOf_91 rfl rfl
  · refine v_lconst C dX6_madeOf_4 (v := 0) (by decide) ?_
    exact v_lret (rvf := fun (res : Int64) => (some (.long res))) (wf := fun (res : Int64) => (mW q cs isK isB fed at_ ltr ab ps g kp nx fa tp rs rv ct it)) C dX6_madeOf_5 rfl rfl

def B_X6_takes_1 (nx : Nat → Int64) (a1 : Int32) (rec1 : Int32 → Int32 → (Nat → Int64) → Option (Int32 × (Nat → Int64)))  (v2 : Int32) (v3 : Int32) (g4 : Nat → Int64) : Option (Int32 × (Nat → Int64)) :=
(f_X6_all g4).bind (fun (r5 : Int32) =>
if (r5 : Int32) < v3 then (
some (v2, g4)) else (
(f_X6_v g4 a1 v3).bind (fun (r6 : Int64) =>
ck (inb v3 512) (
jn1 (fun (v8 : Int32) =>
nm (v2 + v8) (fun (x9 : Int32) =>
ck (inb v3 512) (
ck (inb ((183 + (512 * a1)) + v3) 2231) (
nm (vp_updL g4 ((183 + (512 * a1)) + v3).toNatClampNeg (nx v3.toNatClampNeg)) (fun (g10 : Nat → Int64) =>
nm (v3 + 1) (fun (x11 : Int32) =>
rec1 x9 x11 g10)))))) (fun k7 =>
if (r6 : Int64) = (nx v3.toNatClampNeg) then (
k7 0) else (
k7 1))))))
def L_X6_takes_1 (nx : Nat → Int64) (a1 : Int32)  : Nat → Int32 → Int32 → (Nat → Int64) → Option (Int32 × (Nat → Int64))
  | 0, _, _, _ => none
  | m9 + 1, v2, v3, g4 => B_X6_takes_1 nx a1 (L_X6_takes_1 nx a1 m9)  v2 v3 g4

def f_X6_takes (isB : Bool) (g : Nat → Int64) (nx : Nat → Int64) (a1 : Int32) : Option (Int32 × (Nat → Int64)) :=
if isB = true then (
some ((-6), g)) else (
L_X6_takes_1 nx a1  FU 0 0 g)

theorem nI_X6_takes : NameIn yX6_takes 1 := ⟨by decide +kernel, by decide +kernel, by decide +kernel⟩
set_option maxRecDepth 100000 in
set_option maxHeartbeats 4000000 in
theorem lp_X6_takes_1 {X : CX} {res : Int32 × (Nat → Int64)} {a1 : Int32}   (hq : (mA q).Nodup) (hNK : NOK N) (C : Ok X cX6_takes 4 (some .int) wsX6_takes RX6 { frames := 2, cells := 0, slots := 0, locals := 40 } D vwCl (mT cs) (mA q) N (some (.int res.1)) (mW q cs isK isB fed at_ ltr ab ps res.2 kp nx fa tp rs rv ct it))  : ∀ fuel : Nat, ∀ v2 : Int32, ∀ v3 : Int32, ∀ g4 : Nat → Int64, VF X res (L_X6_takes_1 nx a1 fuel v2 v3 g4) (mW q cs isK isB fed at_ ltr ab ps g4 kp nx fa tp rs rv ct it) 14 [(0, .ref (q 0)), (1, .int a1), (2, .int v2), (3, .int v3)] [] := by
  have iX6 : ∀ w ∈ wsX60, w ∈ wsX6_takes := fun _ h => List.mem_cons_of_mem _ (List.mem_append_right _ h)
  intro fuel
  induction fuel with
  | zero =>
    intro _ _ _
    exact v_none
  | succ fuel ih =>
    intro v2 v3 g4
    show VF X res (B_X6_takes_1 nx a1 (L_X6_takes_1 nx a1 fuel)  v2 v3 g4) _ _ _ _
    unfold B_X6_takes_1
    refine v_iload_n C 3 dX6_takes_14 rfl ?_
    refine v_aload_n C 0 dX6_takes_15 rfl ?_
    refine v_callV0v C 0 rfl rfl rfl (fun l9 r9 h9 => k_X6_all (l := l9) hq hNK  h9) gX6_takes_X6_all rfl nI_X6_all ⟨rfl, rfl, Nat.le_of_ble_eq_true rfl, Nat.le_of_ble_eq_true rfl⟩ dX6_takes_16 (Nat.le_of_ble_eq_true rfl) (fun r5 => ?_)
    refine v_icmp_gt C dX6_takes_19 (tgt := 74) (by decide) ?_ ?_
    · refine v_iload_n C 2 dX6_takes_74 rfl ?_
      exact v_iret (rvf := fun (res : Int32 × (Nat → Int64)) => (some (.int res.1))) (wf := fun (res : Int32 × (Nat → Int64)) => (mW q cs isK isB fed at_ ltr ab ps res.2 kp nx fa tp rs rv ct it)) C dX6_takes_75 rfl rfl
    · refine v_iload_n C 2 dX6_takes_22 rfl ?_
      refine v_aload_n C 0 dX6_takes_23 rfl ?_
      refine v_iload_n C 1 dX6_takes_24 rfl ?_
      refine v_iload_n C 3 dX6_takes_25 rfl ?_
      refine v_callV2v C 0 rfl rfl rfl (fun l9 r9 h9 => k_X6_v (l := l9) hq hNK  h9) gX6_takes_X6_v rfl nI_X6_v ⟨rfl, rfl, Nat.le_of_ble_eq_true rfl, Nat.le_of_ble_eq_true rfl⟩ dX6_takes_26 (Nat.le_of_ble_eq_true rfl) (fun r6 => ?_)
      refine v_aload_n C 0 dX6_takes_29 rfl ?_
      refine v_get C (T := TX6) (n := 16) (C9 := RX6) iX6 0 rfl rfl 2 (by decide) (List.mem_of_getElem? (i := 2) rfl) rfl rfl dX6_takes_30 ?_
      refine v_iload_n C 3 dX6_takes_33 rfl ?_
      refine v_lald C 3 1 rfl rfl dX6_takes_34 ?_
      refine v_jn1 (wj := (fun v8 => (mW q cs isK isB fed at_ ltr ab ps g4 kp nx fa tp rs rv ct it))) (pcj := 44) (lvj := (fun v8 => [(0, .ref (q 0)), (1, .int a1), (3, .int v3)])) (stj := (fun v8 => [.int v8, .int v2])) (fun v8 => ?_) (fun k7 hk7 => ?_)
      · refine v_iadd C dX6_takes_44 ?_
        refine v_istore_n_nm C (lvf := fun x9 => [(2, .int x9), (0, .ref (q 0)), (1, .int a1), (3, .int v3)]) dX6_takes_45 rfl (by decide) (fun _ => rfl) (fun x9 => ?_)
        refine v_aload_n C 1 dX6_takes_46 rfl ?_
        refine v_get C (T := TX6) (n := 16) (C9 := RX6) iX6 0 rfl rfl 0 (by decide) (List.mem_of_getElem? (i := 3) rfl) rfl rfl dX6_takes_47 ?_
        refine v_sipush C dX6_takes_50 (v := 183) (by decide) ?_
        refine v_sipush C dX6_takes_53 (v := 512) (by decide) ?_
        refine v_iload_n C 2 dX6_takes_56 rfl ?_
        refine v_imul C dX6_takes_57 ?_
        refine v_iadd C dX6_takes_58 ?_
        refine v_iload_n C 3 dX6_takes_59 rfl ?_
        refine v_iadd C dX6_takes_60 ?_
        refine v_aload_n C 1 dX6_takes_61 rfl ?_
        refine v_get C (T := TX6) (n := 16) (C9 := RX6) iX6 0 rfl rfl 2 (by decide) (List.mem_of_getElem? (i := 2) rfl) rfl rfl dX6_takes_62 ?_
        refine v_iload_n C 3 dX6_takes_65 rfl ?_
        refine v_lald C 3 1 rfl rfl dX6_takes_66 ?_
        refine v_last_nm C (fun g10 => (mW q cs isK isB fed at_ ltr ab ps g10 kp nx fa tp rs rv ct it)) 1 1 rfl rfl rfl (fun _ => rfl) dX6_takes_67 (fun g10 => ?_)
        refine v_iinc_nm C (lvf := fun x11 => [(3, .int x11), (2, .int x9), (0, .ref (q 0)), (1, .int a1)]) 3 dX6_takes_68 rfl rfl (by decide) (fun _ => rfl) (fun x11 => ?_)
        refine v_goto C dX6_takes_71 (tgt := 14) (by decide) ?_
        exact v_sub [2, 3, 1, 0] rfl (ih x9 x11 g10)
      · refine v_lcmp_ne C dX6_takes_35 dX6_takes_36 (tgt := 43) (by decide) ?_ ?_
        · refine v_iconst C dX6_takes_43 (v := 1) (by decide) ?_
          exact v_sub [0, 1, 3] rfl (hk7 1)
        · refine v_iconst C dX6_takes_39 (v := 0) (by decide) ?_
          refine v_goto C dX6_takes_40 (tgt := 44) (by decide) ?_
          exact v_sub [0, 1, 3] rfl (hk7 0)

set_option maxRecDepth 100000 in
set_option maxHeartbeats 4000000 in
theorem k_X6_takes {l : Launch} {a1 : Int32}  {res : Int32 × (Nat → Int64)} (hq : (mA q).Nodup) (hNK : NOK N)  (hf : f_X6_takes isB g nx a1 = some res) : kMet l yX6_takes wsX6_takes { frames := 2, cells := 0, slots := 0, locals := 40 } D vwCl (mT cs) N (mA q) [.ref (q 0), .int a1] (mW q cs isK isB fed at_ ltr ab ps g kp nx fa tp rs rv ct it) (some (.int res.1)) (mW q cs isK isB fed at_ ltr ab ps res.2 kp nx fa tp rs rv ct it) := by
  have iX6 : ∀ w ∈ wsX60, w ∈ wsX6_takes := fun _ h => List.mem_cons_of_mem _ (List.mem_append_right _ h)
  refine kMet.of (cc := cX6_takes) (nL := 4) (ret := (some .int)) (own := RX6) (lv := [(0, .ref (q 0)), (1, .int a1)]) (by decide +kernel) rfl rfl hNK hq (Nat.le_of_ble_eq_true rfl) rfl (fun X C => ?_)
  refine VF.of hf ?_
  unfold f_X6_takes
  refine v_aload_n C 0 dX6_takes_0 rfl ?_
  refine v_get C (T := TX6) (n := 16) (C9 := RX6) iX6 0 rfl rfl 5 (by decide) (List.mem_of_getElem? (i := 1) rfl) rfl rfl dX6_takes_1 ?_
  refine v_ifb_eq C (b := isB) dX6_takes_4 (tgt := 10) (by decide) ?_ ?_
  · refine v_iconst C dX6_takes_10 (v := 0) (by decide) ?_
    refine v_istore_n C (lv' := [(2, .int 0), (0, .ref (q 0)), (1, .int a1)]) dX6_takes_11 rfl (by decide) rfl ?_
    refine v_iconst C dX6_takes_12 (v := 0) (by decide) ?_
    refine v_istore_n C (lv' := [(3, .int 0), (2, .int 0), (0, .ref (q 0)), (1, .int a1)]) dX6_takes_13 rfl (by decide) rfl ?_
    refine v_sub [2, 3, 1, 0] rfl (lp_X6_takes_1 hq hNK C   FU 0 0 g)
  · refine v_bipush C dX6_takes_7 (v := (-6)) (by decide) ?_
    exact v_iret (rvf := fun (res : Int32 × (Nat → Int64)) => (some (.int res.1))) (wf := fun (res : Int32 × (Nat → Int64)) => (mW q cs isK isB fed at_ ltr ab ps res.2 kp nx fa tp rs rv ct it)) C dX6_takes_9 rfl rfl

def B_X6_others_1 (g : Nat → Int64) (a1 : Int32) (rec1 : Int32 → Int32 → Option (Int32))  (v2 : Int32) (v3 : Int32) : Option (Int32) :=
(f_X6_all g).bind (fun (r4 : Int32) =>
if (r4 : Int32) < v3 then (
some v2) else (
(f_X6_v g a1 v3).bind (fun (r5 : Int64) =>
jn1 (fun (v7 : Int32) =>
nm (v2 + v7) (fun (x8 : Int32) =>
nm (v3 + 1) (fun (x9 : Int32) =>
rec1 x8 x9))) (fun k6 =>
if (r5 : Int64) = 0 then (
k6 0) else (
k6 1)))))
def L_X6_others_1 (g : Nat → Int64) (a1 : Int32)  : Nat → Int32 → Int32 → Option (Int32)
  | 0, _, _ => none
  | m9 + 1, v2, v3 => B_X6_others_1 g a1 (L_X6_others_1 g a1 m9)  v2 v3

def f_X6_others (g : Nat → Int64) (a1 : Int32) : Option (Int32) :=
L_X6_others_1 g a1  FU 0 0

theorem nI_X6_others : NameIn yX6_others 1 := ⟨by decide +kernel, by decide +kernel, by decide +kernel⟩
set_option maxRecDepth 100000 in
set_option maxHeartbeats 4000000 in
theorem lp_X6_others_1 {X : CX} {res : Int32} {a1 : Int32}   (hq : (mA q).Nodup) (hNK : NOK N) (C : Ok X cX6_others 4 (some .int) wsX6_others RX6 { frames := 2, cells := 0, slots := 0, locals := 40 } D vwCl (mT cs) (mA q) N (some (.int res)) (mW q cs isK isB fed at_ ltr ab ps g kp nx fa tp rs rv ct it))  : ∀ fuel : Nat, ∀ v2 : Int32, ∀ v3 : Int32, VF X res (L_X6_others_1 g a1 fuel v2 v3) (mW q cs isK isB fed at_ ltr ab ps g kp nx fa tp rs rv ct it) 4 [(0, .ref (q 0)), (1, .int a1), (2, .int v2), (3, .int v3)] [] := by
  intro fuel
  induction fuel with
  | zero =>
    intro _ _
    exact v_none
  | succ fuel ih =>
    intro v2 v3
    show VF X res (B_X6_others_1 g a1 (L_X6_others_1 g a1 fuel)  v2 v3) _ _ _ _
    unfold B_X6_others_1
    refine v_iload_n C 3 dX6_others_4 rfl ?_
    refine v_aload_n C 0 dX6_others_5 rfl ?_
    refine v_callV0v C 0 rfl rfl rfl (fun l9 r9 h9 => k_X6_all (l := l9) hq hNK  h9) gX6_others_X6_all rfl nI_X6_all ⟨rfl, rfl, Nat.le_of_ble_eq_true rfl, Nat.le_of_ble_eq_true rfl⟩ dX6_others_6 (Nat.le_of_ble_eq_true rfl) (fun r4 => ?_)
    refine v_icmp_gt C dX6_others_9 (tgt := 37) (by decide) ?_ ?_
    · refine v_iload_n C 2 dX6_others_37 rfl ?_
      exact v_iret (rvf := fun (res : Int32) => (some (.int res))) (wf := fun (res : Int32) => (mW q cs isK isB fed at_ ltr ab ps g kp nx fa tp rs rv ct it)) C dX6_others_38 rfl rfl
    · refine v_iload_n C 2 dX6_others_12 rfl ?_
      refine v_aload_n C 0 dX6_others_13 rfl ?_
      refine v_iload_n C 1 dX6_others_14 rfl ?_
      refine v_iload_n C 3 dX6_others_15 rfl ?_
      refine v_callV2v C 0 rfl rfl rfl (fun l9 r9 h9 => k_X6_v (l := l9) hq hNK  h9) gX6_others_X6_v rfl nI_X6_v ⟨rfl, rfl, Nat.le_of_ble_eq_true rfl, Nat.le_of_ble_eq_true rfl⟩ dX6_others_16 (Nat.le_of_ble_eq_true rfl) (fun r5 => ?_)
      refine v_lconst C dX6_others_19 (v := 0) (by decide) ?_
      refine v_jn1 (wj := (fun v7 => (mW q cs isK isB fed at_ ltr ab ps g kp nx fa tp rs rv ct it))) (pcj := 29) (lvj := (fun v7 => [(0, .ref (q 0)), (1, .int a1), (3, .int v3)])) (stj := (fun v7 => [.int v7, .int v2])) (fun v7 => ?_) (fun k6 hk6 => ?_)
      · refine v_iadd C dX6_others_29 ?_
        refine v_istore_n_nm C (lvf := fun x8 => [(2, .int x8), (0, .ref (q 0)), (1, .int a1), (3, .int v3)]) dX6_others_30 rfl (by decide) (fun _ => rfl) (fun x8 => ?_)
        refine v_iinc_nm C (lvf := fun x9 => [(3, .int x9), (2, .int x8), (0, .ref (q 0)), (1, .int a1)]) 3 dX6_others_31 rfl rfl (by decide) (fun _ => rfl) (fun x9 => ?_)
        refine v_goto C dX6_others_34 (tgt := 4) (by decide) ?_
        exact v_sub [2, 3, 1, 0] rfl (ih x8 x9)
      · refine v_lcmp_ne C dX6_others_20 dX6_others_21 (tgt := 28) (by decide) ?_ ?_
        · refine v_iconst C dX6_others_28 (v := 1) (by decide) ?_
          exact v_sub [0, 1, 3] rfl (hk6 1)
        · refine v_iconst C dX6_others_24 (v := 0) (by decide) ?_
          refine v_goto C dX6_others_25 (tgt := 29) (by decide) ?_
          exact v_sub [0, 1, 3] rfl (hk6 0)

set_option maxRecDepth 100000 in
set_option maxHeartbeats 4000000 in
theorem k_X6_others {l : Launch} {a1 : Int32}  {res : Int32} (hq : (mA q).Nodup) (hNK : NOK N)  (hf : f_X6_others g a1 = some res) : kMet l yX6_others wsX6_others { frames := 2, cells := 0, slots := 0, locals := 40 } D vwCl (mT cs) N (mA q) [.ref (q 0), .int a1] (mW q cs isK isB fed at_ ltr ab ps g kp nx fa tp rs rv ct it) (some (.int res)) (mW q cs isK isB fed at_ ltr ab ps g kp nx fa tp rs rv ct it) := by
  refine kMet.of (cc := cX6_others) (nL := 4) (ret := (some .int)) (own := RX6) (lv := [(0, .ref (q 0)), (1, .int a1)]) (by decide +kernel) rfl rfl hNK hq (Nat.le_of_ble_eq_true rfl) rfl (fun X C => ?_)
  refine VF.of hf ?_
  unfold f_X6_others
  refine v_iconst C dX6_others_0 (v := 0) (by decide) ?_
  refine v_istore_n C (lv' := [(2, .int 0), (0, .ref (q 0)), (1, .int a1)]) dX6_others_1 rfl (by decide) rfl ?_
  refine v_iconst C dX6_others_2 (v := 0) (by decide) ?_
  refine v_istore_n C (lv' := [(3, .int 0), (2, .int 0), (0, .ref (q 0)), (1, .int a1)]) dX6_others_3 rfl (by decide) rfl ?_
  refine v_sub [2, 3, 1, 0] rfl (lp_X6_others_1 hq hNK C   FU 0 0)

def B_X6_make_1 (a1 : Int32) (a2 : Int32) (rec3 : Int32 → (Nat → Int64) → Option (Int32 × (Nat → Int64)))  (v4 : Int32) (g5 : Nat → Int64) : Option (Int32 × (Nat → Int64)) :=
(f_X6_all g5).bind (fun (r6 : Int32) =>
if (r6 : Int32) < v4 then (
(f_X6_others g5 a1).bind (fun (r7 : Int32) =>
some (r7, g5))) else (
(f_X6_madeOf g5 a2 v4).bind (fun (r8 : Int64) =>
ck (inb ((183 + (512 * a1)) + v4) 2231) (
nm (vp_updL g5 ((183 + (512 * a1)) + v4).toNatClampNeg r8) (fun (g9 : Nat → Int64) =>
nm (v4 + 1) (fun (x10 : Int32) =>
rec3 x10 g9))))))
def L_X6_make_1 (a1 : Int32) (a2 : Int32)  : Nat → Int32 → (Nat → Int64) → Option (Int32 × (Nat → Int64))
  | 0, _, _ => none
  | m9 + 1, v4, g5 => B_X6_make_1 a1 a2 (L_X6_make_1 a1 a2 m9)  v4 g5

def f_X6_make (g : Nat → Int64) (a1 : Int32) (a2 : Int32) : Option (Int32 × (Nat → Int64)) :=
(f_X6_isGame a1).bind (fun (r1 : Bool) =>
if r1 = true then (
(f_X6_isIn a2.toInt64 0 4).bind (fun (r2 : Bool) =>
if r2 = true then (
L_X6_make_1 a1 a2  FU 0 g) else (
some ((-1), g)))) else (
some ((-1), g)))

theorem nI_X6_make : NameIn yX6_make 2 := ⟨by decide +kernel, by decide +kernel, by decide +kernel⟩
set_option maxRecDepth 100000 in
set_option maxHeartbeats 4000000 in
theorem lp_X6_make_1 {X : CX} {res : Int32 × (Nat → Int64)} {a1 : Int32} {a2 : Int32}   (hq : (mA q).Nodup) (hNK : NOK N) (C : Ok X cX6_make 4 (some .int) wsX6_make RX6 { frames := 4, cells := 0, slots := 0, locals := 91 } D vwCl (mT cs) (mA q) N (some (.int res.1)) (mW q cs isK isB fed at_ ltr ab ps res.2 kp nx fa tp rs rv ct it))  : ∀ fuel : Nat, ∀ v4 : Int32, ∀ g5 : Nat → Int64, VF X res (L_X6_make_1 a1 a2 fuel v4 g5) (mW q cs isK isB fed at_ ltr ab ps g5 kp nx fa tp rs rv ct it) 23 [(0, .ref (q 0)), (1, .int a1), (2, .int a2), (3, .int v4)] [] := by
  have iX6 : ∀ w ∈ wsX60, w ∈ wsX6_make := fun _ h => List.mem_cons_of_mem _ (List.mem_append_right _ h)
  intro fuel
  induction fuel with
  | zero =>
    intro _ _
    exact v_none
  | succ fuel ih =>
    intro v4 g5
    show VF X res (B_X6_make_1 a1 a2 (L_X6_make_1 a1 a2 fuel)  v4 g5) _ _ _ _
    unfold B_X6_make_1
    refine v_iload_n C 3 dX6_make_23 rfl ?_
    refine v_aload_n C 0 dX6_make_24 rfl ?_
    refine v_callV0v C 0 rfl rfl rfl (fun l9 r9 h9 => k_X6_all (l := l9) hq hNK  h9) gX6_make_X6_all rfl nI_X6_all ⟨rfl, rfl, Nat.le_of_ble_eq_true rfl, Nat.le_of_ble_eq_true rfl⟩ dX6_make_25 (Nat.le_of_ble_eq_true rfl) (fun r6 => ?_)
    refine v_icmp_gt C dX6_make_28 (tgt := 59) (by decide) ?_ ?_
    · refine v_aload_n C 0 dX6_make_59 rfl ?_
      refine v_iload_n C 1 dX6_make_60 rfl ?_
      refine v_callV1v C 0 rfl rfl rfl (fun l9 r9 h9 => k_X6_others (l := l9) hq hNK  h9) gX6_make_X6_others rfl nI_X6_others ⟨rfl, rfl, Nat.le_of_ble_eq_true rfl, Nat.le_of_ble_eq_true rfl⟩ dX6_make_61 (Nat.le_of_ble_eq_true rfl) (fun r7 => ?_)
      exact v_iret (rvf := fun (res : Int32 × (Nat → Int64)) => (some (.int res.1))) (wf := fun (res : Int32 × (Nat → Int64)) => (mW q cs isK isB fed at_ ltr ab ps res.2 kp nx fa tp rs rv ct it)) C dX6_make_64 rfl rfl
    · refine v_aload_n C 0 dX6_make_31 rfl ?_
      refine v_get C (T := TX6) (n := 16) (C9 := RX6) iX6 0 rfl rfl 0 (by decide) (List.mem_of_getElem? (i := 2) rfl) rfl rfl dX6_make_32 ?_
      refine v_sipush C dX6_make_35 (v := 183) (by decide) ?_
      refine v_sipush C dX6_make_38 (v := 512) (by decide) ?_
      refine v_iload_n C 1 dX6_make_41 rfl ?_
      refine v_imul C dX6_make_42 ?_
      refine v_iadd C dX6_make_43 ?_
      refine v_iload_n C 3 dX6_make_44 rfl ?_
      refine v_iadd C dX6_make_45 ?_
      refine v_aload_n C 0 dX6_make_46 rfl ?_
      refine v_iload_n C 2 dX6_make_47 rfl ?_
      refine v_iload_n C 3 dX6_make_48 rfl ?_
      refine v_callV2v C 0 rfl rfl rfl (fun l9 r9 h9 => k_X6_madeOf (l := l9) hq hNK  h9) gX6_make_X6_madeOf rfl nI_X6_madeOf ⟨rfl, rfl, Nat.le_of_ble_eq_true rfl, Nat.le_of_ble_eq_true rfl⟩ dX6_make_49 (Nat.le_of_ble_eq_true rfl) (fun r8 => ?_)
      refine v_last_nm C (fun g9 => (mW q cs isK isB fed at_ ltr ab ps g9 kp nx fa tp rs rv ct it)) 1 1 rfl rfl rfl (fun _ => rfl) dX6_make_52 (fun g9 => ?_)
      refine v_iinc_nm C (lvf := fun x10 => [(3, .int x10), (0, .ref (q 0)), (1, .int a1), (2, .int a2)]) 3 dX6_make_53 rfl rfl (by decide) (fun _ => rfl) (fun x10 => ?_)
      refine v_goto C dX6_make_56 (tgt := 23) (by decide) ?_
      exact v_sub [1, 2, 3, 0] rfl (ih x10 g9)

set_option maxRecDepth 100000 in
set_option maxHeartbeats 4000000 in
theorem k_X6_make {l : Launch} {a1 : Int32} {a2 : Int32}  {res : Int32 × (Nat → Int64)} (hq : (mA q).Nodup) (hNK : NOK N)  (hf : f_X6_make g a1 a2 = some res) : kMet l yX6_make wsX6_make { frames := 4, cells := 0, slots := 0, locals := 91 } D vwCl (mT cs) N (mA q) [.ref (q 0), .int a1, .int a2] (mW q cs isK isB fed at_ ltr ab ps g kp nx fa tp rs rv ct it) (some (.int res.1)) (mW q cs isK isB fed at_ ltr ab ps res.2 kp nx fa tp rs rv ct it) := by
  refine kMet.of (cc := cX6_make) (nL := 4) (ret := (some .int)) (own := RX6) (lv := [(0, .ref (q 0)), (1, .int a1), (2, .int a2)]) (by decide +kernel) rfl rfl hNK hq (Nat.le_of_ble_eq_true rfl) rfl (fun X C => ?_)
  refine VF.of hf ?_
  unfold f_X6_make
  refine v_iload_n C 1 dX6_make_0 rfl ?_
  refine v_callSP1v C (fun l9 r9 h9 => k_X6_isGame (l := l9) h9) gX6_make_X6_isGame rfl nI_X6_isGame ⟨rfl, rfl, Nat.le_of_ble_eq_true rfl, Nat.le_of_ble_eq_true rfl⟩ dX6_make_1 (Nat.le_of_ble_eq_true rfl) (fun r1 => ?_)
  refine v_ifb_eq C (b := r1) dX6_make_4 (tgt := 19) (by decide) ?_ ?_
  · refine v_iconst C dX6_make_19 (v := (-1)) (by decide) ?_
    exact v_iret (rvf := fun (res : Int32 × (Nat → Int64)) => (some (.int res.1))) (wf := fun (res : Int32 × (Nat → Int64)) => (mW q cs isK isB fed at_ ltr ab ps res.2 kp nx fa tp rs rv ct it)) C dX6_make_20 rfl rfl
  · refine v_iload_n C 2 dX6_make_7 rfl ?_
    refine v_i2l C dX6_make_8 ?_
    refine v_lconst C dX6_make_9 (v := 0) (by decide) ?_
    refine v_ldc2 C (v := 4) (List.mem_of_getElem? (i := 1) rfl) dX6_make_10 ?_
    refine v_callSP3v C (fun l9 r9 h9 => k_X6_isIn (l := l9) h9) gX6_make_X6_isIn rfl nI_X6_isIn ⟨rfl, rfl, Nat.le_of_ble_eq_true rfl, Nat.le_of_ble_eq_true rfl⟩ dX6_make_13 (Nat.le_of_ble_eq_true rfl) (fun r2 => ?_)
    refine v_ifb_ne C (b := r2) dX6_make_16 (tgt := 21) (by decide) ?_ ?_
    · refine v_iconst C dX6_make_21 (v := 0) (by decide) ?_
      refine v_istore_n C (lv' := [(3, .int 0), (0, .ref (q 0)), (1, .int a1), (2, .int a2)]) dX6_make_22 rfl (by decide) rfl ?_
      refine v_sub [1, 2, 3, 0] rfl (lp_X6_make_1 hq hNK C   FU 0 g)
    · refine v_iconst C dX6_make_19 (v := (-1)) (by decide) ?_
      exact v_iret (rvf := fun (res : Int32 × (Nat → Int64)) => (some (.int res.1))) (wf := fun (res : Int32 × (Nat → Int64)) => (mW q cs isK isB fed at_ ltr ab ps res.2 kp nx fa tp rs rv ct it)) C dX6_make_20 rfl rfl

end WK
