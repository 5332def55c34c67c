section WK
variable {q : Nat → Nat} {cs : Nat → ClassId} {D : va_G} {N : (Nat → Prop) → State → Prop} {isK : Bool} {isB : Bool} {fed : Int32} {at_ : Int32} {ltr : Int32} {ab : Int64} {ps : Nat} {g : Nat → Int64} {kp : Nat → Int64} {nx : Nat → Int64} {fa : Nat → Int64} {tp : Nat → Int32} {rs : Nat → Int32} {rv : Nat → Int64} {ct : Nat → Int32} {it : Nat → Int64}
def B_X6_worst_1 (g : Nat → Int64) (it : Nat → Int64) (a1 : Int32) (a2 : Int32) (a3 : Int32) (rec5 : Int32 → Int64 → Int32 → Bool → Option (Int32 × Bool)) (kx6 : Int32 → Bool → Option (Int32 × Bool)) (v7 : Int32) (v8 : Int64) (v9 : Int32) (isB10 : Bool) : Option (Int32 × Bool) :=
(f_X6_all g).bind (fun (r11 : Int32) =>
if (v9 : Int32) < r11 then (
(f_X6_v g a1 v9).bind (fun (r12 : Int64) =>
(f_X6_summed isB10 g it a2 a3 v9).bind (fun (r13 : Int64 × Bool) =>
(f_X6_minus r13.2 r12 r13.1).bind (fun (r14 : Int64 × Bool) =>
jn2 (fun (v16 : Int32) (v17 : Int64) =>
nm (v9 + 1) (fun (x18 : Int32) =>
rec5 v16 v17 x18 r14.2)) (fun k15 =>
jn0 (k15 v9 r14.1) (fun k19 =>
if (v7 : Int32) < 0 then (
k19) else (
if (v8 : Int64) < r14.1 then (
k19) else (
k15 v7 v8)))))))) else (
kx6 v7 isB10))
def L_X6_worst_1 (g : Nat → Int64) (it : Nat → Int64) (a1 : Int32) (a2 : Int32) (a3 : Int32) (kx6 : Int32 → Bool → Option (Int32 × Bool)) : Nat → Int32 → Int64 → Int32 → Bool → Option (Int32 × Bool)
  | 0, _, _, _, _ => none
  | m9 + 1, v7, v8, v9, isB10 => B_X6_worst_1 g it a1 a2 a3 (L_X6_worst_1 g it a1 a2 a3 kx6 m9) kx6 v7 v8 v9 isB10

def f_X6_worst (isB : Bool) (g : Nat → Int64) (ct : Nat → Int32) (it : Nat → Int64) (a1 : Int32) (a2 : Int32) (a3 : Int32) : Option (Int32 × Bool) :=
(f_X6_isGame a1).bind (fun (r1 : Bool) =>
if r1 = true then (
(f_X6_isRow a2).bind (fun (r2 : Bool) =>
if r2 = true then (
(f_X6_isThere g ct a2 a3).bind (fun (r3 : Bool) =>
if r3 = true then (
nm false (fun (isB4 : Bool) =>
L_X6_worst_1 g it a1 a2 a3 (fun (v20 : Int32) (isB21 : Bool) =>
if isB21 = true then (
some ((-6), isB21)) else (
some (v20, isB21))) FU (-5) 0 1 isB4)) else (
some ((-3), isB)))) else (
some ((-1), isB)))) else (
some ((-1), isB)))

theorem nI_X6_worst : NameIn yX6_worst 3 := ⟨by decide +kernel, by decide +kernel, by decide +kernel⟩
set_option maxRecDepth 100000 in
set_option maxHeartbeats 4000000 in
theorem lp_X6_worst_1 {X : CX} {res : Int32 × Bool} {a1 : Int32} {a2 : Int32} {a3 : Int32}   (hq : (mA q).Nodup) (hNK : NOK N) (C : Ok X cX6_worst 10 (some .int) wsX6_worst RX6 { frames := 2, cells := 0, slots := 0, locals := 52 } D vwCl (mT cs) (mA q) N (some (.int res.1)) (mW q cs isK res.2 fed at_ ltr ab ps g kp nx fa tp rs rv ct it))  (kx6 : Int32 → Bool → Option (Int32 × Bool)) (Jkx6 : ∀ y4 : Int32, ∀ isBZz : Bool, VF X res (kx6 y4 isBZz) (mW q cs isK isBZz fed at_ ltr ab ps g kp nx fa tp rs rv ct it) 103 [(0, .ref (q 0)), (4, .int y4)] []) : ∀ fuel : Nat, ∀ v7 : Int32, ∀ v8 : Int64, ∀ v9 : Int32, ∀ isB10 : Bool, VF X res (L_X6_worst_1 g it a1 a2 a3 kx6 fuel v7 v8 v9 isB10) (mW q cs isK isB10 fed at_ ltr ab ps g kp nx fa tp rs rv ct it) 43 [(0, .ref (q 0)), (1, .int a1), (2, .int a2), (3, .int a3), (4, .int v7), (5, .long v8), (7, .int v9)] [] := by
  intro fuel
  induction fuel with
  | zero =>
    intro _ _ _ _
    exact v_none
  | succ fuel ih =>
    intro v7 v8 v9 isB10
    show VF X res (B_X6_worst_1 g it a1 a2 a3 (L_X6_worst_1 g it a1 a2 a3 kx6 fuel) kx6 v7 v8 v9 isB10) _ _ _ _
    unfold B_X6_worst_1
    refine v_iload C 6 dX6_worst_43 rfl ?_
    refine v_aload_n C 0 dX6_worst_45 rfl ?_
    refine v_callV0v C 0 rfl rfl rfl (fun l9 r9 h9 => k_X6_all (l := l9) hq hNK  h9) gX6_worst_X6_all rfl nI_X6_all ⟨rfl, rfl, Nat.le_of_ble_eq_true rfl, Nat.le_of_ble_eq_true rfl⟩ dX6_worst_46 (Nat.le_of_ble_eq_true rfl) (fun r11 => ?_)
    refine v_icmp_ge C dX6_worst_49 (tgt := 103) (by decide) ?_ ?_
    · exact v_sub [0, 4] rfl (Jkx6 v7 isB10)
    · refine v_aload_n C 0 dX6_worst_52 rfl ?_
      refine v_aload_n C 0 dX6_worst_53 rfl ?_
      refine v_iload_n C 1 dX6_worst_54 rfl ?_
      refine v_iload C 6 dX6_worst_55 rfl ?_
      refine v_callV2v C 0 rfl rfl rfl (fun l9 r9 h9 => k_X6_v (l := l9) hq hNK  h9) gX6_worst_X6_v rfl nI_X6_v ⟨rfl, rfl, Nat.le_of_ble_eq_true rfl, Nat.le_of_ble_eq_true rfl⟩ dX6_worst_57 (Nat.le_of_ble_eq_true rfl) (fun r12 => ?_)
      refine v_aload_n C 0 dX6_worst_60 rfl ?_
      refine v_iload_n C 2 dX6_worst_61 rfl ?_
      refine v_iload_n C 3 dX6_worst_62 rfl ?_
      refine v_iload C 6 dX6_worst_63 rfl ?_
      refine v_callV3v C 0 rfl rfl rfl (fun l9 r9 h9 => k_X6_summed (l := l9) hq hNK  h9) gX6_worst_X6_summed rfl nI_X6_summed ⟨rfl, rfl, Nat.le_of_ble_eq_true rfl, Nat.le_of_ble_eq_true rfl⟩ dX6_worst_65 (Nat.le_of_ble_eq_true rfl) (fun r13 => ?_)
      refine v_callV2v C 0 rfl rfl rfl (fun l9 r9 h9 => k_X6_minus (l := l9) hq hNK  h9) gX6_worst_X6_minus rfl nI_X6_minus ⟨rfl, rfl, Nat.le_of_ble_eq_true rfl, Nat.le_of_ble_eq_true rfl⟩ dX6_worst_68 (Nat.le_of_ble_eq_true rfl) (fun r14 => ?_)
      refine v_lstore C (lv' := [(8, .long r14.1), (0, .ref (q 0)), (1, .int a1), (2, .int a2), (3, .int a3), (4, .int v7), (5, .long v8), (7, .int v9)]) dX6_worst_71 (by decide) rfl ?_
      refine v_iload C 5 dX6_worst_73 rfl ?_
      refine v_jn2 (wj := (fun v16 v17 => (mW q cs isK r14.2 fed at_ ltr ab ps g kp nx fa tp rs rv ct it))) (pcj := 97) (lvj := (fun v16 v17 => [(0, .ref (q 0)), (1, .int a1), (2, .int a2), (3, .int a3), (4, .int v16), (5, .long v17), (7, .int v9)])) (stj := (fun v16 v17 => [])) (fun v16 v17 => ?_) (fun k15 hk15 => ?_)
      · refine v_iinc_nm C (lvf := fun x18 => [(7, .int x18), (0, .ref (q 0)), (1, .int a1), (2, .int a2), (3, .int a3), (4, .int v16), (5, .long v17)]) 6 dX6_worst_97 rfl rfl (by decide) (fun _ => rfl) (fun x18 => ?_)
        refine v_goto C dX6_worst_100 (tgt := 43) (by decide) ?_
        exact v_sub [1, 2, 3, 4, 5, 6, 0] rfl (ih v16 v17 x18 r14.2)
      · refine v_jn0 (wj := ((mW q cs isK r14.2 fed at_ ltr ab ps g kp nx fa tp rs rv ct it))) (pcj := 89) (lvj := ([(0, .ref (q 0)), (1, .int a1), (2, .int a2), (3, .int a3), (7, .int v9), (8, .long r14.1)])) (stj := ([])) ?_ (fun k19 hk19 => ?_)
        · refine v_iload C 4 dX6_worst_89 rfl ?_
          refine v_istore C (lv' := [(4, .int v9), (0, .ref (q 0)), (1, .int a1), (2, .int a2), (3, .int a3), (7, .int v9), (8, .long r14.1)]) dX6_worst_91 (by decide) rfl ?_
          refine v_lload C 6 dX6_worst_93 rfl ?_
          refine v_lstore C (lv' := [(5, .long r14.1), (4, .int v9), (0, .ref (q 0)), (1, .int a1), (2, .int a2), (3, .int a3), (7, .int v9), (8, .long r14.1)]) dX6_worst_95 (by decide) rfl ?_
          exact v_sub [2, 3, 4, 5, 1, 0, 6] rfl (hk15 v9 r14.1)
        · refine v_if_lt C dX6_worst_75 (tgt := 89) (by decide) ?_ ?_
          · exact v_sub [1, 2, 3, 4, 7, 0] rfl (hk19)
          · refine v_lload C 0 dX6_worst_78 rfl ?_
            refine v_lload C 6 dX6_worst_80 rfl ?_
            refine v_lcmp_gt C dX6_worst_82 dX6_worst_83 (tgt := 89) (by decide) ?_ ?_
            · exact v_sub [1, 2, 3, 4, 7, 0] rfl (hk19)
            · refine v_goto C dX6_worst_86 (tgt := 97) (by decide) ?_
              exact v_sub [1, 2, 3, 4, 5, 6, 7] rfl (hk15 v7 v8)

set_option maxRecDepth 100000 in
set_option maxHeartbeats 4000000 in
theorem k_X6_worst {l : Launch} {a1 : Int32} {a2 : Int32} {a3 : Int32}  {res : Int32 × Bool} (hq : (mA q).Nodup) (hNK : NOK N)  (hf : f_X6_worst isB g ct it a1 a2 a3 = some res) : kMet l yX6_worst wsX6_worst { frames := 2, cells := 0, slots := 0, locals := 52 } D vwCl (mT cs) N (mA q) [.ref (q 0), .int a1, .int a2, .int a3] (mW q cs isK isB fed at_ ltr ab ps g kp nx fa tp rs rv ct it) (some (.int res.1)) (mW q cs isK res.2 fed at_ ltr ab ps g kp nx fa tp rs rv ct it) := by
  have iX6 : ∀ w ∈ wsX60, w ∈ wsX6_worst := fun _ h => List.mem_cons_of_mem _ (List.mem_append_right _ h)
  refine kMet.of (cc := cX6_worst) (nL := 10) (ret := (some .int)) (own := RX6) (lv := [(0, .ref (q 0)), (1, .int a1), (2, .int a2), (3, .int a3)]) (by decide +kernel) rfl rfl hNK hq (Nat.le_of_ble_eq_true rfl) rfl (fun X C => ?_)
  refine VF.of hf ?_
  unfold f_X6_worst
  refine v_iload_n C 1 dX6_worst_0 rfl ?_
  refine v_callSP1v C (fun l9 r9 h9 => k_X6_isGame (l := l9) h9) gX6_worst_X6_isGame rfl nI_X6_isGame ⟨rfl, rfl, Nat.le_of_ble_eq_true rfl, Nat.le_of_ble_eq_true rfl⟩ dX6_worst_1 (Nat.le_of_ble_eq_true rfl) (fun r1 => ?_)
  refine v_ifb_eq C (b := r1) dX6_worst_4 (tgt := 14) (by decide) ?_ ?_
  · refine v_iconst C dX6_worst_14 (v := (-1)) (by decide) ?_
    exact v_iret (rvf := fun (res : Int32 × Bool) => (some (.int res.1))) (wf := fun (res : Int32 × Bool) => (mW q cs isK res.2 fed at_ ltr ab ps g kp nx fa tp rs rv ct it)) C dX6_worst_15 rfl rfl
  · refine v_iload_n C 2 dX6_worst_7 rfl ?_
    refine v_callSP1v C (fun l9 r9 h9 => k_X6_isRow (l := l9) h9) gX6_worst_X6_isRow rfl nI_X6_isRow ⟨rfl, rfl, Nat.le_of_ble_eq_true rfl, Nat.le_of_ble_eq_true rfl⟩ dX6_worst_8 (Nat.le_of_ble_eq_true rfl) (fun r2 => ?_)
    refine v_ifb_ne C (b := r2) dX6_worst_11 (tgt := 16) (by decide) ?_ ?_
    · refine v_aload_n C 0 dX6_worst_16 rfl ?_
      refine v_iload_n C 2 dX6_worst_17 rfl ?_
      refine v_iload_n C 3 dX6_worst_18 rfl ?_
      refine v_callV2v C 0 rfl rfl rfl (fun l9 r9 h9 => k_X6_isThere (l := l9) hq hNK  h9) gX6_worst_X6_isThere rfl nI_X6_isThere ⟨rfl, rfl, Nat.le_of_ble_eq_true rfl, Nat.le_of_ble_eq_true rfl⟩ dX6_worst_19 (Nat.le_of_ble_eq_true rfl) (fun r3 => ?_)
      refine v_ifb_ne C (b := r3) dX6_worst_22 (tgt := 28) (by decide) ?_ ?_
      · refine v_aload_n C 0 dX6_worst_28 rfl ?_
        refine v_iconst C dX6_worst_29 (v := 0) (by decide) ?_
        refine v_put_nm C (v := false) (fun z9 => Value.int (bI z9)) (ty := .boolean) (T := TX6) (n := 16) (C9 := RX6) (ty0 := tyX6) (fun isB4 => (mW q cs isK isB4 fed at_ ltr ab ps g kp nx fa tp rs rv ct it)) iX6 tyX6_ok nmX6 0 rfl rfl rfl 5 (by decide) (List.mem_of_getElem? (i := 1) rfl) rfl rfl rfl bI_nar bI_fit (Nat.le_of_ble_eq_true rfl) (fun _ => rfl) dX6_worst_30 (fun isB4 => ?_)
        refine v_bipush C dX6_worst_33 (v := (-5)) (by decide) ?_
        refine v_istore C (lv' := [(4, .int (-5)), (0, .ref (q 0)), (1, .int a1), (2, .int a2), (3, .int a3)]) dX6_worst_35 (by decide) rfl ?_
        refine v_lconst C dX6_worst_37 (v := 0) (by decide) ?_
        refine v_lstore C (lv' := [(5, .long 0), (4, .int (-5)), (0, .ref (q 0)), (1, .int a1), (2, .int a2), (3, .int a3)]) dX6_worst_38 (by decide) rfl ?_
        refine v_iconst C dX6_worst_40 (v := 1) (by decide) ?_
        refine v_istore C (lv' := [(7, .int 1), (5, .long 0), (4, .int (-5)), (0, .ref (q 0)), (1, .int a1), (2, .int a2), (3, .int a3)]) dX6_worst_41 (by decide) rfl ?_
        refine v_sub [3, 4, 5, 6, 2, 1, 0] rfl (lp_X6_worst_1 hq hNK C  _ (fun v20 isB21 => ?_) FU (-5) 0 1 isB4)
        refine v_aload_n C 0 dX6_worst_103 rfl ?_
        refine v_get C (T := TX6) (n := 16) (C9 := RX6) iX6 0 rfl rfl 5 (by decide) (List.mem_of_getElem? (i := 1) rfl) rfl rfl dX6_worst_104 ?_
        refine v_ifb_eq C (b := isB21) dX6_worst_107 (tgt := 115) (by decide) ?_ ?_
        · refine v_iload C 1 dX6_worst_115 rfl ?_
          exact v_iret (rvf := fun (res : Int32 × Bool) => (some (.int res.1))) (wf := fun (res : Int32 × Bool) => (mW q cs isK res.2 fed at_ ltr ab ps g kp nx fa tp rs rv ct it)) C dX6_worst_117 rfl rfl
        · refine v_bipush C dX6_worst_110 (v := (-6)) (by decide) ?_
          refine v_goto C dX6_worst_112 (tgt := 117) (by decide) ?_
          exact v_iret (rvf := fun (res : Int32 × Bool) => (some (.int res.1))) (wf := fun (res : Int32 × Bool) => (mW q cs isK res.2 fed at_ ltr ab ps g kp nx fa tp rs rv ct it)) C dX6_worst_117 rfl rfl
      · refine v_bipush C dX6_worst_25 (v := (-3)) (by decide) ?_
        exact v_iret (rvf := fun (res : Int32 × Bool) => (some (.int res.1))) (wf := fun (res : Int32 × Bool) => (mW q cs isK res.2 fed at_ ltr ab ps g kp nx fa tp rs rv ct it)) C dX6_worst_27 rfl rfl
    · refine v_iconst C dX6_worst_14 (v := (-1)) (by decide) ?_
      exact v_iret (rvf := fun (res : Int32 × Bool) => (some (.int res.1))) (wf := fun (res : Int32 × Bool) => (mW q cs isK res.2 fed at_ ltr ab ps g kp nx fa tp rs rv ct it)) C dX6_worst_15 rfl rfl

def f_X6_excess (isB : Bool) (g : Nat → Int64) (ct : Nat → Int32) (it : Nat → Int64) (a1 : Int32) (a2 : Int32) (a3 : Int32) (a4 : Int32) : Option (Int64 × Bool) :=
(f_X6_isGame a1).bind (fun (r1 : Bool) =>
if r1 = true then (
(f_X6_isRow a2).bind (fun (r2 : Bool) =>
if r2 = true then (
(f_X6_isSet g a4).bind (fun (r3 : Bool) =>
if r3 = true then (
(f_X6_isThere g ct a2 a3).bind (fun (r4 : Bool) =>
if r4 = true then (
nm false (fun (isB5 : Bool) =>
(f_X6_v g a1 a4).bind (fun (r6 : Int64) =>
(f_X6_summed isB5 g it a2 a3 a4).bind (fun (r7 : Int64 × Bool) =>
(f_X6_minus r7.2 r6 r7.1).bind (fun (r8 : Int64 × Bool) =>
if r8.2 = true then (
some ((-9223372036854775808), r8.2)) else (
some (r8.1, r8.2))))))) else (
some ((-9223372036854775808), isB)))) else (
some ((-9223372036854775808), isB)))) else (
some ((-9223372036854775808), isB)))) else (
some ((-9223372036854775808), isB)))

theorem nI_X6_excess : NameIn yX6_excess 4 := ⟨by decide +kernel, by decide +kernel, by decide +kernel⟩
set_option maxRecDepth 100000 in
set_option maxHeartbeats 4000000 in
theorem k_X6_excess {l : Launch} {a1 : Int32} {a2 : Int32} {a3 : Int32} {a4 : Int32}  {res : Int64 × Bool} (hq : (mA q).Nodup) (hNK : NOK N)  (hf : f_X6_excess isB g ct it a1 a2 a3 a4 = some res) : kMet l yX6_excess wsX6_excess { frames := 3, cells := 0, slots := 0, locals := 61 } D vwCl (mT cs) N (mA q) [.ref (q 0), .int a1, .int a2, .int a3, .int a4] (mW q cs isK isB fed at_ ltr ab ps g kp nx fa tp rs rv ct it) (some (.long res.1)) (mW q cs isK res.2 fed at_ ltr ab ps g kp nx fa tp rs rv ct it) := by
  have iX6 : ∀ w ∈ wsX60, w ∈ wsX6_excess := fun _ h => List.mem_cons_of_mem _ (List.mem_append_right _ h)
  refine kMet.of (cc := cX6_excess) (nL := 7) (ret := (some .long)) (own := RX6) (lv := [(0, .ref (q 0)), (1, .int a1), (2, .int a2), (3, .int a3), (4, .int a4)]) (by decide +kernel) rfl rfl hNK hq (Nat.le_of_ble_eq_true rfl) rfl (fun X C => ?_)
  refine VF.of hf ?_
  unfold f_X6_excess
  refine v_iload_n C 1 dX6_excess_0 rfl ?_
  refine v_callSP1v C (fun l9 r9 h9 => k_X6_isGame (l := l9) h9) gX6_excess_X6_isGame rfl nI_X6_isGame ⟨rfl, rfl, Nat.le_of_ble_eq_true rfl, Nat.le_of_ble_eq_true rfl⟩ dX6_excess_1 (Nat.le_of_ble_eq_true rfl) (fun r1 => ?_)
  refine v_ifb_eq C (b := r1) dX6_excess_4 (tgt := 32) (by decide) ?_ ?_
  · refine v_ldc2 C (v := (-9223372036854775808)) (List.mem_of_getElem? (i := 1) rfl) dX6_excess_32 ?_
    exact v_lret (rvf := fun (res : Int64 × Bool) => (some (.long res.1))) (wf := fun (res : Int64 × Bool) => (mW q cs isK res.2 fed at_ ltr ab ps g kp nx fa tp rs rv ct it)) C dX6_excess_35 rfl rfl
  · refine v_iload_n C 2 dX6_excess_7 rfl ?_
    refine v_callSP1v C (fun l9 r9 h9 => k_X6_isRow (l := l9) h9) gX6_excess_X6_isRow rfl nI_X6_isRow ⟨rfl, rfl, Nat.le_of_ble_eq_true rfl, Nat.le_of_ble_eq_true rfl⟩ dX6_excess_8 (Nat.le_of_ble_eq_true rfl) (fun r2 => ?_)
    refine v_ifb_eq C (b := r2) dX6_excess_11 (tgt := 32) (by decide) ?_ ?_
    · refine v_ldc2 C (v := (-9223372036854775808)) (List.mem_of_getElem? (i := 1) rfl) dX6_excess_32 ?_
      exact v_lret (rvf := fun (res : Int64 × Bool) => (some (.long res.1))) (wf := fun (res : Int64 × Bool) => (mW q cs isK res.2 fed at_ ltr ab ps g kp nx fa tp rs rv ct it)) C dX6_excess_35 rfl rfl
    · refine v_aload_n C 0 dX6_excess_14 rfl ?_
      refine v_iload C 4 dX6_excess_15 rfl ?_
      refine v_callV1v C 0 rfl rfl rfl (fun l9 r9 h9 => k_X6_isSet (l := l9) hq hNK  h9) gX6_excess_X6_isSet rfl nI_X6_isSet ⟨rfl, rfl, Nat.le_of_ble_eq_true rfl, Nat.le_of_ble_eq_true rfl⟩ dX6_excess_17 (Nat.le_of_ble_eq_true rfl) (fun r3 => ?_)
      refine v_ifb_eq C (b := r3) dX6_excess_20 (tgt := 32) (by decide) ?_ ?_
      · refine v_ldc2 C (v := (-9223372036854775808)) (List.mem_of_getElem? (i := 1) rfl) dX6_excess_32 ?_
        exact v_lret (rvf := fun (res : Int64 × Bool) => (some (.long res.1))) (wf := fun (res : Int64 × Bool) => (mW q cs isK res.2 fed at_ ltr ab ps g kp nx fa tp rs rv ct it)) C dX6_excess_35 rfl rfl
      · refine v_aload_n C 0 dX6_excess_23 rfl ?_
        refine v_iload_n C 2 dX6_excess_24 rfl ?_
        refine v_iload_n C 3 dX6_excess_25 rfl ?_
        refine v_callV2v C 0 rfl rfl rfl (fun l9 r9 h9 => k_X6_isThere (l := l9) hq hNK  h9) gX6_excess_X6_isThere rfl nI_X6_isThere ⟨rfl, rfl, Nat.le_of_ble_eq_true rfl, Nat.le_of_ble_eq_true rfl⟩ dX6_excess_26 (Nat.le_of_ble_eq_true rfl) (fun r4 => ?_)
        refine v_ifb_ne C (b := r4) dX6_excess_29 (tgt := 36) (by decide) ?_ ?_
        · refine v_aload_n C 0 dX6_excess_36 rfl ?_
          refine v_iconst C dX6_excess_37 (v := 0) (by decide) ?_
          refine v_put_nm C (v := false) (fun z9 => Value.int (bI z9)) (ty := .boolean) (T := TX6) (n := 16) (C9 := RX6) (ty0 := tyX6) (fun isB5 => (mW q cs isK isB5 fed at_ ltr ab ps g kp nx fa tp rs rv ct it)) iX6 tyX6_ok nmX6 0 rfl rfl rfl 5 (by decide) (List.mem_of_getElem? (i := 2) rfl) rfl rfl rfl bI_nar bI_fit (Nat.le_of_ble_eq_true rfl) (fun _ => rfl) dX6_excess_38 (fun isB5 => ?_)
          refine v_aload_n C 0 dX6_excess_41 rfl ?_
          refine v_aload_n C 0 dX6_excess_42 rfl ?_
          refine v_iload_n C 1 dX6_excess_43 rfl ?_
          refine v_iload C 4 dX6_excess_44 rfl ?_
          refine v_callV2v C 0 rfl rfl rfl (fun l9 r9 h9 => k_X6_v (l := l9) hq hNK  h9) gX6_excess_X6_v rfl nI_X6_v ⟨rfl, rfl, Nat.le_of_ble_eq_true rfl, Nat.le_of_ble_eq_true rfl⟩ dX6_excess_46 (Nat.le_of_ble_eq_true rfl) (fun r6 => ?_)
          refine v_aload_n C 0 dX6_excess_49 rfl ?_
          refine v_iload_n C 2 dX6_excess_50 rfl ?_
          refine v_iload_n C 3 dX6_excess_51 rfl ?_
          refine v_iload C 4 dX6_excess_52 rfl ?_
          refine v_callV3v C 0 rfl rfl rfl (fun l9 r9 h9 => k_X6_summed (l := l9) hq hNK  h9) gX6_excess_X6_summed rfl nI_X6_summed ⟨rfl, rfl, Nat.le_of_ble_eq_true rfl, Nat.le_of_ble_eq_true rfl⟩ dX6_excess_54 (Nat.le_of_ble_eq_true rfl) (fun r7 => ?_)
          refine v_callV2v C 0 rfl rfl rfl (fun l9 r9 h9 => k_X6_minus (l := l9) hq hNK  h9) gX6_excess_X6_minus rfl nI_X6_minus ⟨rfl, rfl, Nat.le_of_ble_eq_true rfl, Nat.le_of_ble_eq_true rfl⟩ dX6_excess_57 (Nat.le_of_ble_eq_true rfl) (fun r8 => ?_)
          refine v_lstore C (lv' := [(5, .long r8.1), (0, .ref (q 0)), (1, .int a1), (2, .int a2), (3, .int a3), (4, .int a4)]) dX6_excess_60 (by decide) rfl ?_
          refine v_aload_n C 1 dX6_excess_62 rfl ?_
          refine v_get C (T := TX6) (n := 16) (C9 := RX6) iX6 0 rfl rfl 5 (by decide) (List.mem_of_getElem? (i := 2) rfl) rfl rfl dX6_excess_63 ?_
          refine v_ifb_eq C (b := r8.2) dX6_excess_66 (tgt := 75) (by decide) ?_ ?_
          · refine v_lload C 0 dX6_excess_75 rfl ?_
            exact v_lret (rvf := fun (res : Int64 × Bool) => (some (.long res.1))) (wf := fun (res : Int64 × Bool) => (mW q cs isK res.2 fed at_ ltr ab ps g kp nx fa tp rs rv ct it)) C dX6_excess_77 rfl rfl
          · refine v_ldc2 C (v := (-9223372036854775808)) (List.mem_of_getElem? (i := 1) rfl) dX6_excess_69 ?_
            refine v_goto C dX6_excess_72 (tgt := 77) (by decide) ?_
            exact v_lret (rvf := fun (res : Int64 × Bool) => (some (.long res.1))) (wf := fun (res : Int64 × Bool) => (mW q cs isK res.2 fed at_ ltr ab ps g kp nx fa tp rs rv ct it)) C dX6_excess_77 rfl rfl
        · refine v_ldc2 C (v := (-9223372036854775808)) (List.mem_of_getElem? (i := 1) rfl) dX6_excess_32 ?_
          exact v_lret (rvf := fun (res : Int64 × Bool) => (some (.long res.1))) (wf := fun (res : Int64 × Bool) => (mW q cs isK res.2 fed at_ ltr ab ps g kp nx fa tp rs rv ct it)) C dX6_excess_35 rfl rfl

def B_X6_edges_1 (g : Nat → Int64) (rec1 : Int32 → Int32 → Option (Int32))  (v2 : Int32) (v3 : Int32) : Option (Int32) :=
if (v3 : Int32) < 81 then (
ck (inb (21 + v3) 2231) (
nm (v2 + ((g (21 + v3).toNatClampNeg).toInt32)) (fun (x4 : Int32) =>
nm (v3 + 1) (fun (x5 : Int32) =>
rec1 x4 x5)))) else (
some v2)
def L_X6_edges_1 (g : Nat → Int64)  : Nat → Int32 → Int32 → Option (Int32)
  | 0, _, _ => none
  | m9 + 1, v2, v3 => B_X6_edges_1 g (L_X6_edges_1 g m9)  v2 v3

def f_X6_edges (g : Nat → Int64) : Option (Int32) :=
L_X6_edges_1 g  FU 0 0

theorem nI_X6_edges : NameIn yX6_edges 0 := ⟨by decide +kernel, by decide +kernel, by decide +kernel⟩
set_option maxRecDepth 100000 in
set_option maxHeartbeats 4000000 in
theorem lp_X6_edges_1 {X : CX} {res : Int32}    (hq : (mA q).Nodup) (hNK : NOK N) (C : Ok X cX6_edges 3 (some .int) wsX6_edges RX6 { frames := 0, cells := 0, slots := 0, locals := 0 } D vwCl (mT cs) (mA q) N (some (.int res)) (mW q cs isK isB fed at_ ltr ab ps g kp nx fa tp rs rv ct it))  : ∀ fuel : Nat, ∀ v2 : Int32, ∀ v3 : Int32, VF X res (L_X6_edges_1 g fuel v2 v3) (mW q cs isK isB fed at_ ltr ab ps g kp nx fa tp rs rv ct it) 4 [(0, .ref (q 0)), (1, .int v2), (2, .int v3)] [] := by
  have iX6 : ∀ w ∈ wsX60, w ∈ wsX6_edges := fun _ h => List.mem_cons_of_mem _ (List.mem_append_right _ h)
  intro fuel
  induction fuel with
  | zero =>
    intro _ _
    exact v_none
  | succ fuel ih =>
    intro v2 v3
    show VF X res (B_X6_edges_1 g (L_X6_edges_1 g fuel)  v2 v3) _ _ _ _
    unfold B_X6_edges_1
    refine v_iload_n C 2 dX6_edges_4 rfl ?_
    refine v_bipush C dX6_edges_5 (v := 81) (by decide) ?_
    refine v_icmp_ge C dX6_edges_7 (tgt := 29) (by decide) ?_ ?_
    · refine v_iload_n C 1 dX6_edges_29 rfl ?_
      exact v_iret (rvf := fun (res : Int32) => (some (.int res))) (wf := fun (res : Int32) => (mW q cs isK isB fed at_ ltr ab ps g kp nx fa tp rs rv ct it)) C dX6_edges_30 rfl rfl
    · refine v_iload_n C 1 dX6_edges_10 rfl ?_
      refine v_aload_n C 0 dX6_edges_11 rfl ?_
      refine v_get C (T := TX6) (n := 16) (C9 := RX6) iX6 0 rfl rfl 0 (by decide) (List.mem_of_getElem? (i := 1) rfl) rfl rfl dX6_edges_12 ?_
      refine v_bipush C dX6_edges_15 (v := 21) (by decide) ?_
      refine v_iload_n C 2 dX6_edges_17 rfl ?_
      refine v_iadd C dX6_edges_18 ?_
      refine v_lald C 1 1 rfl rfl dX6_edges_19 ?_
      refine v_l2i C dX6_edges_20 ?_
      refine v_iadd C dX6_edges_21 ?_
      refine v_istore_n_nm C (lvf := fun x4 => [(1, .int x4), (0, .ref (q 0)), (2, .int v3)]) dX6_edges_22 rfl (by decide) (fun _ => rfl) (fun x4 => ?_)
      refine v_iinc_nm C (lvf := fun x5 => [(2, .int x5), (1, .int x4), (0, .ref (q 0))]) 2 dX6_edges_23 rfl rfl (by decide) (fun _ => rfl) (fun x5 => ?_)
      refine v_goto C dX6_edges_26 (tgt := 4) (by decide) ?_
      exact v_sub [2, 1, 0] rfl (ih x4 x5)

set_option maxRecDepth 100000 in
set_option maxHeartbeats 4000000 in
theorem k_X6_edges {l : Launch}   {res : Int32} (hq : (mA q).Nodup) (hNK : NOK N)  (hf : f_X6_edges g = some res) : kMet l yX6_edges wsX6_edges { frames := 0, cells := 0, slots := 0, locals := 0 } D vwCl (mT cs) N (mA q) [.ref (q 0)] (mW q cs isK isB fed at_ ltr ab ps g kp nx fa tp rs rv ct it) (some (.int res)) (mW q cs isK isB fed at_ ltr ab ps g kp nx fa tp rs rv ct it) := by
  refine kMet.of (cc := cX6_edges) (nL := 3) (ret := (some .int)) (own := RX6) (lv := [(0, .ref (q 0))]) (by decide +kernel) rfl rfl hNK hq (Nat.le_of_ble_eq_true rfl) rfl (fun X C => ?_)
  refine VF.of hf ?_
  unfold f_X6_edges
  refine v_iconst C dX6_edges_0 (v := 0) (by decide) ?_
  refine v_istore_n C (lv' := [(1, .int 0), (0, .ref (q 0))]) dX6_edges_1 rfl (by decide) rfl ?_
  refine v_iconst C dX6_edges_2 (v := 0) (by decide) ?_
  refine v_istore_n C (lv' := [(2, .int 0), (1, .int 0), (0, .ref (q 0))]) dX6_edges_3 rfl (by decide) rfl ?_
  refine v_sub [2, 1, 0] rfl (lp_X6_edges_1 hq hNK C   FU 0 0)

def B_X6_row_1 (a1 : Int32) (a2 : Int32) (ct2 : Nat → Int32) (rec3 : Int32 → (Nat → Int64) → Option (Int32 × (Nat → Int32) × (Nat → Int64)))  (v4 : Int32) (it5 : Nat → Int64) : Option (Int32 × (Nat → Int32) × (Nat → Int64)) :=
if (v4 : Int32) < a2 then (
ck (inb ((20 * a1) + v4) 80) (
nm (vp_updL it5 ((20 * a1) + v4).toNatClampNeg 0) (fun (it6 : Nat → Int64) =>
nm (v4 + 1) (fun (x7 : Int32) =>
rec3 x7 it6)))) else (
some (1, ct2, it5))
def L_X6_row_1 (a1 : Int32) (a2 : Int32) (ct2 : Nat → Int32)  : Nat → Int32 → (Nat → Int64) → Option (Int32 × (Nat → Int32) × (Nat → Int64))
  | 0, _, _ => none
  | m9 + 1, v4, it5 => B_X6_row_1 a1 a2 ct2 (L_X6_row_1 a1 a2 ct2 m9)  v4 it5

def f_X6_row (ct : Nat → Int32) (it : Nat → Int64) (a1 : Int32) (a2 : Int32) : Option (Int32 × (Nat → Int32) × (Nat → Int64)) :=
(f_X6_isRow a1).bind (fun (r1 : Bool) =>
if r1 = true then (
if (20 : Int32) < a2 then (
some ((-2), ct, it)) else (
if (a2 : Int32) < 0 then (
some ((-14), ct, it)) else (
ck (inb a1 4) (
nm (upd ct a1.toNatClampNeg a2) (fun (ct2 : Nat → Int32) =>
L_X6_row_1 a1 a2 ct2  FU 0 it))))) else (
some ((-1), ct, it)))

theorem nI_X6_row : NameIn yX6_row 2 := ⟨by decide +kernel, by decide +kernel, by decide +kernel⟩
set_option maxRecDepth 100000 in
set_option maxHeartbeats 4000000 in
theorem lp_X6_row_1 {X : CX} {res : Int32 × (Nat → Int32) × (Nat → Int64)} {a1 : Int32} {a2 : Int32}  {ct2 : Nat → Int32} (hq : (mA q).Nodup) (hNK : NOK N) (C : Ok X cX6_row 4 (some .int) wsX6_row RX6 { frames := 2, cells := 0, slots := 0, locals := 45 } D vwCl (mT cs) (mA q) N (some (.int res.1)) (mW q cs isK isB fed at_ ltr ab ps g kp nx fa tp rs rv res.2.1 res.2.2))  : ∀ fuel : Nat, ∀ v4 : Int32, ∀ it5 : Nat → Int64, VF X res (L_X6_row_1 a1 a2 ct2 fuel v4 it5) (mW q cs isK isB fed at_ ltr ab ps g kp nx fa tp rs rv ct2 it5) 34 [(0, .ref (q 0)), (1, .int a1), (2, .int a2), (3, .int v4)] [] := by
  have iX6 : ∀ w ∈ wsX60, w ∈ wsX6_row := fun _ h => List.mem_cons_of_mem _ (List.mem_append_right _ h)
  intro fuel
  induction fuel with
  | zero =>
    intro _ _
    exact v_none
  | succ fuel ih =>
    intro v4 it5
    show VF X res (B_X6_row_1 a1 a2 ct2 (L_X6_row_1 a1 a2 ct2 fuel)  v4 it5) _ _ _ _
    unfold B_X6_row_1
    refine v_iload_n C 3 dX6_row_34 rfl ?_
    refine v_iload_n C 2 dX6_row_35 rfl ?_
    refine v_icmp_ge C dX6_row_36 (tgt := 57) (by decide) ?_ ?_
    · refine v_iconst C dX6_row_57 (v := 1) (by decide) ?_
      exact v_iret (rvf := fun (res : Int32 × (Nat → Int32) × (Nat → Int64)) => (some (.int res.1))) (wf := fun (res : Int32 × (Nat → Int32) × (Nat → Int64)) => (mW q cs isK isB fed at_ ltr ab ps g kp nx fa tp rs rv res.2.1 res.2.2)) C dX6_row_58 rfl rfl
    · refine v_aload_n C 0 dX6_row_39 rfl ?_
      refine v_get C (T := TX6) (n := 16) (C9 := RX6) iX6 0 rfl rfl 15 (by decide) (List.mem_of_getElem? (i := 2) rfl) rfl rfl dX6_row_40 ?_
      refine v_bipush C dX6_row_43 (v := 20) (by decide) ?_
      refine v_iload_n C 1 dX6_row_45 rfl ?_
      refine v_imul C dX6_row_46 ?_
      refine v_iload_n C 3 dX6_row_47 rfl ?_
      refine v_iadd C dX6_row_48 ?_
      refine v_lconst C dX6_row_49 (v := 0) (by decide) ?_
      refine v_last_nm C (fun it6 => (mW q cs isK isB fed at_ ltr ab ps g kp nx fa tp rs rv ct2 it6)) 9 1 rfl rfl rfl (fun _ => rfl) dX6_row_50 (fun it6 => ?_)
      refine v_iinc_nm C (lvf := fun x7 => [(3, .int x7), (0, .ref (q 0)), (1, .int a1), (2, .int a2)]) 3 dX6_row_51 rfl rfl (by decide) (fun _ => rfl) (fun x7 => ?_)
      refine v_goto C dX6_row_54 (tgt := 34) (by decide) ?_
      exact v_sub [1, 2, 3, 0] rfl (ih x7 it6)

set_option maxRecDepth 100000 in
set_option maxHeartbeats 4000000 in
theorem k_X6_row {l : Launch} {a1 : Int32} {a2 : Int32}  {res : Int32 × (Nat → Int32) × (Nat → Int64)} (hq : (mA q).Nodup) (hNK : NOK N)  (hf : f_X6_row ct it a1 a2 = some res) : kMet l yX6_row wsX6_row { frames := 2, cells := 0, slots := 0, locals := 45 } D vwCl (mT cs) N (mA q) [.ref (q 0), .int a1, .int a2] (mW q cs isK isB fed at_ ltr ab ps g kp nx fa tp rs rv ct it) (some (.int res.1)) (mW q cs isK isB fed at_ ltr ab ps g kp nx fa tp rs rv res.2.1 res.2.2) := by
  have iX6 : ∀ w ∈ wsX60, w ∈ wsX6_row := fun _ h => List.mem_cons_of_mem _ (List.mem_append_right _ h)
  refine kMet.of (cc := cX6_row) (nL := 4) (ret := (some .int)) (own := RX6) (lv := [(0, .ref (q 0)), (1, .int a1), (2, .int a2)]) (by decide +kernel) rfl rfl hNK hq (Nat.le_of_ble_eq_true rfl) rfl (fun X C => ?_)
  refine VF.of hf ?_
  unfold f_X6_row
  refine v_iload_n C 1 dX6_row_0 rfl ?_
  refine v_callSP1v C (fun l9 r9 h9 => k_X6_isRow (l := l9) h9) gX6_row_X6_isRow rfl nI_X6_isRow ⟨rfl, rfl, Nat.le_of_ble_eq_true rfl, Nat.le_of_ble_eq_true rfl⟩ dX6_row_1 (Nat.le_of_ble_eq_true rfl) (fun r1 => ?_)
  refine v_ifb_ne C (b := r1) dX6_row_4 (tgt := 9) (by decide) ?_ ?_
  · refine v_iload_n C 2 dX6_row_9 rfl ?_
    refine v_bipush C dX6_row_10 (v := 20) (by decide) ?_
    refine v_icmp_le C dX6_row_12 (tgt := 18) (by decide) ?_ ?_
    · refine v_iload_n C 2 dX6_row_18 rfl ?_
      refine v_if_ge C dX6_row_19 (tgt := 25) (by decide) ?_ ?_
      · refine v_aload_n C 0 dX6_row_25 rfl ?_
        refine v_get C (T := TX6) (n := 16) (C9 := RX6) iX6 0 rfl rfl 14 (by decide) (List.mem_of_getElem? (i := 1) rfl) rfl rfl dX6_row_26 ?_
        refine v_iload_n C 1 dX6_row_29 rfl ?_
        refine v_iload_n C 2 dX6_row_30 rfl ?_
        refine v_iast_nm C (fun ct2 => (mW q cs isK isB fed at_ ltr ab ps g kp nx fa tp rs rv ct2 it)) 8 0 rfl rfl rfl (fun _ => rfl) dX6_row_31 (fun ct2 => ?_)
        refine v_iconst C dX6_row_32 (v := 0) (by decide) ?_
        refine v_istore_n C (lv' := [(3, .int 0), (0, .ref (q 0)), (1, .int a1), (2, .int a2)]) dX6_row_33 rfl (by decide) rfl ?_
        refine v_sub [1, 2, 3, 0] rfl (lp_X6_row_1 hq hNK C   FU 0 it)
      · refine v_bipush C dX6_row_22 (v := (-14)) (by decide) ?_
        exact v_iret (rvf := fun (res : Int32 × (Nat → Int32) × (Nat → Int64)) => (some (.int res.1))) (wf := fun (res : Int32 × (Nat → Int32) × (Nat → Int64)) => (mW q cs isK isB fed at_ ltr ab ps g kp nx fa tp rs rv res.2.1 res.2.2)) C dX6_row_24 rfl rfl
    · refine v_bipush C dX6_row_15 (v := (-2)) (by decide) ?_
      exact v_iret (rvf := fun (res : Int32 × (Nat → Int32) × (Nat → Int64)) => (some (.int res.1))) (wf := fun (res : Int32 × (Nat → Int32) × (Nat → Int64)) => (mW q cs isK isB fed at_ ltr ab ps g kp nx fa tp rs rv res.2.1 res.2.2)) C dX6_row_17 rfl rfl
  · refine v_iconst C dX6_row_7 (v := (-1)) (by decide) ?_
    exact v_iret (rvf := fun (res : Int32 × (Nat → Int32) × (Nat → Int64)) => (some (.int res.1))) (wf := fun (res : Int32 × (Nat → Int32) × (Nat → Int64)) => (mW q cs isK isB fed at_ ltr ab ps g kp nx fa tp rs rv res.2.1 res.2.2)) C dX6_row_8 rfl rfl

def f_X6_set (ct : Nat → Int32) (it : Nat → Int64) (a1 : Int32) (a2 : Int32) (a3 : Int64) : Option (Int32 × (Nat → Int64)) :=
(f_X6_isRow a1).bind (fun (r1 : Bool) =>
if r1 = true then (
ck (inb a1 4) (
if (ct a1.toNatClampNeg : Int32) < 0 then (
some ((-11), it)) else (
ck (inb a1 4) (
(f_X6_isIn a2.toInt64 0 (((ct a1.toNatClampNeg) - 1).toInt64)).bind (fun (r2 : Bool) =>
if r2 = true then (
ck (inb ((20 * a1) + a2) 80) (
nm (vp_updL it ((20 * a1) + a2).toNatClampNeg a3) (fun (it3 : Nat → Int64) =>
some (1, it3)))) else (
some ((-13), it))))))) else (
some ((-1), it)))

theorem nI_X6_set : NameIn yX6_set 3 := ⟨by decide +kernel, by decide +kernel, by decide +kernel⟩
set_option maxRecDepth 100000 in
set_option maxHeartbeats 4000000 in
theorem k_X6_set {l : Launch} {a1 : Int32} {a2 : Int32} {a3 : Int64}  {res : Int32 × (Nat → Int64)} (hq : (mA q).Nodup) (hNK : NOK N)  (hf : f_X6_set ct it a1 a2 a3 = some res) : kMet l yX6_set wsX6_set { frames := 2, cells := 0, slots := 0, locals := 45 } D vwCl (mT cs) N (mA q) [.ref (q 0), .int a1, .int a2, .long a3] (mW q cs isK isB fed at_ ltr ab ps g kp nx fa tp rs rv ct it) (some (.int res.1)) (mW q cs isK isB fed at_ ltr ab ps g kp nx fa tp rs rv ct res.2) := by
  have iX6 : ∀ w ∈ wsX60, w ∈ wsX6_set := fun _ h => List.mem_cons_of_mem _ (List.mem_append_right _ h)
  refine kMet.of (cc := cX6_set) (nL := 5) (ret := (some .int)) (own := RX6) (lv := [(0, .ref (q 0)), (1, .int a1), (2, .int a2), (3, .long a3)]) (by decide +kernel) rfl rfl hNK hq (Nat.le_of_ble_eq_true rfl) rfl (fun X C => ?_)
  refine VF.of hf ?_
  unfold f_X6_set
  refine v_iload_n C 1 dX6_set_0 rfl ?_
  refine v_callSP1v C (fun l9 r9 h9 => k_X6_isRow (l := l9) h9) gX6_set_X6_isRow rfl nI_X6_isRow ⟨rfl, rfl, Nat.le_of_ble_eq_true rfl, Nat.le_of_ble_eq_true rfl⟩ dX6_set_1 (Nat.le_of_ble_eq_true rfl) (fun r1 => ?_)
  refine v_ifb_ne C (b := r1) dX6_set_4 (tgt := 9) (by decide) ?_ ?_
  · refine v_aload_n C 0 dX6_set_9 rfl ?_
    refine v_get C (T := TX6) (n := 16) (C9 := RX6) iX6 0 rfl rfl 14 (by decide) (List.mem_of_getElem? (i := 1) rfl) rfl rfl dX6_set_10 ?_
    refine v_iload_n C 1 dX6_set_13 rfl ?_
    refine v_iald C 8 0 rfl rfl dX6_set_14 ?_
    refine v_if_ge C dX6_set_15 (tgt := 21) (by decide) ?_ ?_
    · refine v_iload_n C 2 dX6_set_21 rfl ?_
      refine v_i2l C dX6_set_22 ?_
      refine v_lconst C dX6_set_23 (v := 0) (by decide) ?_
      refine v_aload_n C 0 dX6_set_24 rfl ?_
      refine v_get C (T := TX6) (n := 16) (C9 := RX6) iX6 0 rfl rfl 14 (by decide) (List.mem_of_getElem? (i := 1) rfl) rfl rfl dX6_set_25 ?_
      refine v_iload_n C 1 dX6_set_28 rfl ?_
      refine v_iald C 8 0 rfl rfl dX6_set_29 ?_
      refine v_iconst C dX6_set_30 (v := 1) (by decide) ?_
      refine v_isub C dX6_set_31 ?_
      refine v_i2l C dX6_set_32 ?_
      refine v_callSP3v C (fun l9 r9 h9 => k_X6_isIn (l := l9) h9) gX6_set_X6_isIn rfl nI_X6_isIn ⟨rfl, rfl, Nat.le_of_ble_eq_true rfl, Nat.le_of_ble_eq_true rfl⟩ dX6_set_33 (Nat.le_of_ble_eq_true rfl) (fun r2 => ?_)
      refine v_ifb_ne C (b := r2) dX6_set_36 (tgt := 42) (by decide) ?_ ?_
      · refine v_aload_n C 0 dX6_set_42 rfl ?_
        refine v_get C (T := TX6) (n := 16) (C9 := RX6) iX6 0 rfl rfl 15 (by decide) (List.mem_of_getElem? (i := 2) rfl) rfl rfl dX6_set_43 ?_
        refine v_bipush C dX6_set_46 (v := 20) (by decide) ?_
        refine v_iload_n C 1 dX6_set_48 rfl ?_
        refine v_imul C dX6_set_49 ?_
        refine v_iload_n C 2 dX6_set_50 rfl ?_
        refine v_iadd C dX6_set_51 ?_
        refine v_lload_n C 3 dX6_set_52 rfl ?_
        refine v_last_nm C (fun it3 => (mW q cs isK isB fed at_ ltr ab ps g kp nx fa tp rs rv ct it3)) 9 1 rfl rfl rfl (fun _ => rfl) dX6_set_53 (fun it3 => ?_)
        refine v_iconst C dX6_set_54 (v := 1) (by decide) ?_
        exact v_iret (rvf := fun (res : Int32 × (Nat → Int64)) => (some (.int res.1))) (wf := fun (res : Int32 × (Nat → Int64)) => (mW q cs isK isB fed at_ ltr ab ps g kp nx fa tp rs rv ct res.2)) C dX6_set_55 rfl rfl
      · refine v_bipush C dX6_set_39 (v := (-13)) (by decide) ?_
        exact v_iret (rvf := fun (res : Int32 × (Nat → Int64)) => (some (.int res.1))) (wf := fun (res : Int32 × (Nat → Int64)) => (mW q cs isK isB fed at_ ltr ab ps g kp nx fa tp rs rv ct res.2)) C dX6_set_41 rfl rfl
    · refine v_bipush C dX6_set_18 (v := (-11)) (by decide) ?_
      exact v_iret (rvf := fun (res : Int32 × (Nat → Int64)) => (some (.int res.1))) (wf := fun (res : Int32 × (Nat → Int64)) => (mW q cs isK isB fed at_ ltr ab ps g kp nx fa tp rs rv ct res.2)) C dX6_set_20 rfl rfl
  · refine v_iconst C dX6_set_7 (v := (-1)) (by decide) ?_
    exact v_iret (rvf := fun (res : Int32 × (Nat → Int64)) => (some (.int res.1))) (wf := fun (res : Int32 × (Nat → Int64)) => (mW q cs isK isB fed at_ ltr ab ps g kp nx fa tp rs rv ct res.2)) C dX6_set_8 rfl rfl

def f_X6_get (ct : Nat → Int32) (it : Nat → Int64) (a1 : Int32) (a2 : Int32) : Option (Int64) :=
(f_X6_isRow a1).bind (fun (r1 : Bool) =>
jn0 (some (-9223372036854775808)) (fun k2 =>
if r1 = true then (
ck (inb a1 4) (
(f_X6_isIn a2.toInt64 0 (((ct a1.toNatClampNeg) - 1).toInt64)).bind (fun (r3 : Bool) =>
if r3 = true then (
ck (inb ((20 * a1) + a2) 80) (
some (it ((20 * a1) + a2).toNatClampNeg))) else (
k2)))) else (
k2)))

theorem nI_X6_get : NameIn yX6_get 2 := ⟨by decide +kernel, by decide +kernel, by decide +kernel⟩
set_option maxRecDepth 100000 in
set_option maxHeartbeats 4000000 in
theorem k_X6_get {l : Launch} {a1 : Int32} {a2 : Int32}  {res : Int64} (hq : (mA q).Nodup) (hNK : NOK N)  (hf : f_X6_get ct it a1 a2 = some res) : kMet l yX6_get wsX6_get { frames := 2, cells := 0, slots := 0, locals := 45 } D vwCl (mT cs) N (mA q) [.ref (q 0), .int a1, .int a2] (mW q cs isK isB fed at_ ltr ab ps g kp nx fa tp rs rv ct it) (some (.long res)) (mW q cs isK isB fed at_ ltr ab ps g kp nx fa tp rs rv ct it) := by
  have iX6 : ∀ w ∈ wsX60, w ∈ wsX6_get := fun _ h => List.mem_cons_of_mem _ (List.mem_append_right _ h)
  refine kMet.of (cc := cX6_get) (nL := 3) (ret := (some .long)) (own := RX6) (lv := [(0, .ref (q 0)), (1, .int a1), (2, .int a2)]) (by decide +kernel) rfl rfl hNK hq (Nat.le_of_ble_eq_true rfl) rfl (fun X C => ?_)
  refine VF.of hf ?_
  unfold f_X6_get
  refine v_iload_n C 1 dX6_get_0 rfl ?_
  refine v_callSP1v C (fun l9 r9 h9 => k_X6_isRow (l := l9) h9) gX6_get_X6_isRow rfl nI_X6_isRow ⟨rfl, rfl, Nat.le_of_ble_eq_true rfl, Nat.le_of_ble_eq_true rfl⟩ dX6_get_1 (Nat.le_of_ble_eq_true rfl) (fun r1 => ?_)
  refine v_jn0 (wj := ((mW q cs isK isB fed at_ ltr ab ps g kp nx fa tp rs rv ct it))) (pcj := 39) (lvj := ([])) (stj := ([])) ?_ (fun k2 hk2 => ?_)
  · refine v_ldc2 C (v := (-9223372036854775808)) (List.mem_of_getElem? (i := 3) rfl) dX6_get_39 ?_
    exact v_lret (rvf := fun (res : Int64) => (some (.long res))) (wf := fun (res : Int64) => (mW q cs isK isB fed at_ ltr ab ps g kp nx fa tp rs rv ct it)) C dX6_get_42 rfl rfl
  · refine v_ifb_eq C (b := r1) dX6_get_4 (tgt := 39) (by decide) ?_ ?_
    · exact v_sub [] rfl (hk2)
    · refine v_iload_n C 2 dX6_get_7 rfl ?_
      refine v_i2l C dX6_get_8 ?_
      refine v_lconst C dX6_get_9 (v := 0) (by decide) ?_
      refine v_aload_n C 0 dX6_get_10 rfl ?_
      refine v_get C (T := TX6) (n := 16) (C9 := RX6) iX6 0 rfl rfl 14 (by decide) (List.mem_of_getElem? (i := 1) rfl) rfl rfl dX6_get_11 ?_
      refine v_iload_n C 1 dX6_get_14 rfl ?_
      refine v_iald C 8 0 rfl rfl dX6_get_15 ?_
      refine v_iconst C dX6_get_16 (v := 1) (by decide) ?_
      refine v_isub C dX6_get_17 ?_
      refine v_i2l C dX6_get_18 ?_
      refine v_callSP3v C (fun l9 r9 h9 => k_X6_isIn (l := l9) h9) gX6_get_X6_isIn rfl nI_X6_isIn ⟨rfl, rfl, Nat.le_of_ble_eq_true rfl, Nat.le_of_ble_eq_true rfl⟩ dX6_get_19 (Nat.le_of_ble_eq_true rfl) (fun r3 => ?_)
      refine v_ifb_eq C (b := r3) dX6_get_22 (tgt := 39) (by decide) ?_ ?_
      · exact v_sub [] rfl (hk2)
      · refine v_aload_n C 0 dX6_get_25 rfl ?_
        refine v_get C (T := TX6) (n := 16) (C9 := RX6) iX6 0 rfl rfl 15 (by decide) (List.mem_of_getElem? (i := 2) rfl) rfl rfl dX6_get_26 ?_
        refine v_bipush C dX6_get_29 (v := 20) (by decide) ?_
        refine v_iload_n C 1 dX6_get_31 rfl ?_
        refine v_imul C dX6_get_32 ?_
        refine v_iload_n C 2 dX6_get_33 rfl ?_
        refine v_iadd C dX6_get_34 ?_
        refine v_lald C 9 1 rfl rfl dX6_get_35 ?_
        refine v_goto C dX6_get_36 (tgt := 42) (by decide) ?_
        exact v_lret (rvf := fun (res : Int64) => (some (.long res))) (wf := fun (res : Int64) => (mW q cs isK isB fed at_ ltr ab ps g kp nx fa tp rs rv ct it)) C dX6_get_42 rfl rfl

def B_X6_lay_1 (g : Nat → Int64) (fa : Nat → Int64) (it : Nat → Int64) (a3 : Int32) (rec3 : Int32 → Bool → Int64 → (Nat → Int64) → Option (Int32 × Bool × Int64 × (Nat → Int64) × (Nat → Int64))) (kx4 : Bool → Int64 → (Nat → Int64) → Option (Int32 × Bool × Int64 × (Nat → Int64) × (Nat → Int64))) (v5 : Int32) (isB6 : Bool) (ab7 : Int64) (nx8 : Nat → Int64) : Option (Int32 × Bool × Int64 × (Nat → Int64) × (Nat → Int64)) :=
(f_X6_n g).bind (fun (r9 : Int32) =>
if (v5 : Int32) < r9 then (
(f_X6_shares isB6 ab7 g fa a3 v5).bind (fun (r10 : Bool × Int64) =>
if r10.1 = true then (
some ((-6), r10.1, r10.2, nx8, it)) else (
(f_X6_n g).bind (fun (r11 : Int32) =>
ck (inb r11 10) (
ck ((fa r11.toNatClampNeg : Int64) != 0) (
ck (inb v5 512) (
nm (vp_updL nx8 v5.toNatClampNeg (r10.2 / (fa r11.toNatClampNeg))) (fun (nx12 : Nat → Int64) =>
nm (v5 + 1) (fun (x13 : Int32) =>
rec3 x13 r10.1 r10.2 nx12))))))))) else (
kx4 isB6 ab7 nx8))
def L_X6_lay_1 (g : Nat → Int64) (fa : Nat → Int64) (it : Nat → Int64) (a3 : Int32) (kx4 : Bool → Int64 → (Nat → Int64) → Option (Int32 × Bool × Int64 × (Nat → Int64) × (Nat → Int64))) : Nat → Int32 → Bool → Int64 → (Nat → Int64) → Option (Int32 × Bool × Int64 × (Nat → Int64) × (Nat → Int64))
  | 0, _, _, _, _ => none
  | m9 + 1, v5, isB6, ab7, nx8 => B_X6_lay_1 g fa it a3 (L_X6_lay_1 g fa it a3 kx4 m9) kx4 v5 isB6 ab7 nx8

def B_X6_lay_2 (g : Nat → Int64) (ct : Nat → Int32) (a1 : Int32) (a2 : Int32) (isB14 : Bool) (ab15 : Int64) (nx16 : Nat → Int64) (rec17 : Int32 → (Nat → Int64) → Option (Int32 × Bool × Int64 × (Nat → Int64) × (Nat → Int64)))  (v18 : Int32) (it19 : Nat → Int64) : Option (Int32 × Bool × Int64 × (Nat → Int64) × (Nat → Int64)) :=
(f_X6_n g).bind (fun (r20 : Int32) =>
if (v18 : Int32) < r20 then (
jn1 (fun (v23 : Int32) =>
ck (inb v18 512) (
(f_X6_set ct it19 a1 v23 (nx16 v18.toNatClampNeg)).bind (fun (r24 : Int32 × (Nat → Int64)) =>
if (r24.1 : Int32) = 1 then (
nm (v18 + 1) (fun (x25 : Int32) =>
rec17 x25 r24.2)) else (
some ((-13), isB14, ab15, nx16, r24.2))))) (fun k22 =>
if (a2 : Int32) < 0 then (
k22 (-1)) else (
k22 (a2 + v18)))) else (
(f_X6_n g).bind (fun (r21 : Int32) =>
some (r21, isB14, ab15, nx16, it19))))
def L_X6_lay_2 (g : Nat → Int64) (ct : Nat → Int32) (a1 : Int32) (a2 : Int32) (isB14 : Bool) (ab15 : Int64) (nx16 : Nat → Int64)  : Nat → Int32 → (Nat → Int64) → Option (Int32 × Bool × Int64 × (Nat → Int64) × (Nat → Int64))
  | 0, _, _ => none
  | m9 + 1, v18, it19 => B_X6_lay_2 g ct a1 a2 isB14 ab15 nx16 (L_X6_lay_2 g ct a1 a2 isB14 ab15 nx16 m9)  v18 it19

def f_X6_lay (isB : Bool) (ab : Int64) (g : Nat → Int64) (nx : Nat → Int64) (fa : Nat → Int64) (ct : Nat → Int32) (it : Nat → Int64) (a1 : Int32) (a2 : Int32) (a3 : Int32) : Option (Int32 × Bool × Int64 × (Nat → Int64) × (Nat → Int64)) :=
(f_X6_isRow a1).bind (fun (r1 : Bool) =>
if r1 = true then (
(f_X6_isGame a3).bind (fun (r2 : Bool) =>
if r2 = true then (
ck (inb a1 4) (
if (ct a1.toNatClampNeg : Int32) < 0 then (
some ((-11), isB, ab, nx, it)) else (
L_X6_lay_1 g fa it a3 (fun (isB14 : Bool) (ab15 : Int64) (nx16 : Nat → Int64) =>
L_X6_lay_2 g ct a1 a2 isB14 ab15 nx16  FU 0 it) FU 0 isB ab nx))) else (
some ((-1), isB, ab, nx, it)))) else (
some ((-1), isB, ab, nx, it)))

theorem nI_X6_lay : NameIn yX6_lay 3 := ⟨by decide +kernel, by decide +kernel, by decide +kernel⟩
set_option maxRecDepth 100000 in
set_option maxHeartbeats 4000000 in
theorem lp_X6_lay_1 {X : CX} {res : Int32 × Bool × Int64 × (Nat → Int64) × (Nat → Int64)} {a1 : Int32} {a2 : Int32} {a3 : Int32}   (hq : (mA q).Nodup) (hNK : NOK N) (C : Ok X cX6_lay 5 (some .int) wsX6_lay RX6 { frames := 3, cells := 0, slots := 0, locals := 72 } D vwCl (mT cs) (mA q) N (some (.int res.1)) (mW q cs isK res.2.1 fed at_ ltr res.2.2.1 ps g kp res.2.2.2.1 fa tp rs rv ct res.2.2.2.2))  (kx4 : Bool → Int64 → (Nat → Int64) → Option (Int32 × Bool × Int64 × (Nat → Int64) × (Nat → Int64))) (Jkx4 : ∀ isBZz : Bool, ∀ abZz : Int64, ∀ nxZz : Nat → Int64, VF X res (kx4 isBZz abZz nxZz) (mW q cs isK isBZz fed at_ ltr abZz ps g kp nxZz fa tp rs rv ct it) 84 [(0, .ref (q 0)), (1, .int a1), (2, .int a2)] []) : ∀ fuel : Nat, ∀ v5 : Int32, ∀ isB6 : Bool, ∀ ab7 : Int64, ∀ nx8 : Nat → Int64, VF X res (L_X6_lay_1 g fa it a3 kx4 fuel v5 isB6 ab7 nx8) (mW q cs isK isB6 fed at_ ltr ab7 ps g kp nx8 fa tp rs rv ct it) 31 [(0, .ref (q 0)), (1, .int a1), (2, .int a2), (3, .int a3), (4, .int v5)] [] := by
  have iX6 : ∀ w ∈ wsX60, w ∈ wsX6_lay := fun _ h => List.mem_cons_of_mem _ (List.mem_append_right _ h)
  intro fuel
  induction fuel with
  | zero =>
    intro _ _ _ _
    exact v_none
  | succ fuel ih =>
    intro v5 isB6 ab7 nx8
    show VF X res (B_X6_lay_1 g fa it a3 (L_X6_lay_1 g fa it a3 kx4 fuel) kx4 v5 isB6 ab7 nx8) _ _ _ _
    unfold B_X6_lay_1
    refine v_iload C 4 dX6_lay_31 rfl ?_
    refine v_aload_n C 0 dX6_lay_33 rfl ?_
    refine v_callV0v C 0 rfl rfl rfl (fun l9 r9 h9 => k_X6_n (l := l9) hq hNK  h9) gX6_lay_X6_n rfl nI_X6_n ⟨rfl, rfl, Nat.le_of_ble_eq_true rfl, Nat.le_of_ble_eq_true rfl⟩ dX6_lay_34 (Nat.le_of_ble_eq_true rfl) (fun r9 => ?_)
    refine v_icmp_ge C dX6_lay_37 (tgt := 84) (by decide) ?_ ?_
    · exact v_sub [0, 1, 2] rfl (Jkx4 isB6 ab7 nx8)
    · refine v_aload_n C 0 dX6_lay_40 rfl ?_
      refine v_iload_n C 3 dX6_lay_41 rfl ?_
      refine v_iload C 4 dX6_lay_42 rfl ?_
      refine v_callV2n C 0 rfl rfl rfl (fun l9 r9 h9 => k_X6_shares (l := l9) hq hNK  h9) gX6_lay_X6_shares rfl nI_X6_shares ⟨rfl, rfl, Nat.le_of_ble_eq_true rfl, Nat.le_of_ble_eq_true rfl⟩ dX6_lay_44 (Nat.le_of_ble_eq_true rfl) (fun r10 => ?_)
      refine v_aload_n C 0 dX6_lay_47 rfl ?_
      refine v_get C (T := TX6) (n := 16) (C9 := RX6) iX6 0 rfl rfl 5 (by decide) (List.mem_of_getElem? (i := 2) rfl) rfl rfl dX6_lay_48 ?_
      refine v_ifb_eq C (b := r10.1) dX6_lay_51 (tgt := 57) (by decide) ?_ ?_
      · refine v_aload_n C 0 dX6_lay_57 rfl ?_
        refine v_get C (T := TX6) (n := 16) (C9 := RX6) iX6 0 rfl rfl 2 (by decide) (List.mem_of_getElem? (i := 3) rfl) rfl rfl dX6_lay_58 ?_
        refine v_iload C 4 dX6_lay_61 rfl ?_
        refine v_aload_n C 0 dX6_lay_63 rfl ?_
        refine v_get C (T := TX6) (n := 16) (C9 := RX6) iX6 0 rfl rfl 12 (by decide) (List.mem_of_getElem? (i := 4) rfl) rfl rfl dX6_lay_64 ?_
        refine v_aload_n C 0 dX6_lay_67 rfl ?_
        refine v_get C (T := TX6) (n := 16) (C9 := RX6) iX6 0 rfl rfl 3 (by decide) (List.mem_of_getElem? (i := 5) rfl) rfl rfl dX6_lay_68 ?_
        refine v_aload_n C 0 dX6_lay_71 rfl ?_
        refine v_callV0v C 0 rfl rfl rfl (fun l9 r9 h9 => k_X6_n (l := l9) hq hNK  h9) gX6_lay_X6_n rfl nI_X6_n ⟨rfl, rfl, Nat.le_of_ble_eq_true rfl, Nat.le_of_ble_eq_true rfl⟩ dX6_lay_72 (Nat.le_of_ble_eq_true rfl) (fun r11 => ?_)
        refine v_lald C 4 1 rfl rfl dX6_lay_75 ?_
        refine v_ldiv C dX6_lay_76 ?_
        refine v_last_nm C (fun nx12 => (mW q cs isK r10.1 fed at_ ltr r10.2 ps g kp nx12 fa tp rs rv ct it)) 3 1 rfl rfl rfl (fun _ => rfl) dX6_lay_77 (fun nx12 => ?_)
        refine v_iinc_nm C (lvf := fun x13 => [(4, .int x13), (0, .ref (q 0)), (1, .int a1), (2, .int a2), (3, .int a3)]) 4 dX6_lay_78 rfl rfl (by decide) (fun _ => rfl) (fun x13 => ?_)
        refine v_goto C dX6_lay_81 (tgt := 31) (by decide) ?_
        exact v_sub [1, 2, 3, 4, 0] rfl (ih x13 r10.1 r10.2 nx12)
      · refine v_bipush C dX6_lay_54 (v := (-6)) (by decide) ?_
        exact v_iret (rvf := fun (res : Int32 × Bool × Int64 × (Nat → Int64) × (Nat → Int64)) => (some (.int res.1))) (wf := fun (res : Int32 × Bool × Int64 × (Nat → Int64) × (Nat → Int64)) => (mW q cs isK res.2.1 fed at_ ltr res.2.2.1 ps g kp res.2.2.2.1 fa tp rs rv ct res.2.2.2.2)) C dX6_lay_56 rfl rfl

set_option maxRecDepth 100000 in
set_option maxHeartbeats 4000000 in
theorem lp_X6_lay_2 {X : CX} {res : Int32 × Bool × Int64 × (Nat → Int64) × (Nat → Int64)} {a1 : Int32} {a2 : Int32}  {isB14 : Bool} {ab15 : Int64} {nx16 : Nat → Int64} (hq : (mA q).Nodup) (hNK : NOK N) (C : Ok X cX6_lay 5 (some .int) wsX6_lay RX6 { frames := 3, cells := 0, slots := 0, locals := 72 } D vwCl (mT cs) (mA q) N (some (.int res.1)) (mW q cs isK res.2.1 fed at_ ltr res.2.2.1 ps g kp res.2.2.2.1 fa tp rs rv ct res.2.2.2.2))  : ∀ fuel : Nat, ∀ v18 : Int32, ∀ it19 : Nat → Int64, VF X res (L_X6_lay_2 g ct a1 a2 isB14 ab15 nx16 fuel v18 it19) (mW q cs isK isB14 fed at_ ltr ab15 ps g kp nx16 fa tp rs rv ct it19) 87 [(0, .ref (q 0)), (1, .int a1), (2, .int a2), (4, .int v18)] [] := by
  have iX6 : ∀ w ∈ wsX60, w ∈ wsX6_lay := fun _ h => List.mem_cons_of_mem _ (List.mem_append_right _ h)
  intro fuel
  induction fuel with
  | zero =>
    intro _ _
    exact v_none
  | succ fuel ih =>
    intro v18 it19
    show VF X res (B_X6_lay_2 g ct a1 a2 isB14 ab15 nx16 (L_X6_lay_2 g ct a1 a2 isB14 ab15 nx16 fuel)  v18 it19) _ _ _ _
    unfold B_X6_lay_2
    refine v_iload C 3 dX6_lay_87 rfl ?_
    refine v_aload_n C 0 dX6_lay_89 rfl ?_
    refine v_callV0v C 0 rfl rfl rfl (fun l9 r9 h9 => k_X6_n (l := l9) hq hNK  h9) gX6_lay_X6_n rfl nI_X6_n ⟨rfl, rfl, Nat.le_of_ble_eq_true rfl, Nat.le_of_ble_eq_true rfl⟩ dX6_lay_90 (Nat.le_of_ble_eq_true rfl) (fun r20 => ?_)
    refine v_icmp_ge C dX6_lay_93 (tgt := 133) (by decide) ?_ ?_
    · refine v_aload_n C 0 dX6_lay_133 rfl ?_
      refine v_callV0v C 0 rfl rfl rfl (fun l9 r9 h9 => k_X6_n (l := l9) hq hNK  h9) gX6_lay_X6_n rfl nI_X6_n ⟨rfl, rfl, Nat.le_of_ble_eq_true rfl, Nat.le_of_ble_eq_true rfl⟩ dX6_lay_134 (Nat.le_of_ble_eq_true rfl) (fun r21 => ?_)
      exact v_iret (rvf := fun (res : Int32 × Bool × Int64 × (Nat → Int64) × (Nat → Int64)) => (some (.int res.1))) (wf := fun (res : Int32 × Bool × Int64 × (Nat → Int64) × (Nat → Int64)) => (mW q cs isK res.2.1 fed at_ ltr res.2.2.1 ps g kp res.2.2.2.1 fa tp rs rv ct res.2.2.2.2)) C dX6_lay_137 rfl rfl
    · refine v_aload_n C 0 dX6_lay_96 rfl ?_
      refine v_iload_n C 1 dX6_lay_97 rfl ?_
      refine v_iload_n C 2 dX6_lay_98 rfl ?_
      refine v_jn1 (wj := (fun v23 => (mW q cs isK isB14 fed at_ ltr ab15 ps g kp nx16 fa tp rs rv ct it19))) (pcj := 110) (lvj := (fun v23 => [(0, .ref (q 0)), (1, .int a1), (2, .int a2), (4, .int v18)])) (stj := (fun v23 => [.int v23, .int a1, .ref (q 0)])) (fun v23 => ?_) (fun k22 hk22 => ?_)
      · refine v_aload_n C 0 dX6_lay_110 rfl ?_
        refine v_get C (T := TX6) (n := 16) (C9 := RX6) iX6 0 rfl rfl 2 (by decide) (List.mem_of_getElem? (i := 3) rfl) rfl rfl dX6_lay_111 ?_
        refine v_iload C 3 dX6_lay_114 rfl ?_
        refine v_lald C 3 1 rfl rfl dX6_lay_116 ?_
        refine v_callV3v C 0 rfl rfl rfl (fun l9 r9 h9 => k_X6_set (l := l9) hq hNK  h9) gX6_lay_X6_set rfl nI_X6_set ⟨rfl, rfl, Nat.le_of_ble_eq_true rfl, Nat.le_of_ble_eq_true rfl⟩ dX6_lay_117 (Nat.le_of_ble_eq_true rfl) (fun r24 => ?_)
        refine v_iconst C dX6_lay_120 (v := 1) (by decide) ?_
        refine v_icmp_eq C dX6_lay_121 (tgt := 127) (by decide) ?_ ?_
        · refine v_iinc_nm C (lvf := fun x25 => [(4, .int x25), (0, .ref (q 0)), (1, .int a1), (2, .int a2)]) 3 dX6_lay_127 rfl rfl (by decide) (fun _ => rfl) (fun x25 => ?_)
          refine v_goto C dX6_lay_130 (tgt := 87) (by decide) ?_
          exact v_sub [1, 2, 3, 0] rfl (ih x25 r24.2)
        · refine v_bipush C dX6_lay_124 (v := (-13)) (by decide) ?_
          exact v_iret (rvf := fun (res : Int32 × Bool × Int64 × (Nat → Int64) × (Nat → Int64)) => (some (.int res.1))) (wf := fun (res : Int32 × Bool × Int64 × (Nat → Int64) × (Nat → Int64)) => (mW q cs isK res.2.1 fed at_ ltr res.2.2.1 ps g kp res.2.2.2.1 fa tp rs rv ct res.2.2.2.2)) C dX6_lay_126 rfl rfl
      · refine v_if_lt C dX6_lay_99 (tgt := 109) (by decide) ?_ ?_
        · refine v_iconst C dX6_lay_109 (v := (-1)) (by decide) ?_
          exact v_sub [0, 1, 2, 3] rfl (hk22 (-1))
        · refine v_iload_n C 2 dX6_lay_102 rfl ?_
          refine v_iload C 3 dX6_lay_103 rfl ?_
          refine v_iadd C dX6_lay_105 ?_
          refine v_goto C dX6_lay_106 (tgt := 110) (by decide) ?_
          exact v_sub [0, 1, 2, 3] rfl (hk22 (a2 + v18))

set_option maxRecDepth 100000 in
set_option maxHeartbeats 4000000 in
theorem k_X6_lay {l : Launch} {a1 : Int32} {a2 : Int32} {a3 : Int32}  {res : Int32 × Bool × Int64 × (Nat → Int64) × (Nat → Int64)} (hq : (mA q).Nodup) (hNK : NOK N)  (hf : f_X6_lay isB ab g nx fa ct it a1 a2 a3 = some res) : kMet l yX6_lay wsX6_lay { frames := 3, cells := 0, slots := 0, locals := 72 } D vwCl (mT cs) N (mA q) [.ref (q 0), .int a1, .int a2, .int a3] (mW q cs isK isB fed at_ ltr ab ps g kp nx fa tp rs rv ct it) (some (.int res.1)) (mW q cs isK res.2.1 fed at_ ltr res.2.2.1 ps g kp res.2.2.2.1 fa tp rs rv ct res.2.2.2.2) := by
  have iX6 : ∀ w ∈ wsX60, w ∈ wsX6_lay := fun _ h => List.mem_cons_of_mem _ (List.mem_append_right _ h)
  refine kMet.of (cc := cX6_lay) (nL := 5) (ret := (some .int)) (own := RX6) (lv := [(0, .ref (q 0)), (1, .int a1), (2, .int a2), (3, .int a3)]) (by decide +kernel) rfl rfl hNK hq (Nat.le_of_ble_eq_true rfl) rfl (fun X C => ?_)
  refine VF.of hf ?_
  unfold f_X6_lay
  refine v_iload_n C 1 dX6_lay_0 rfl ?_
  refine v_callSP1v C (fun l9 r9 h9 => k_X6_isRow (l := l9) h9) gX6_lay_X6_isRow rfl nI_X6_isRow ⟨rfl, rfl, Nat.le_of_ble_eq_true rfl, Nat.le_of_ble_eq_true rfl⟩ dX6_lay_1 (Nat.le_of_ble_eq_true rfl) (fun r1 => ?_)
  refine v_ifb_eq C (b := r1) dX6_lay_4 (tgt := 14) (by decide) ?_ ?_
  · refine v_iconst C dX6_lay_14 (v := (-1)) (by decide) ?_
    exact v_iret (rvf := fun (res : Int32 × Bool × Int64 × (Nat → Int64) × (Nat → Int64)) => (some (.int res.1))) (wf := fun (res : Int32 × Bool × Int64 × (Nat → Int64) × (Nat → Int64)) => (mW q cs isK res.2.1 fed at_ ltr res.2.2.1 ps g kp res.2.2.2.1 fa tp rs rv ct res.2.2.2.2)) C dX6_lay_15 rfl rfl
  · refine v_iload_n C 3 dX6_lay_7 rfl ?_
    refine v_callSP1v C (fun l9 r9 h9 => k_X6_isGame (l := l9) h9) gX6_lay_X6_isGame rfl nI_X6_isGame ⟨rfl, rfl, Nat.le_of_ble_eq_true rfl, Nat.le_of_ble_eq_true rfl⟩ dX6_lay_8 (Nat.le_of_ble_eq_true rfl) (fun r2 => ?_)
    refine v_ifb_ne C (b := r2) dX6_lay_11 (tgt := 16) (by decide) ?_ ?_
    · refine v_aload_n C 0 dX6_lay_16 rfl ?_
      refine v_get C (T := TX6) (n := 16) (C9 := RX6) iX6 0 rfl rfl 14 (by decide) (List.mem_of_getElem? (i := 1) rfl) rfl rfl dX6_lay_17 ?_
      refine v_iload_n C 1 dX6_lay_20 rfl ?_
      refine v_iald C 8 0 rfl rfl dX6_lay_21 ?_
      refine v_if_ge C dX6_lay_22 (tgt := 28) (by decide) ?_ ?_
      · refine v_iconst C dX6_lay_28 (v := 0) (by decide) ?_
        refine v_istore C (lv' := [(4, .int 0), (0, .ref (q 0)), (1, .int a1), (2, .int a2), (3, .int a3)]) dX6_lay_29 (by decide) rfl ?_
        refine v_sub [1, 2, 3, 4, 0] rfl (lp_X6_lay_1 hq hNK C  _ (fun isB14 ab15 nx16 => ?_) FU 0 isB ab nx)
        refine v_iconst C dX6_lay_84 (v := 0) (by decide) ?_
        refine v_istore C (lv' := [(4, .int 0), (0, .ref (q 0)), (1, .int a1), (2, .int a2)]) dX6_lay_85 (by decide) rfl ?_
        refine v_sub [1, 2, 3, 0] rfl (lp_X6_lay_2 hq hNK C   FU 0 it)
      · refine v_bipush C dX6_lay_25 (v := (-11)) (by decide) ?_
        exact v_iret (rvf := fun (res : Int32 × Bool × Int64 × (Nat → Int64) × (Nat → Int64)) => (some (.int res.1))) (wf := fun (res : Int32 × Bool × Int64 × (Nat → Int64) × (Nat → Int64)) => (mW q cs isK res.2.1 fed at_ ltr res.2.2.1 ps g kp res.2.2.2.1 fa tp rs rv ct res.2.2.2.2)) C dX6_lay_27 rfl rfl
    · refine v_iconst C dX6_lay_14 (v := (-1)) (by decide) ?_
      exact v_iret (rvf := fun (res : Int32 × Bool × Int64 × (Nat → Int64) × (Nat → Int64)) => (some (.int res.1))) (wf := fun (res : Int32 × Bool × Int64 × (Nat → Int64) × (Nat → Int64)) => (mW q cs isK res.2.1 fed at_ ltr res.2.2.1 ps g kp res.2.2.2.1 fa tp rs rv ct res.2.2.2.2)) C dX6_lay_15 rfl rfl

end WK
