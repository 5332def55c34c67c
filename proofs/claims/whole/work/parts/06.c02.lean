section WK
variable {q : Nat → Nat} {cs : Nat → ClassId} {D : va_G} {N : (Nat → Prop) → State → Prop} {isK : Bool} {isB : Bool} {fed : Int32} {at_ : Int32} {ltr : Int32} {ab : Int64} {ps : Nat} {g : Nat → Int64} {kp : Nat → Int64} {nx : Nat → Int64} {fa : Nat → Int64} {tp : Nat → Int32} {rs : Nat → Int32} {rv : Nat → Int64} {ct : Nat → Int32} {it : Nat → Int64}
def f_X6_feed (fed : Int32) (tp : Nat → Int32) (a1 : Int32) : Option (Int32 × Int32 × (Nat → Int32)) :=
(f_X6_isIn a1.toInt64 1 127).bind (fun (r1 : Bool) =>
if r1 = true then (
if (fed : Int32) = 120 then (
some ((-4), fed, tp)) else (
ck (inb fed 120) (
nm (upd tp fed.toNatClampNeg a1) (fun (tp2 : Nat → Int32) =>
nm (fed + 1) (fun (fed3 : Int32) =>
some (fed3, fed3, tp2)))))) else (
some ((-2), fed, tp)))

theorem nI_X6_feed : NameIn yX6_feed 1 := ⟨by decide +kernel, by decide +kernel, by decide +kernel⟩
set_option maxRecDepth 100000 in
set_option maxHeartbeats 4000000 in
theorem k_X6_feed {l : Launch} {a1 : Int32}  {res : Int32 × Int32 × (Nat → Int32)} (hq : (mA q).Nodup) (hNK : NOK N)  (hf : f_X6_feed fed tp a1 = some res) : kMet l yX6_feed wsX6_feed { frames := 1, cells := 0, slots := 0, locals := 25 } D vwCl (mT cs) N (mA q) [.ref (q 0), .int a1] (mW q cs isK isB fed at_ ltr ab ps g kp nx fa tp rs rv ct it) (some (.int res.1)) (mW q cs isK isB res.2.1 at_ ltr ab ps g kp nx fa res.2.2 rs rv ct it) := by
  have iX6 : ∀ w ∈ wsX60, w ∈ wsX6_feed := fun _ h => List.mem_cons_of_mem _ (List.mem_append_right _ h)
  refine kMet.of (cc := cX6_feed) (nL := 2) (ret := (some .int)) (own := RX6) (lv := [(0, .ref (q 0)), (1, .int a1)]) (by decide +kernel) rfl rfl hNK hq (Nat.le_of_ble_eq_true rfl) rfl (fun X C => ?_)
  refine VF.of hf ?_
  unfold f_X6_feed
  refine v_iload_n C 1 dX6_feed_0 rfl ?_
  refine v_i2l C dX6_feed_1 ?_
  refine v_lconst C dX6_feed_2 (v := 1) (by decide) ?_
  refine v_ldc2 C (v := 127) (List.mem_of_getElem? (i := 1) rfl) dX6_feed_3 ?_
  refine v_callSP3v C (fun l9 r9 h9 => k_X6_isIn (l := l9) h9) gX6_feed_X6_isIn rfl nI_X6_isIn ⟨rfl, rfl, Nat.le_of_ble_eq_true rfl, Nat.le_of_ble_eq_true rfl⟩ dX6_feed_6 (Nat.le_of_ble_eq_true rfl) (fun r1 => ?_)
  refine v_ifb_ne C (b := r1) dX6_feed_9 (tgt := 15) (by decide) ?_ ?_
  · refine v_aload_n C 0 dX6_feed_15 rfl ?_
    refine v_get C (T := TX6) (n := 16) (C9 := RX6) iX6 0 rfl rfl 9 (by decide) (List.mem_of_getElem? (i := 2) rfl) rfl rfl dX6_feed_16 ?_
    refine v_bipush C dX6_feed_19 (v := 120) (by decide) ?_
    refine v_icmp_ne C dX6_feed_21 (tgt := 27) (by decide) ?_ ?_
    · refine v_aload_n C 0 dX6_feed_27 rfl ?_
      refine v_get C (T := TX6) (n := 16) (C9 := RX6) iX6 0 rfl rfl 6 (by decide) (List.mem_of_getElem? (i := 3) rfl) rfl rfl dX6_feed_28 ?_
      refine v_aload_n C 0 dX6_feed_31 rfl ?_
      refine v_get C (T := TX6) (n := 16) (C9 := RX6) iX6 0 rfl rfl 9 (by decide) (List.mem_of_getElem? (i := 2) rfl) rfl rfl dX6_feed_32 ?_
      refine v_iload_n C 1 dX6_feed_35 rfl ?_
      refine v_iast_nm C (fun tp2 => (mW q cs isK isB fed at_ ltr ab ps g kp nx fa tp2 rs rv ct it)) 5 0 rfl rfl rfl (fun _ => rfl) dX6_feed_36 (fun tp2 => ?_)
      refine v_aload_n C 0 dX6_feed_37 rfl ?_
      refine v_dup C dX6_feed_38 rfl ?_
      refine v_get C (T := TX6) (n := 16) (C9 := RX6) iX6 0 rfl rfl 9 (by decide) (List.mem_of_getElem? (i := 2) rfl) rfl rfl dX6_feed_39 ?_
      refine v_iconst C dX6_feed_42 (v := 1) (by decide) ?_
      refine v_iadd C dX6_feed_43 ?_
      refine v_put_nm C (v := (fed + 1 : Int32)) Value.int (ty := .int) (T := TX6) (n := 16) (C9 := RX6) (ty0 := tyX6) (fun fed3 => (mW q cs isK isB fed3 at_ ltr ab ps g kp nx fa tp2 rs rv ct it)) iX6 tyX6_ok nmX6 0 rfl rfl rfl 9 (by decide) (List.mem_of_getElem? (i := 2) rfl) rfl rfl rfl (fun _ => rfl) (fun _ => rfl) (Nat.le_of_ble_eq_true rfl) (fun _ => rfl) dX6_feed_44 (fun fed3 => ?_)
      refine v_aload_n C 0 dX6_feed_47 rfl ?_
      refine v_get C (T := TX6) (n := 16) (C9 := RX6) iX6 0 rfl rfl 9 (by decide) (List.mem_of_getElem? (i := 2) rfl) rfl rfl dX6_feed_48 ?_
      exact v_iret (rvf := fun (res : Int32 × Int32 × (Nat → Int32)) => (some (.int res.1))) (wf := fun (res : Int32 × Int32 × (Nat → Int32)) => (mW q cs isK isB res.2.1 at_ ltr ab ps g kp nx fa res.2.2 rs rv ct it)) C dX6_feed_51 rfl rfl
    · refine v_bipush C dX6_feed_24 (v := (-4)) (by decide) ?_
      exact v_iret (rvf := fun (res : Int32 × Int32 × (Nat → Int32)) => (some (.int res.1))) (wf := fun (res : Int32 × Int32 × (Nat → Int32)) => (mW q cs isK isB res.2.1 at_ ltr ab ps g kp nx fa res.2.2 rs rv ct it)) C dX6_feed_26 rfl rfl
  · refine v_bipush C dX6_feed_12 (v := (-2)) (by decide) ?_
    exact v_iret (rvf := fun (res : Int32 × Int32 × (Nat → Int32)) => (some (.int res.1))) (wf := fun (res : Int32 × Int32 × (Nat → Int32)) => (mW q cs isK isB res.2.1 at_ ltr ab ps g kp nx fa res.2.2 rs rv ct it)) C dX6_feed_14 rfl rfl

def f_X6_clear (fed : Int32) : Option (Int32 × Int32) :=
nm (0 : Int32) (fun (fed1 : Int32) =>
some (fed, fed1))

theorem nI_X6_clear : NameIn yX6_clear 0 := ⟨by decide +kernel, by decide +kernel, by decide +kernel⟩
set_option maxRecDepth 100000 in
set_option maxHeartbeats 4000000 in
theorem k_X6_clear {l : Launch}   {res : Int32 × Int32} (hq : (mA q).Nodup) (hNK : NOK N)  (hf : f_X6_clear fed = some res) : kMet l yX6_clear wsX6_clear { frames := 0, cells := 0, slots := 0, locals := 0 } D vwCl (mT cs) N (mA q) [.ref (q 0)] (mW q cs isK isB fed at_ ltr ab ps g kp nx fa tp rs rv ct it) (some (.int res.1)) (mW q cs isK isB res.2 at_ ltr ab ps g kp nx fa tp rs rv ct it) := by
  have iX6 : ∀ w ∈ wsX60, w ∈ wsX6_clear := fun _ h => List.mem_cons_of_mem _ (List.mem_append_right _ h)
  refine kMet.of (cc := cX6_clear) (nL := 2) (ret := (some .int)) (own := RX6) (lv := [(0, .ref (q 0))]) (by decide +kernel) rfl rfl hNK hq (Nat.le_of_ble_eq_true rfl) rfl (fun X C => ?_)
  refine VF.of hf ?_
  unfold f_X6_clear
  refine v_aload_n C 0 dX6_clear_0 rfl ?_
  refine v_get C (T := TX6) (n := 16) (C9 := RX6) iX6 0 rfl rfl 9 (by decide) (List.mem_of_getElem? (i := 1) rfl) rfl rfl dX6_clear_1 ?_
  refine v_istore_n C (lv' := [(1, .int fed), (0, .ref (q 0))]) dX6_clear_4 rfl (by decide) rfl ?_
  refine v_aload_n C 1 dX6_clear_5 rfl ?_
  refine v_iconst C dX6_clear_6 (v := 0) (by decide) ?_
  refine v_put_nm C (v := (0 : Int32)) Value.int (ty := .int) (T := TX6) (n := 16) (C9 := RX6) (ty0 := tyX6) (fun fed1 => (mW q cs isK isB fed1 at_ ltr ab ps g kp nx fa tp rs rv ct it)) iX6 tyX6_ok nmX6 0 rfl rfl rfl 9 (by decide) (List.mem_of_getElem? (i := 1) rfl) rfl rfl rfl (fun _ => rfl) (fun _ => rfl) (Nat.le_of_ble_eq_true rfl) (fun _ => rfl) dX6_clear_7 (fun fed1 => ?_)
  refine v_iload_n C 0 dX6_clear_10 rfl ?_
  exact v_iret (rvf := fun (res : Int32 × Int32) => (some (.int res.1))) (wf := fun (res : Int32 × Int32) => (mW q cs isK isB res.2 at_ ltr ab ps g kp nx fa tp rs rv ct it)) C dX6_clear_11 rfl rfl

def f_X6_here (fed : Int32) (at_ : Int32) (tp : Nat → Int32) : Option (Int32) :=
if (at_ : Int32) < fed then (
ck (inb at_ 120) (
some (tp at_.toNatClampNeg))) else (
some (-1))

theorem nI_X6_here : NameIn yX6_here 0 := ⟨by decide +kernel, by decide +kernel, by decide +kernel⟩
set_option maxRecDepth 100000 in
set_option maxHeartbeats 4000000 in
theorem k_X6_here {l : Launch}   {res : Int32} (hq : (mA q).Nodup) (hNK : NOK N)  (hf : f_X6_here fed at_ tp = some res) : kMet l yX6_here wsX6_here { frames := 0, cells := 0, slots := 0, locals := 0 } D vwCl (mT cs) N (mA q) [.ref (q 0)] (mW q cs isK isB fed at_ ltr ab ps g kp nx fa tp rs rv ct it) (some (.int res)) (mW q cs isK isB fed at_ ltr ab ps g kp nx fa tp rs rv ct it) := by
  have iX6 : ∀ w ∈ wsX60, w ∈ wsX6_here := fun _ h => List.mem_cons_of_mem _ (List.mem_append_right _ h)
  refine kMet.of (cc := cX6_here) (nL := 1) (ret := (some .int)) (own := RX6) (lv := [(0, .ref (q 0))]) (by decide +kernel) rfl rfl hNK hq (Nat.le_of_ble_eq_true rfl) rfl (fun X C => ?_)
  refine VF.of hf ?_
  unfold f_X6_here
  refine v_aload_n C 0 dX6_here_0 rfl ?_
  refine v_get C (T := TX6) (n := 16) (C9 := RX6) iX6 0 rfl rfl 10 (by decide) (List.mem_of_getElem? (i := 1) rfl) rfl rfl dX6_here_1 ?_
  refine v_aload_n C 0 dX6_here_4 rfl ?_
  refine v_get C (T := TX6) (n := 16) (C9 := RX6) iX6 0 rfl rfl 9 (by decide) (List.mem_of_getElem? (i := 2) rfl) rfl rfl dX6_here_5 ?_
  refine v_icmp_ge C dX6_here_8 (tgt := 23) (by decide) ?_ ?_
  · refine v_iconst C dX6_here_23 (v := (-1)) (by decide) ?_
    exact v_iret (rvf := fun (res : Int32) => (some (.int res))) (wf := fun (res : Int32) => (mW q cs isK isB fed at_ ltr ab ps g kp nx fa tp rs rv ct it)) C dX6_here_24 rfl rfl
  · refine v_aload_n C 0 dX6_here_11 rfl ?_
    refine v_get C (T := TX6) (n := 16) (C9 := RX6) iX6 0 rfl rfl 6 (by decide) (List.mem_of_getElem? (i := 3) rfl) rfl rfl dX6_here_12 ?_
    refine v_aload_n C 0 dX6_here_15 rfl ?_
    refine v_get C (T := TX6) (n := 16) (C9 := RX6) iX6 0 rfl rfl 10 (by decide) (List.mem_of_getElem? (i := 1) rfl) rfl rfl dX6_here_16 ?_
    refine v_iald C 5 0 rfl rfl dX6_here_19 ?_
    refine v_goto C dX6_here_20 (tgt := 24) (by decide) ?_
    exact v_iret (rvf := fun (res : Int32) => (some (.int res))) (wf := fun (res : Int32) => (mW q cs isK isB fed at_ ltr ab ps g kp nx fa tp rs rv ct it)) C dX6_here_24 rfl rfl

def f_X6_isFigure (fed : Int32) (at_ : Int32) (tp : Nat → Int32) : Option (Bool) :=
(f_X6_here fed at_ tp).bind (fun (r1 : Int32) =>
(f_X6_isIn r1.toInt64 48 57).bind (fun (r2 : Bool) =>
some r2))

theorem nI_X6_isFigure : NameIn yX6_isFigure 0 := ⟨by decide +kernel, by decide +kernel, by decide +kernel⟩
set_option maxRecDepth 100000 in
set_option maxHeartbeats 4000000 in
theorem k_X6_isFigure {l : Launch}   {res : Bool} (hq : (mA q).Nodup) (hNK : NOK N)  (hf : f_X6_isFigure fed at_ tp = some res) : kMet l yX6_isFigure wsX6_isFigure { frames := 1, cells := 0, slots := 0, locals := 25 } D vwCl (mT cs) N (mA q) [.ref (q 0)] (mW q cs isK isB fed at_ ltr ab ps g kp nx fa tp rs rv ct it) (some (.int (bI res))) (mW q cs isK isB fed at_ ltr ab ps g kp nx fa tp rs rv ct it) := by
  refine kMet.of (cc := cX6_isFigure) (nL := 1) (ret := (some .boolean)) (own := RX6) (lv := [(0, .ref (q 0))]) (by decide +kernel) rfl rfl hNK hq (Nat.le_of_ble_eq_true rfl) rfl (fun X C => ?_)
  refine VF.of hf ?_
  unfold f_X6_isFigure
  refine v_aload_n C 0 dX6_isFigure_0 rfl ?_
  refine v_callV0v C 0 rfl rfl rfl (fun l9 r9 h9 => k_X6_here (l := l9) hq hNK  h9) gX6_isFigure_X6_here rfl nI_X6_here ⟨rfl, rfl, Nat.le_of_ble_eq_true rfl, Nat.le_of_ble_eq_true rfl⟩ dX6_isFigure_1 (Nat.le_of_ble_eq_true rfl) (fun r1 => ?_)
  refine v_i2l C dX6_isFigure_4 ?_
  refine v_ldc2 C (v := 48) (List.mem_of_getElem? (i := 1) rfl) dX6_isFigure_5 ?_
  refine v_ldc2 C (v := 57) (List.mem_of_getElem? (i := 2) rfl) dX6_isFigure_8 ?_
  refine v_callSP3v C (fun l9 r9 h9 => k_X6_isIn (l := l9) h9) gX6_isFigure_X6_isIn rfl nI_X6_isIn ⟨rfl, rfl, Nat.le_of_ble_eq_true rfl, Nat.le_of_ble_eq_true rfl⟩ dX6_isFigure_11 (Nat.le_of_ble_eq_true rfl) (fun r2 => ?_)
  exact v_zret (rvf := fun (res : Bool) => (some (.int (bI res)))) (wf := fun (res : Bool) => (mW q cs isK isB fed at_ ltr ab ps g kp nx fa tp rs rv ct it)) C dX6_isFigure_14 rfl rfl

def B_X6_readsSet_1 (fed : Int32) (g : Nat → Int64) (tp : Nat → Int32) (rec1 : Int32 → Int32 → Int32 → Option (Int32 × Int32)) (kx2 : Int32 → Int32 → Option (Int32 × Int32)) (v3 : Int32) (v4 : Int32) (at_5 : Int32) : Option (Int32 × Int32) :=
(f_X6_here fed at_5 tp).bind (fun (r6 : Int32) =>
(f_X6_isIn r6.toInt64 97 105).bind (fun (r7 : Bool) =>
if r7 = true then (
(f_X6_here fed at_5 tp).bind (fun (r8 : Int32) =>
(f_X6_n g).bind (fun (r9 : Int32) =>
(f_X6_isIn ((r8 - 97).toInt64) v4.toInt64 ((r9 - 1).toInt64)).bind (fun (r10 : Bool) =>
if r10 = true then (
(f_X6_here fed at_5 tp).bind (fun (r11 : Int32) =>
nm (v3 ||| (1 <<< ((r11 - 97) &&& 31))) (fun (x12 : Int32) =>
(f_X6_here fed at_5 tp).bind (fun (r13 : Int32) =>
nm ((r13 - 97) + 1) (fun (x14 : Int32) =>
nm (at_5 + 1) (fun (at_15 : Int32) =>
rec1 x12 x14 at_15)))))) else (
kx2 v3 at_5))))) else (
kx2 v3 at_5)))
def L_X6_readsSet_1 (fed : Int32) (g : Nat → Int64) (tp : Nat → Int32) (kx2 : Int32 → Int32 → Option (Int32 × Int32)) : Nat → Int32 → Int32 → Int32 → Option (Int32 × Int32)
  | 0, _, _, _ => none
  | m9 + 1, v3, v4, at_5 => B_X6_readsSet_1 fed g tp (L_X6_readsSet_1 fed g tp kx2 m9) kx2 v3 v4 at_5

def f_X6_readsSet (fed : Int32) (at_ : Int32) (g : Nat → Int64) (tp : Nat → Int32) : Option (Int32 × Int32) :=
L_X6_readsSet_1 fed g tp (fun (v16 : Int32) (at_17 : Int32) =>
some (v16, at_17)) FU 0 0 at_

theorem nI_X6_readsSet : NameIn yX6_readsSet 0 := ⟨by decide +kernel, by decide +kernel, by decide +kernel⟩
set_option maxRecDepth 100000 in
set_option maxHeartbeats 4000000 in
theorem lp_X6_readsSet_1 {X : CX} {res : Int32 × Int32}    (hq : (mA q).Nodup) (hNK : NOK N) (C : Ok X cX6_readsSet 3 (some .int) wsX6_readsSet RX6 { frames := 1, cells := 0, slots := 0, locals := 25 } D vwCl (mT cs) (mA q) N (some (.int res.1)) (mW q cs isK isB fed res.2 ltr ab ps g kp nx fa tp rs rv ct it))  (kx2 : Int32 → Int32 → Option (Int32 × Int32)) (Jkx2 : ∀ y1 : Int32, ∀ at_Zz : Int32, VF X res (kx2 y1 at_Zz) (mW q cs isK isB fed at_Zz ltr ab ps g kp nx fa tp rs rv ct it) 79 [(1, .int y1)] []) : ∀ fuel : Nat, ∀ v3 : Int32, ∀ v4 : Int32, ∀ at_5 : Int32, VF X res (L_X6_readsSet_1 fed g tp kx2 fuel v3 v4 at_5) (mW q cs isK isB fed at_5 ltr ab ps g kp nx fa tp rs rv ct it) 4 [(0, .ref (q 0)), (1, .int v3), (2, .int v4)] [] := by
  have iX6 : ∀ w ∈ wsX60, w ∈ wsX6_readsSet := fun _ h => List.mem_cons_of_mem _ (List.mem_append_right _ h)
  intro fuel
  induction fuel with
  | zero =>
    intro _ _ _
    exact v_none
  | succ fuel ih =>
    intro v3 v4 at_5
    show VF X res (B_X6_readsSet_1 fed g tp (L_X6_readsSet_1 fed g tp kx2 fuel) kx2 v3 v4 at_5) _ _ _ _
    unfold B_X6_readsSet_1
    refine v_aload_n C 0 dX6_readsSet_4 rfl ?_
    refine v_callV0v C 0 rfl rfl rfl (fun l9 r9 h9 => k_X6_here (l := l9) hq hNK  h9) gX6_readsSet_X6_here rfl nI_X6_here ⟨rfl, rfl, Nat.le_of_ble_eq_true rfl, Nat.le_of_ble_eq_true rfl⟩ dX6_readsSet_5 (Nat.le_of_ble_eq_true rfl) (fun r6 => ?_)
    refine v_i2l C dX6_readsSet_8 ?_
    refine v_ldc2 C (v := 97) (List.mem_of_getElem? (i := 1) rfl) dX6_readsSet_9 ?_
    refine v_ldc2 C (v := 105) (List.mem_of_getElem? (i := 2) rfl) dX6_readsSet_12 ?_
    refine v_callSP3v C (fun l9 r9 h9 => k_X6_isIn (l := l9) h9) gX6_readsSet_X6_isIn rfl nI_X6_isIn ⟨rfl, rfl, Nat.le_of_ble_eq_true rfl, Nat.le_of_ble_eq_true rfl⟩ dX6_readsSet_15 (Nat.le_of_ble_eq_true rfl) (fun r7 => ?_)
    refine v_ifb_eq C (b := r7) dX6_readsSet_18 (tgt := 79) (by decide) ?_ ?_
    · exact v_sub [1] rfl (Jkx2 v3 at_5)
    · refine v_aload_n C 0 dX6_readsSet_21 rfl ?_
      refine v_callV0v C 0 rfl rfl rfl (fun l9 r9 h9 => k_X6_here (l := l9) hq hNK  h9) gX6_readsSet_X6_here rfl nI_X6_here ⟨rfl, rfl, Nat.le_of_ble_eq_true rfl, Nat.le_of_ble_eq_true rfl⟩ dX6_readsSet_22 (Nat.le_of_ble_eq_true rfl) (fun r8 => ?_)
      refine v_bipush C dX6_readsSet_25 (v := 97) (by decide) ?_
      refine v_isub C dX6_readsSet_27 ?_
      refine v_i2l C dX6_readsSet_28 ?_
      refine v_iload_n C 2 dX6_readsSet_29 rfl ?_
      refine v_i2l C dX6_readsSet_30 ?_
      refine v_aload_n C 0 dX6_readsSet_31 rfl ?_
      refine v_callV0v C 0 rfl rfl rfl (fun l9 r9 h9 => k_X6_n (l := l9) hq hNK  h9) gX6_readsSet_X6_n rfl nI_X6_n ⟨rfl, rfl, Nat.le_of_ble_eq_true rfl, Nat.le_of_ble_eq_true rfl⟩ dX6_readsSet_32 (Nat.le_of_ble_eq_true rfl) (fun r9 => ?_)
      refine v_iconst C dX6_readsSet_35 (v := 1) (by decide) ?_
      refine v_isub C dX6_readsSet_36 ?_
      refine v_i2l C dX6_readsSet_37 ?_
      refine v_callSP3v C (fun l9 r9 h9 => k_X6_isIn (l := l9) h9) gX6_readsSet_X6_isIn rfl nI_X6_isIn ⟨rfl, rfl, Nat.le_of_ble_eq_true rfl, Nat.le_of_ble_eq_true rfl⟩ dX6_readsSet_38 (Nat.le_of_ble_eq_true rfl) (fun r10 => ?_)
      refine v_ifb_eq C (b := r10) dX6_readsSet_41 (tgt := 79) (by decide) ?_ ?_
      · exact v_sub [1] rfl (Jkx2 v3 at_5)
      · refine v_iload_n C 1 dX6_readsSet_44 rfl ?_
        refine v_iconst C dX6_readsSet_45 (v := 1) (by decide) ?_
        refine v_aload_n C 0 dX6_readsSet_46 rfl ?_
        refine v_callV0v C 0 rfl rfl rfl (fun l9 r9 h9 => k_X6_here (l := l9) hq hNK  h9) gX6_readsSet_X6_here rfl nI_X6_here ⟨rfl, rfl, Nat.le_of_ble_eq_true rfl, Nat.le_of_ble_eq_true rfl⟩ dX6_readsSet_47 (Nat.le_of_ble_eq_true rfl) (fun r11 => ?_)
        refine v_bipush C dX6_readsSet_50 (v := 97) (by decide) ?_
        refine v_isub C dX6_readsSet_52 ?_
        refine v_ishl C dX6_readsSet_53 ?_
        refine v_ior C dX6_readsSet_54 ?_
        refine v_istore_n_nm C (lvf := fun x12 => [(1, .int x12), (0, .ref (q 0)), (2, .int v4)]) dX6_readsSet_55 rfl (by decide) (fun _ => rfl) (fun x12 => ?_)
        refine v_aload_n C 1 dX6_readsSet_56 rfl ?_
        refine v_callV0v C 0 rfl rfl rfl (fun l9 r9 h9 => k_X6_here (l := l9) hq hNK  h9) gX6_readsSet_X6_here rfl nI_X6_here ⟨rfl, rfl, Nat.le_of_ble_eq_true rfl, Nat.le_of_ble_eq_true rfl⟩ dX6_readsSet_57 (Nat.le_of_ble_eq_true rfl) (fun r13 => ?_)
        refine v_bipush C dX6_readsSet_60 (v := 97) (by decide) ?_
        refine v_isub C dX6_readsSet_62 ?_
        refine v_iconst C dX6_readsSet_63 (v := 1) (by decide) ?_
        refine v_iadd C dX6_readsSet_64 ?_
        refine v_istore_n_nm C (lvf := fun x14 => [(2, .int x14), (1, .int x12), (0, .ref (q 0))]) dX6_readsSet_65 rfl (by decide) (fun _ => rfl) (fun x14 => ?_)
        refine v_aload_n C 2 dX6_readsSet_66 rfl ?_
        refine v_dup C dX6_readsSet_67 rfl ?_
        refine v_get C (T := TX6) (n := 16) (C9 := RX6) iX6 0 rfl rfl 10 (by decide) (List.mem_of_getElem? (i := 3) rfl) rfl rfl dX6_readsSet_68 ?_
        refine v_iconst C dX6_readsSet_71 (v := 1) (by decide) ?_
        refine v_iadd C dX6_readsSet_72 ?_
        refine v_put_nm C (v := (at_5 + 1 : Int32)) Value.int (ty := .int) (T := TX6) (n := 16) (C9 := RX6) (ty0 := tyX6) (fun at_15 => (mW q cs isK isB fed at_15 ltr ab ps g kp nx fa tp rs rv ct it)) iX6 tyX6_ok nmX6 0 rfl rfl rfl 10 (by decide) (List.mem_of_getElem? (i := 3) rfl) rfl rfl rfl (fun _ => rfl) (fun _ => rfl) (Nat.le_of_ble_eq_true rfl) (fun _ => rfl) dX6_readsSet_73 (fun at_15 => ?_)
        refine v_goto C dX6_readsSet_76 (tgt := 4) (by decide) ?_
        exact v_sub [2, 1, 0] rfl (ih x12 x14 at_15)

set_option maxRecDepth 100000 in
set_option maxHeartbeats 4000000 in
theorem k_X6_readsSet {l : Launch}   {res : Int32 × Int32} (hq : (mA q).Nodup) (hNK : NOK N)  (hf : f_X6_readsSet fed at_ g tp = some res) : kMet l yX6_readsSet wsX6_readsSet { frames := 1, cells := 0, slots := 0, locals := 25 } D vwCl (mT cs) N (mA q) [.ref (q 0)] (mW q cs isK isB fed at_ ltr ab ps g kp nx fa tp rs rv ct it) (some (.int res.1)) (mW q cs isK isB fed res.2 ltr ab ps g kp nx fa tp rs rv ct it) := by
  refine kMet.of (cc := cX6_readsSet) (nL := 3) (ret := (some .int)) (own := RX6) (lv := [(0, .ref (q 0))]) (by decide +kernel) rfl rfl hNK hq (Nat.le_of_ble_eq_true rfl) rfl (fun X C => ?_)
  refine VF.of hf ?_
  unfold f_X6_readsSet
  refine v_iconst C dX6_readsSet_0 (v := 0) (by decide) ?_
  refine v_istore_n C (lv' := [(1, .int 0), (0, .ref (q 0))]) dX6_readsSet_1 rfl (by decide) rfl ?_
  refine v_iconst C dX6_readsSet_2 (v := 0) (by decide) ?_
  refine v_istore_n C (lv' := [(2, .int 0), (1, .int 0), (0, .ref (q 0))]) dX6_readsSet_3 rfl (by decide) rfl ?_
  refine v_sub [2, 1, 0] rfl (lp_X6_readsSet_1 hq hNK C  _ (fun v16 at_17 => ?_) FU 0 0 at_)
  refine v_iload_n C 0 dX6_readsSet_79 rfl ?_
  exact v_iret (rvf := fun (res : Int32 × Int32) => (some (.int res.1))) (wf := fun (res : Int32 × Int32) => (mW q cs isK isB fed res.2 ltr ab ps g kp nx fa tp rs rv ct it)) C dX6_readsSet_80 rfl rfl

def B_X6_readsPart_1 (fed : Int32) (tp : Nat → Int32) (rec11 : Int64 → Int32 → Int32 → Option (Bool × Int32 × (Nat → Int32) × (Nat → Int64))) (kx12 : Int64 → Int32 → Option (Bool × Int32 × (Nat → Int32) × (Nat → Int64))) (v13 : Int64) (v14 : Int32) (at_15 : Int32) : Option (Bool × Int32 × (Nat → Int32) × (Nat → Int64)) :=
if (v14 : Int32) < 9 then (
(f_X6_isFigure fed at_15 tp).bind (fun (r16 : Bool) =>
if r16 = true then (
(f_X6_here fed at_15 tp).bind (fun (r17 : Int32) =>
nm (((10 * v13) + r17.toInt64) - 48) (fun (x18 : Int64) =>
nm (at_15 + 1) (fun (at_19 : Int32) =>
nm (v14 + 1) (fun (x20 : Int32) =>
rec11 x18 x20 at_19))))) else (
kx12 v13 at_15))) else (
kx12 v13 at_15)
def L_X6_readsPart_1 (fed : Int32) (tp : Nat → Int32) (kx12 : Int64 → Int32 → Option (Bool × Int32 × (Nat → Int32) × (Nat → Int64))) : Nat → Int64 → Int32 → Int32 → Option (Bool × Int32 × (Nat → Int32) × (Nat → Int64))
  | 0, _, _, _ => none
  | m9 + 1, v13, v14, at_15 => B_X6_readsPart_1 fed tp (L_X6_readsPart_1 fed tp kx12 m9) kx12 v13 v14 at_15

def f_X6_readsPart (fed : Int32) (at_ : Int32) (g : Nat → Int64) (tp : Nat → Int32) (rs : Nat → Int32) (rv : Nat → Int64) (a1 : Int32) : Option (Bool × Int32 × (Nat → Int32) × (Nat → Int64)) :=
(f_X6_readsSet fed at_ g tp).bind (fun (r1 : Int32 × Int32) =>
ck (inb a1 120) (
nm (upd rs a1.toNatClampNeg r1.1) (fun (rs2 : Nat → Int32) =>
ck (inb a1 120) (
if (rs2 a1.toNatClampNeg : Int32) = 0 then (
some (false, r1.2, rs2, rv)) else (
(f_X6_here fed r1.2 tp).bind (fun (r3 : Int32) =>
if (r3 : Int32) = 61 then (
nm (r1.2 + 1) (fun (at_4 : Int32) =>
(f_X6_here fed at_4 tp).bind (fun (r5 : Int32) =>
jn1 (fun (v7 : Bool) =>
jn1 (fun (at_9 : Int32) =>
(f_X6_isFigure fed at_9 tp).bind (fun (r10 : Bool) =>
if r10 = true then (
L_X6_readsPart_1 fed tp (fun (v21 : Int64) (at_22 : Int32) =>
jn1 (fun (v24 : Int64) =>
ck (inb a1 120) (
nm (vp_updL rv a1.toNatClampNeg v24) (fun (rv25 : Nat → Int64) =>
jn0 (some (true, at_22, rs2, rv25)) (fun k26 =>
if (at_22 : Int32) = fed then (
k26) else (
(f_X6_here fed at_22 tp).bind (fun (r27 : Int32) =>
if (r27 : Int32) = 59 then (
k26) else (
some (false, at_22, rs2, rv25)))))))) (fun k23 =>
if v7 = true then (
k23 (-v21)) else (
k23 v21))) FU 0 0 at_9) else (
some (false, at_9, rs2, rv)))) (fun k8 =>
if v7 = true then (
nm (at_4 + 1) (fun (at_28 : Int32) =>
k8 at_28)) else (
k8 at_4))) (fun k6 =>
if (r5 : Int32) = 45 then (
k6 true) else (
k6 false))))) else (
some (false, r1.2, rs2, rv))))))))

theorem nI_X6_readsPart : NameIn yX6_readsPart 1 := ⟨by decide +kernel, by decide +kernel, by decide +kernel⟩
set_option maxRecDepth 100000 in
set_option maxHeartbeats 4000000 in
theorem lp_X6_readsPart_1 {X : CX} {res : Bool × Int32 × (Nat → Int32) × (Nat → Int64)} {a1 : Int32}  {rs2 : Nat → Int32} {v7 : Bool} (hq : (mA q).Nodup) (hNK : NOK N) (C : Ok X cX6_readsPart 6 (some .boolean) wsX6_readsPart RX6 { frames := 2, cells := 0, slots := 0, locals := 47 } D vwCl (mT cs) (mA q) N (some (.int (bI res.1))) (mW q cs isK isB fed res.2.1 ltr ab ps g kp nx fa tp res.2.2.1 res.2.2.2 ct it))  (kx12 : Int64 → Int32 → Option (Bool × Int32 × (Nat → Int32) × (Nat → Int64))) (Jkx12 : ∀ y3 : Int64, ∀ at_Zz : Int32, VF X res (kx12 y3 at_Zz) (mW q cs isK isB fed at_Zz ltr ab ps g kp nx fa tp rs2 rv ct it) 129 [(0, .ref (q 0)), (1, .int a1), (2, .int (bI v7)), (3, .long y3)] []) : ∀ fuel : Nat, ∀ v13 : Int64, ∀ v14 : Int32, ∀ at_15 : Int32, VF X res (L_X6_readsPart_1 fed tp kx12 fuel v13 v14 at_15) (mW q cs isK isB fed at_15 ltr ab ps g kp nx fa tp rs2 rv ct it) 83 [(0, .ref (q 0)), (1, .int a1), (2, .int (bI v7)), (3, .long v13), (5, .int v14)] [] := by
  have iX6 : ∀ w ∈ wsX60, w ∈ wsX6_readsPart := fun _ h => List.mem_cons_of_mem _ (List.mem_append_right _ h)
  intro fuel
  induction fuel with
  | zero =>
    intro _ _ _
    exact v_none
  | succ fuel ih =>
    intro v13 v14 at_15
    show VF X res (B_X6_readsPart_1 fed tp (L_X6_readsPart_1 fed tp kx12 fuel) kx12 v13 v14 at_15) _ _ _ _
    unfold B_X6_readsPart_1
    refine v_iload C 4 dX6_readsPart_83 rfl ?_
    refine v_bipush C dX6_readsPart_85 (v := 9) (by decide) ?_
    refine v_icmp_ge C dX6_readsPart_87 (tgt := 129) (by decide) ?_ ?_
    · exact v_sub [0, 1, 2, 3] rfl (Jkx12 v13 at_15)
    · refine v_aload_n C 0 dX6_readsPart_90 rfl ?_
      refine v_callV0v C 0 rfl rfl rfl (fun l9 r9 h9 => k_X6_isFigure (l := l9) hq hNK  h9) gX6_readsPart_X6_isFigure rfl nI_X6_isFigure ⟨rfl, rfl, Nat.le_of_ble_eq_true rfl, Nat.le_of_ble_eq_true rfl⟩ dX6_readsPart_91 (Nat.le_of_ble_eq_true rfl) (fun r16 => ?_)
      refine v_ifb_eq C (b := r16) dX6_readsPart_94 (tgt := 129) (by decide) ?_ ?_
      · exact v_sub [0, 1, 2, 3] rfl (Jkx12 v13 at_15)
      · refine v_ldc2 C (v := 10) (List.mem_of_getElem? (i := 3) rfl) dX6_readsPart_97 ?_
        refine v_lload_n C 3 dX6_readsPart_100 rfl ?_
        refine v_lmul C dX6_readsPart_101 ?_
        refine v_aload_n C 0 dX6_readsPart_102 rfl ?_
        refine v_callV0v C 0 rfl rfl rfl (fun l9 r9 h9 => k_X6_here (l := l9) hq hNK  h9) gX6_readsPart_X6_here rfl nI_X6_here ⟨rfl, rfl, Nat.le_of_ble_eq_true rfl, Nat.le_of_ble_eq_true rfl⟩ dX6_readsPart_103 (Nat.le_of_ble_eq_true rfl) (fun r17 => ?_)
        refine v_i2l C dX6_readsPart_106 ?_
        refine v_ladd C dX6_readsPart_107 ?_
        refine v_ldc2 C (v := 48) (List.mem_of_getElem? (i := 4) rfl) dX6_readsPart_108 ?_
        refine v_lsub C dX6_readsPart_111 ?_
        refine v_lstore_n_nm C (lvf := fun x18 => [(3, .long x18), (0, .ref (q 0)), (1, .int a1), (2, .int (bI v7)), (5, .int v14)]) dX6_readsPart_112 rfl (by decide) (fun _ => rfl) (fun x18 => ?_)
        refine v_aload_n C 1 dX6_readsPart_113 rfl ?_
        refine v_dup C dX6_readsPart_114 rfl ?_
        refine v_get C (T := TX6) (n := 16) (C9 := RX6) iX6 0 rfl rfl 10 (by decide) (List.mem_of_getElem? (i := 2) rfl) rfl rfl dX6_readsPart_115 ?_
        refine v_iconst C dX6_readsPart_118 (v := 1) (by decide) ?_
        refine v_iadd C dX6_readsPart_119 ?_
        refine v_put_nm C (v := (at_15 + 1 : Int32)) Value.int (ty := .int) (T := TX6) (n := 16) (C9 := RX6) (ty0 := tyX6) (fun at_19 => (mW q cs isK isB fed at_19 ltr ab ps g kp nx fa tp rs2 rv ct it)) iX6 tyX6_ok nmX6 0 rfl rfl rfl 10 (by decide) (List.mem_of_getElem? (i := 2) rfl) rfl rfl rfl (fun _ => rfl) (fun _ => rfl) (Nat.le_of_ble_eq_true rfl) (fun _ => rfl) dX6_readsPart_120 (fun at_19 => ?_)
        refine v_iinc_nm C (lvf := fun x20 => [(5, .int x20), (3, .long x18), (0, .ref (q 0)), (1, .int a1), (2, .int (bI v7))]) 4 dX6_readsPart_123 rfl rfl (by decide) (fun _ => rfl) (fun x20 => ?_)
        refine v_goto C dX6_readsPart_126 (tgt := 83) (by decide) ?_
        exact v_sub [2, 3, 4, 1, 0] rfl (ih x18 x20 at_19)

set_option maxRecDepth 100000 in
set_option maxHeartbeats 4000000 in
theorem k_X6_readsPart {l : Launch} {a1 : Int32}  {res : Bool × Int32 × (Nat → Int32) × (Nat → Int64)} (hq : (mA q).Nodup) (hNK : NOK N)  (hf : f_X6_readsPart fed at_ g tp rs rv a1 = some res) : kMet l yX6_readsPart wsX6_readsPart { frames := 2, cells := 0, slots := 0, locals := 47 } D vwCl (mT cs) N (mA q) [.ref (q 0), .int a1] (mW q cs isK isB fed at_ ltr ab ps g kp nx fa tp rs rv ct it) (some (.int (bI res.1))) (mW q cs isK isB fed res.2.1 ltr ab ps g kp nx fa tp res.2.2.1 res.2.2.2 ct it) := by
  have iX6 : ∀ w ∈ wsX60, w ∈ wsX6_readsPart := fun _ h => List.mem_cons_of_mem _ (List.mem_append_right _ h)
  refine kMet.of (cc := cX6_readsPart) (nL := 6) (ret := (some .boolean)) (own := RX6) (lv := [(0, .ref (q 0)), (1, .int a1)]) (by decide +kernel) rfl rfl hNK hq (Nat.le_of_ble_eq_true rfl) rfl (fun X C => ?_)
  refine VF.of hf ?_
  unfold f_X6_readsPart
  refine v_aload_n C 0 dX6_readsPart_0 rfl ?_
  refine v_get C (T := TX6) (n := 16) (C9 := RX6) iX6 0 rfl rfl 7 (by decide) (List.mem_of_getElem? (i := 1) rfl) rfl rfl dX6_readsPart_1 ?_
  refine v_iload_n C 1 dX6_readsPart_4 rfl ?_
  refine v_aload_n C 0 dX6_readsPart_5 rfl ?_
  refine v_callV0v C 0 rfl rfl rfl (fun l9 r9 h9 => k_X6_readsSet (l := l9) hq hNK  h9) gX6_readsPart_X6_readsSet rfl nI_X6_readsSet ⟨rfl, rfl, Nat.le_of_ble_eq_true rfl, Nat.le_of_ble_eq_true rfl⟩ dX6_readsPart_6 (Nat.le_of_ble_eq_true rfl) (fun r1 => ?_)
  refine v_iast_nm C (fun rs2 => (mW q cs isK isB fed r1.2 ltr ab ps g kp nx fa tp rs2 rv ct it)) 6 0 rfl rfl rfl (fun _ => rfl) dX6_readsPart_9 (fun rs2 => ?_)
  refine v_aload_n C 0 dX6_readsPart_10 rfl ?_
  refine v_get C (T := TX6) (n := 16) (C9 := RX6) iX6 0 rfl rfl 7 (by decide) (List.mem_of_getElem? (i := 1) rfl) rfl rfl dX6_readsPart_11 ?_
  refine v_iload_n C 1 dX6_readsPart_14 rfl ?_
  refine v_iald C 6 0 rfl rfl dX6_readsPart_15 ?_
  refine v_if_eq C dX6_readsPart_16 (tgt := 28) (by decide) ?_ ?_
  · refine v_iconst C dX6_readsPart_28 (v := 0) (by decide) ?_
    exact v_zret (rvf := fun (res : Bool × Int32 × (Nat → Int32) × (Nat → Int64)) => (some (.int (bI res.1)))) (wf := fun (res : Bool × Int32 × (Nat → Int32) × (Nat → Int64)) => (mW q cs isK isB fed res.2.1 ltr ab ps g kp nx fa tp res.2.2.1 res.2.2.2 ct it)) C dX6_readsPart_29 rfl rfl
  · refine v_aload_n C 0 dX6_readsPart_19 rfl ?_
    refine v_callV0v C 0 rfl rfl rfl (fun l9 r9 h9 => k_X6_here (l := l9) hq hNK  h9) gX6_readsPart_X6_here rfl nI_X6_here ⟨rfl, rfl, Nat.le_of_ble_eq_true rfl, Nat.le_of_ble_eq_true rfl⟩ dX6_readsPart_20 (Nat.le_of_ble_eq_true rfl) (fun r3 => ?_)
    refine v_bipush C dX6_readsPart_23 (v := 61) (by decide) ?_
    refine v_icmp_eq C dX6_readsPart_25 (tgt := 30) (by decide) ?_ ?_
    · refine v_aload_n C 0 dX6_readsPart_30 rfl ?_
      refine v_dup C dX6_readsPart_31 rfl ?_
      refine v_get C (T := TX6) (n := 16) (C9 := RX6) iX6 0 rfl rfl 10 (by decide) (List.mem_of_getElem? (i := 2) rfl) rfl rfl dX6_readsPart_32 ?_
      refine v_iconst C dX6_readsPart_35 (v := 1) (by decide) ?_
      refine v_iadd C dX6_readsPart_36 ?_
      refine v_put_nm C (v := (r1.2 + 1 : Int32)) Value.int (ty := .int) (T := TX6) (n := 16) (C9 := RX6) (ty0 := tyX6) (fun at_4 => (mW q cs isK isB fed at_4 ltr ab ps g kp nx fa tp rs2 rv ct it)) iX6 tyX6_ok nmX6 0 rfl rfl rfl 10 (by decide) (List.mem_of_getElem? (i := 2) rfl) rfl rfl rfl (fun _ => rfl) (fun _ => rfl) (Nat.le_of_ble_eq_true rfl) (fun _ => rfl) dX6_readsPart_37 (fun at_4 => ?_)
      refine v_aload_n C 0 dX6_readsPart_40 rfl ?_
      refine v_callV0v C 0 rfl rfl rfl (fun l9 r9 h9 => k_X6_here (l := l9) hq hNK  h9) gX6_readsPart_X6_here rfl nI_X6_here ⟨rfl, rfl, Nat.le_of_ble_eq_true rfl, Nat.le_of_ble_eq_true rfl⟩ dX6_readsPart_41 (Nat.le_of_ble_eq_true rfl) (fun r5 => ?_)
      refine v_bipush C dX6_readsPart_44 (v := 45) (by decide) ?_
      refine v_jn1 (wj := (fun v7 => (mW q cs isK isB fed at_4 ltr ab ps g kp nx fa tp rs2 rv ct it))) (pcj := 54) (lvj := (fun v7 => [(0, .ref (q 0)), (1, .int a1)])) (stj := (fun v7 => [.int (bI v7)])) (fun v7 => ?_) (fun k6 hk6 => ?_)
      · refine v_istore_n C (lv' := [(2, .int (bI v7)), (0, .ref (q 0)), (1, .int a1)]) dX6_readsPart_54 rfl (by decide) rfl ?_
        refine v_iload_n C 0 dX6_readsPart_55 rfl ?_
        refine v_jn1 (wj := (fun at_9 => (mW q cs isK isB fed at_9 ltr ab ps g kp nx fa tp rs2 rv ct it))) (pcj := 69) (lvj := (fun at_9 => [(0, .ref (q 0)), (1, .int a1), (2, .int (bI v7))])) (stj := (fun at_9 => [])) (fun at_9 => ?_) (fun k8 hk8 => ?_)
        · refine v_aload_n C 0 dX6_readsPart_69 rfl ?_
          refine v_callV0v C 0 rfl rfl rfl (fun l9 r9 h9 => k_X6_isFigure (l := l9) hq hNK  h9) gX6_readsPart_X6_isFigure rfl nI_X6_isFigure ⟨rfl, rfl, Nat.le_of_ble_eq_true rfl, Nat.le_of_ble_eq_true rfl⟩ dX6_readsPart_70 (Nat.le_of_ble_eq_true rfl) (fun r10 => ?_)
          refine v_ifb_ne C (b := r10) dX6_readsPart_73 (tgt := 78) (by decide) ?_ ?_
          · refine v_lconst C dX6_readsPart_78 (v := 0) (by decide) ?_
            refine v_lstore_n C (lv' := [(3, .long 0), (0, .ref (q 0)), (1, .int a1), (2, .int (bI v7))]) dX6_readsPart_79 rfl (by decide) rfl ?_
            refine v_iconst C dX6_readsPart_80 (v := 0) (by decide) ?_
            refine v_istore C (lv' := [(5, .int 0), (3, .long 0), (0, .ref (q 0)), (1, .int a1), (2, .int (bI v7))]) dX6_readsPart_81 (by decide) rfl ?_
            refine v_sub [2, 3, 4, 1, 0] rfl (lp_X6_readsPart_1 hq hNK C  _ (fun v21 at_22 => ?_) FU 0 0 at_9)
            refine v_aload_n C 0 dX6_readsPart_129 rfl ?_
            refine v_get C (T := TX6) (n := 16) (C9 := RX6) iX6 0 rfl rfl 8 (by decide) (List.mem_of_getElem? (i := 5) rfl) rfl rfl dX6_readsPart_130 ?_
            refine v_iload_n C 1 dX6_readsPart_133 rfl ?_
            refine v_iload_n C 2 dX6_readsPart_134 rfl ?_
            refine v_jn1 (wj := (fun v24 => (mW q cs isK isB fed at_22 ltr ab ps g kp nx fa tp rs2 rv ct it))) (pcj := 144) (lvj := (fun v24 => [(0, .ref (q 0))])) (stj := (fun v24 => [.long v24, .int a1, .ref (q 7)])) (fun v24 => ?_) (fun k23 hk23 => ?_)
            · refine v_last_nm C (fun rv25 => (mW q cs isK isB fed at_22 ltr ab ps g kp nx fa tp rs2 rv25 ct it)) 7 1 rfl rfl rfl (fun _ => rfl) dX6_readsPart_144 (fun rv25 => ?_)
              refine v_aload_n C 0 dX6_readsPart_145 rfl ?_
              refine v_get C (T := TX6) (n := 16) (C9 := RX6) iX6 0 rfl rfl 10 (by decide) (List.mem_of_getElem? (i := 2) rfl) rfl rfl dX6_readsPart_146 ?_
              refine v_aload_n C 0 dX6_readsPart_149 rfl ?_
              refine v_get C (T := TX6) (n := 16) (C9 := RX6) iX6 0 rfl rfl 9 (by decide) (List.mem_of_getElem? (i := 6) rfl) rfl rfl dX6_readsPart_150 ?_
              refine v_jn0 (wj := ((mW q cs isK isB fed at_22 ltr ab ps g kp nx fa tp rs2 rv25 ct it))) (pcj := 165) (lvj := ([])) (stj := ([])) ?_ (fun k26 hk26 => ?_)
              · refine v_iconst C dX6_readsPart_165 (v := 1) (by decide) ?_
                refine v_goto C dX6_readsPart_166 (tgt := 170) (by decide) ?_
                exact v_zret (rvf := fun (res : Bool × Int32 × (Nat → Int32) × (Nat → Int64)) => (some (.int (bI res.1)))) (wf := fun (res : Bool × Int32 × (Nat → Int32) × (Nat → Int64)) => (mW q cs isK isB fed res.2.1 ltr ab ps g kp nx fa tp res.2.2.1 res.2.2.2 ct it)) C dX6_readsPart_170 rfl rfl
              · refine v_icmp_eq C dX6_readsPart_153 (tgt := 165) (by decide) ?_ ?_
                · exact v_sub [] rfl (hk26)
                · refine v_aload_n C 0 dX6_readsPart_156 rfl ?_
                  refine v_callV0v C 0 rfl rfl rfl (fun l9 r9 h9 => k_X6_here (l := l9) hq hNK  h9) gX6_readsPart_X6_here rfl nI_X6_here ⟨rfl, rfl, Nat.le_of_ble_eq_true rfl, Nat.le_of_ble_eq_true rfl⟩ dX6_readsPart_157 (Nat.le_of_ble_eq_true rfl) (fun r27 => ?_)
                  refine v_bipush C dX6_readsPart_160 (v := 59) (by decide) ?_
                  refine v_icmp_ne C dX6_readsPart_162 (tgt := 169) (by decide) ?_ ?_
                  · refine v_iconst C dX6_readsPart_169 (v := 0) (by decide) ?_
                    exact v_zret (rvf := fun (res : Bool × Int32 × (Nat → Int32) × (Nat → Int64)) => (some (.int (bI res.1)))) (wf := fun (res : Bool × Int32 × (Nat → Int32) × (Nat → Int64)) => (mW q cs isK isB fed res.2.1 ltr ab ps g kp nx fa tp res.2.2.1 res.2.2.2 ct it)) C dX6_readsPart_170 rfl rfl
                  · exact v_sub [] rfl (hk26)
            · refine v_ifb_eq C (b := v7) dX6_readsPart_135 (tgt := 143) (by decide) ?_ ?_
              · refine v_lload_n C 3 dX6_readsPart_143 rfl ?_
                exact v_sub [0] rfl (hk23 v21)
              · refine v_lload_n C 3 dX6_readsPart_138 rfl ?_
                refine v_lneg C dX6_readsPart_139 ?_
                refine v_goto C dX6_readsPart_140 (tgt := 144) (by decide) ?_
                exact v_sub [0] rfl (hk23 (-v21))
          · refine v_iconst C dX6_readsPart_76 (v := 0) (by decide) ?_
            exact v_zret (rvf := fun (res : Bool × Int32 × (Nat → Int32) × (Nat → Int64)) => (some (.int (bI res.1)))) (wf := fun (res : Bool × Int32 × (Nat → Int32) × (Nat → Int64)) => (mW q cs isK isB fed res.2.1 ltr ab ps g kp nx fa tp res.2.2.1 res.2.2.2 ct it)) C dX6_readsPart_77 rfl rfl
        · refine v_ifb_eq C (b := v7) dX6_readsPart_56 (tgt := 69) (by decide) ?_ ?_
          · exact v_sub [1, 2, 0] rfl (hk8 at_4)
          · refine v_aload_n C 1 dX6_readsPart_59 rfl ?_
            refine v_dup C dX6_readsPart_60 rfl ?_
            refine v_get C (T := TX6) (n := 16) (C9 := RX6) iX6 0 rfl rfl 10 (by decide) (List.mem_of_getElem? (i := 2) rfl) rfl rfl dX6_readsPart_61 ?_
            refine v_iconst C dX6_readsPart_64 (v := 1) (by decide) ?_
            refine v_iadd C dX6_readsPart_65 ?_
            refine v_put_nm C (v := (at_4 + 1 : Int32)) Value.int (ty := .int) (T := TX6) (n := 16) (C9 := RX6) (ty0 := tyX6) (fun at_28 => (mW q cs isK isB fed at_28 ltr ab ps g kp nx fa tp rs2 rv ct it)) iX6 tyX6_ok nmX6 0 rfl rfl rfl 10 (by decide) (List.mem_of_getElem? (i := 2) rfl) rfl rfl rfl (fun _ => rfl) (fun _ => rfl) (Nat.le_of_ble_eq_true rfl) (fun _ => rfl) dX6_readsPart_66 (fun at_28 => ?_)
            exact v_sub [1, 2, 0] rfl (hk8 at_28)
      · refine v_icmp_ne C dX6_readsPart_46 (tgt := 53) (by decide) ?_ ?_
        · refine v_iconst C dX6_readsPart_53 (v := 0) (by decide) ?_
          exact v_sub [0, 1] rfl (hk6 false)
        · refine v_iconst C dX6_readsPart_49 (v := 1) (by decide) ?_
          refine v_goto C dX6_readsPart_50 (tgt := 54) (by decide) ?_
          exact v_sub [0, 1] rfl (hk6 true)
    · refine v_iconst C dX6_readsPart_28 (v := 0) (by decide) ?_
      exact v_zret (rvf := fun (res : Bool × Int32 × (Nat → Int32) × (Nat → Int64)) => (some (.int (bI res.1)))) (wf := fun (res : Bool × Int32 × (Nat → Int32) × (Nat → Int64)) => (mW q cs isK isB fed res.2.1 ltr ab ps g kp nx fa tp res.2.2.1 res.2.2.2 ct it)) C dX6_readsPart_29 rfl rfl

def B_X6_read_1 (fed : Int32) (g : Nat → Int64) (tp : Nat → Int32) (rec4 : Int32 → Bool → Int32 → (Nat → Int32) → (Nat → Int64) → Option (Int32 × Int32 × Int32 × (Nat → Int64) × (Nat → Int32) × (Nat → Int64))) (kx5 : Int32 → Bool → Int32 → (Nat → Int32) → (Nat → Int64) → Option (Int32 × Int32 × Int32 × (Nat → Int64) × (Nat → Int32) × (Nat → Int64))) (v6 : Int32) (v7 : Bool) (at_8 : Int32) (rs9 : Nat → Int32) (rv10 : Nat → Int64) : Option (Int32 × Int32 × Int32 × (Nat → Int64) × (Nat → Int32) × (Nat → Int64)) :=
if v7 = true then (
(f_X6_here fed at_8 tp).bind (fun (r11 : Int32) =>
if (r11 : Int32) = 59 then (
nm (at_8 + 1) (fun (at_12 : Int32) =>
nm (v6 + 1) (fun (x13 : Int32) =>
(f_X6_readsPart fed at_12 g tp rs9 rv10 x13).bind (fun (r14 : Bool × Int32 × (Nat → Int32) × (Nat → Int64)) =>
rec4 x13 r14.1 r14.2.1 r14.2.2.1 r14.2.2.2)))) else (
kx5 v6 v7 at_8 rs9 rv10))) else (
kx5 v6 v7 at_8 rs9 rv10)
def L_X6_read_1 (fed : Int32) (g : Nat → Int64) (tp : Nat → Int32) (kx5 : Int32 → Bool → Int32 → (Nat → Int32) → (Nat → Int64) → Option (Int32 × Int32 × Int32 × (Nat → Int64) × (Nat → Int32) × (Nat → Int64))) : Nat → Int32 → Bool → Int32 → (Nat → Int32) → (Nat → Int64) → Option (Int32 × Int32 × Int32 × (Nat → Int64) × (Nat → Int32) × (Nat → Int64))
  | 0, _, _, _, _, _ => none
  | m9 + 1, v6, v7, at_8, rs9, rv10 => B_X6_read_1 fed g tp (L_X6_read_1 fed g tp kx5 m9) kx5 v6 v7 at_8 rs9 rv10

def B_X6_read_2 (a1 : Int32) (v15 : Int32) (at_17 : Int32) (rs18 : Nat → Int32) (rv19 : Nat → Int64) (fed20 : Int32) (rec21 : Int32 → (Nat → Int64) → Option (Int32 × Int32 × Int32 × (Nat → Int64) × (Nat → Int32) × (Nat → Int64)))  (v22 : Int32) (g23 : Nat → Int64) : Option (Int32 × Int32 × Int32 × (Nat → Int64) × (Nat → Int32) × (Nat → Int64)) :=
if (v15 : Int32) < v22 then (
some (v15 + 1, fed20, at_17, g23, rs18, rv19)) else (
ck (inb v22 120) (
ck (inb v22 120) (
ck (inb ((183 + (512 * a1)) + (rs18 v22.toNatClampNeg)) 2231) (
nm (vp_updL g23 ((183 + (512 * a1)) + (rs18 v22.toNatClampNeg)).toNatClampNeg (rv19 v22.toNatClampNeg)) (fun (g24 : Nat → Int64) =>
nm (v22 + 1) (fun (x25 : Int32) =>
rec21 x25 g24))))))
def L_X6_read_2 (a1 : Int32) (v15 : Int32) (at_17 : Int32) (rs18 : Nat → Int32) (rv19 : Nat → Int64) (fed20 : Int32)  : Nat → Int32 → (Nat → Int64) → Option (Int32 × Int32 × Int32 × (Nat → Int64) × (Nat → Int32) × (Nat → Int64))
  | 0, _, _ => none
  | m9 + 1, v22, g23 => B_X6_read_2 a1 v15 at_17 rs18 rv19 fed20 (L_X6_read_2 a1 v15 at_17 rs18 rv19 fed20 m9)  v22 g23

def f_X6_read (fed : Int32) (at_ : Int32) (g : Nat → Int64) (tp : Nat → Int32) (rs : Nat → Int32) (rv : Nat → Int64) (a1 : Int32) : Option (Int32 × Int32 × Int32 × (Nat → Int64) × (Nat → Int32) × (Nat → Int64)) :=
(f_X6_isGame a1).bind (fun (r1 : Bool) =>
if r1 = true then (
nm (0 : Int32) (fun (at_2 : Int32) =>
(f_X6_readsPart fed at_2 g tp rs rv 0).bind (fun (r3 : Bool × Int32 × (Nat → Int32) × (Nat → Int64)) =>
L_X6_read_1 fed g tp (fun (v15 : Int32) (v16 : Bool) (at_17 : Int32) (rs18 : Nat → Int32) (rv19 : Nat → Int64) =>
nm (0 : Int32) (fun (fed20 : Int32) =>
if v16 = true then (
L_X6_read_2 a1 v15 at_17 rs18 rv19 fed20  FU 0 g) else (
some ((-100) - at_17, fed20, at_17, g, rs18, rv19)))) FU 0 r3.1 r3.2.1 r3.2.2.1 r3.2.2.2))) else (
some ((-1), fed, at_, g, rs, rv)))

theorem nI_X6_read : NameIn yX6_read 1 := ⟨by decide +kernel, by decide +kernel, by decide +kernel⟩
set_option maxRecDepth 100000 in
set_option maxHeartbeats 4000000 in
theorem lp_X6_read_1 {X : CX} {res : Int32 × Int32 × Int32 × (Nat → Int64) × (Nat → Int32) × (Nat → Int64)} {a1 : Int32}   (hq : (mA q).Nodup) (hNK : NOK N) (C : Ok X cX6_read 5 (some .int) wsX6_read RX6 { frames := 3, cells := 0, slots := 0, locals := 72 } D vwCl (mT cs) (mA q) N (some (.int res.1)) (mW q cs isK isB res.2.1 res.2.2.1 ltr ab ps res.2.2.2.1 kp nx fa tp res.2.2.2.2.1 res.2.2.2.2.2 ct it))  (kx5 : Int32 → Bool → Int32 → (Nat → Int32) → (Nat → Int64) → Option (Int32 × Int32 × Int32 × (Nat → Int64) × (Nat → Int32) × (Nat → Int64))) (Jkx5 : ∀ y2 : Int32, ∀ y3 : Bool, ∀ at_Zz : Int32, ∀ rsZz : Nat → Int32, ∀ rvZz : Nat → Int64, VF X res (kx5 y2 y3 at_Zz rsZz rvZz) (mW q cs isK isB fed at_Zz ltr ab ps g kp nx fa tp rsZz rvZz ct it) 57 [(0, .ref (q 0)), (1, .int a1), (2, .int y2), (3, .int (bI y3))] []) : ∀ fuel : Nat, ∀ v6 : Int32, ∀ v7 : Bool, ∀ at_8 : Int32, ∀ rs9 : Nat → Int32, ∀ rv10 : Nat → Int64, VF X res (L_X6_read_1 fed g tp kx5 fuel v6 v7 at_8 rs9 rv10) (mW q cs isK isB fed at_8 ltr ab ps g kp nx fa tp rs9 rv10 ct it) 22 [(0, .ref (q 0)), (1, .int a1), (2, .int v6), (3, .int (bI v7))] [] := by
  have iX6 : ∀ w ∈ wsX60, w ∈ wsX6_read := fun _ h => List.mem_cons_of_mem _ (List.mem_append_right _ h)
  intro fuel
  induction fuel with
  | zero =>
    intro _ _ _ _ _
    exact v_none
  | succ fuel ih =>
    intro v6 v7 at_8 rs9 rv10
    show VF X res (B_X6_read_1 fed g tp (L_X6_read_1 fed g tp kx5 fuel) kx5 v6 v7 at_8 rs9 rv10) _ _ _ _
    unfold B_X6_read_1
    refine v_iload_n C 3 dX6_read_22 rfl ?_
    refine v_ifb_eq C (b := v7) dX6_read_23 (tgt := 57) (by decide) ?_ ?_
    · exact v_sub [0, 1, 2, 3] rfl (Jkx5 v6 v7 at_8 rs9 rv10)
    · refine v_aload_n C 0 dX6_read_26 rfl ?_
      refine v_callV0v C 0 rfl rfl rfl (fun l9 r9 h9 => k_X6_here (l := l9) hq hNK  h9) gX6_read_X6_here rfl nI_X6_here ⟨rfl, rfl, Nat.le_of_ble_eq_true rfl, Nat.le_of_ble_eq_true rfl⟩ dX6_read_27 (Nat.le_of_ble_eq_true rfl) (fun r11 => ?_)
      refine v_bipush C dX6_read_30 (v := 59) (by decide) ?_
      refine v_icmp_ne C dX6_read_32 (tgt := 57) (by decide) ?_ ?_
      · exact v_sub [0, 1, 2, 3] rfl (Jkx5 v6 v7 at_8 rs9 rv10)
      · refine v_aload_n C 0 dX6_read_35 rfl ?_
        refine v_dup C dX6_read_36 rfl ?_
        refine v_get C (T := TX6) (n := 16) (C9 := RX6) iX6 0 rfl rfl 10 (by decide) (List.mem_of_getElem? (i := 1) rfl) rfl rfl dX6_read_37 ?_
        refine v_iconst C dX6_read_40 (v := 1) (by decide) ?_
        refine v_iadd C dX6_read_41 ?_
        refine v_put_nm C (v := (at_8 + 1 : Int32)) Value.int (ty := .int) (T := TX6) (n := 16) (C9 := RX6) (ty0 := tyX6) (fun at_12 => (mW q cs isK isB fed at_12 ltr ab ps g kp nx fa tp rs9 rv10 ct it)) iX6 tyX6_ok nmX6 0 rfl rfl rfl 10 (by decide) (List.mem_of_getElem? (i := 1) rfl) rfl rfl rfl (fun _ => rfl) (fun _ => rfl) (Nat.le_of_ble_eq_true rfl) (fun _ => rfl) dX6_read_42 (fun at_12 => ?_)
        refine v_iinc_nm C (lvf := fun x13 => [(2, .int x13), (0, .ref (q 0)), (1, .int a1), (3, .int (bI v7))]) 2 dX6_read_45 rfl rfl (by decide) (fun _ => rfl) (fun x13 => ?_)
        refine v_aload_n C 1 dX6_read_48 rfl ?_
        refine v_iload_n C 0 dX6_read_49 rfl ?_
        refine v_callV1v C 0 rfl rfl rfl (fun l9 r9 h9 => k_X6_readsPart (l := l9) hq hNK  h9) gX6_read_X6_readsPart rfl nI_X6_readsPart ⟨rfl, rfl, Nat.le_of_ble_eq_true rfl, Nat.le_of_ble_eq_true rfl⟩ dX6_read_50 (Nat.le_of_ble_eq_true rfl) (fun r14 => ?_)
        refine v_istore_n C (lv' := [(3, .int (bI r14.1)), (2, .int x13), (0, .ref (q 0)), (1, .int a1)]) dX6_read_53 rfl (by decide) rfl ?_
        refine v_goto C dX6_read_54 (tgt := 22) (by decide) ?_
        exact v_sub [2, 3, 1, 0] rfl (ih x13 r14.1 r14.2.1 r14.2.2.1 r14.2.2.2)

set_option maxRecDepth 100000 in
set_option maxHeartbeats 4000000 in
theorem lp_X6_read_2 {X : CX} {res : Int32 × Int32 × Int32 × (Nat → Int64) × (Nat → Int32) × (Nat → Int64)} {a1 : Int32}  {v15 : Int32} {at_17 : Int32} {rs18 : Nat → Int32} {rv19 : Nat → Int64} {fed20 : Int32} (hq : (mA q).Nodup) (hNK : NOK N) (C : Ok X cX6_read 5 (some .int) wsX6_read RX6 { frames := 3, cells := 0, slots := 0, locals := 72 } D vwCl (mT cs) (mA q) N (some (.int res.1)) (mW q cs isK isB res.2.1 res.2.2.1 ltr ab ps res.2.2.2.1 kp nx fa tp res.2.2.2.2.1 res.2.2.2.2.2 ct it))  : ∀ fuel : Nat, ∀ v22 : Int32, ∀ g23 : Nat → Int64, VF X res (L_X6_read_2 a1 v15 at_17 rs18 rv19 fed20 fuel v22 g23) (mW q cs isK isB fed20 at_17 ltr ab ps g23 kp nx fa tp rs18 rv19 ct it) 77 [(0, .ref (q 0)), (1, .int a1), (2, .int v15), (4, .int v22)] [] := by
  have iX6 : ∀ w ∈ wsX60, w ∈ wsX6_read := fun _ h => List.mem_cons_of_mem _ (List.mem_append_right _ h)
  intro fuel
  induction fuel with
  | zero =>
    intro _ _
    exact v_none
  | succ fuel ih =>
    intro v22 g23
    show VF X res (B_X6_read_2 a1 v15 at_17 rs18 rv19 fed20 (L_X6_read_2 a1 v15 at_17 rs18 rv19 fed20 fuel)  v22 g23) _ _ _ _
    unfold B_X6_read_2
    refine v_iload C 3 dX6_read_77 rfl ?_
    refine v_iload_n C 2 dX6_read_79 rfl ?_
    refine v_icmp_gt C dX6_read_80 (tgt := 118) (by decide) ?_ ?_
    · refine v_iload_n C 2 dX6_read_118 rfl ?_
      refine v_iconst C dX6_read_119 (v := 1) (by decide) ?_
      refine v_iadd C dX6_read_120 ?_
      exact v_iret (rvf := fun (res : Int32 × Int32 × Int32 × (Nat → Int64) × (Nat → Int32) × (Nat → Int64)) => (some (.int res.1))) (wf := fun (res : Int32 × Int32 × Int32 × (Nat → Int64) × (Nat → Int32) × (Nat → Int64)) => (mW q cs isK isB res.2.1 res.2.2.1 ltr ab ps res.2.2.2.1 kp nx fa tp res.2.2.2.2.1 res.2.2.2.2.2 ct it)) C dX6_read_121 rfl rfl
    · refine v_aload_n C 0 dX6_read_83 rfl ?_
      refine v_get C (T := TX6) (n := 16) (C9 := RX6) iX6 0 rfl rfl 0 (by decide) (List.mem_of_getElem? (i := 3) rfl) rfl rfl dX6_read_84 ?_
      refine v_sipush C dX6_read_87 (v := 183) (by decide) ?_
      refine v_sipush C dX6_read_90 (v := 512) (by decide) ?_
      refine v_iload_n C 1 dX6_read_93 rfl ?_
      refine v_imul C dX6_read_94 ?_
      refine v_iadd C dX6_read_95 ?_
      refine v_aload_n C 0 dX6_read_96 rfl ?_
      refine v_get C (T := TX6) (n := 16) (C9 := RX6) iX6 0 rfl rfl 7 (by decide) (List.mem_of_getElem? (i := 4) rfl) rfl rfl dX6_read_97 ?_
      refine v_iload C 3 dX6_read_100 rfl ?_
      refine v_iald C 6 0 rfl rfl dX6_read_102 ?_
      refine v_iadd C dX6_read_103 ?_
      refine v_aload_n C 0 dX6_read_104 rfl ?_
      refine v_get C (T := TX6) (n := 16) (C9 := RX6) iX6 0 rfl rfl 8 (by decide) (List.mem_of_getElem? (i := 5) rfl) rfl rfl dX6_read_105 ?_
      refine v_iload C 3 dX6_read_108 rfl ?_
      refine v_lald C 7 1 rfl rfl dX6_read_110 ?_
      refine v_last_nm C (fun g24 => (mW q cs isK isB fed20 at_17 ltr ab ps g24 kp nx fa tp rs18 rv19 ct it)) 1 1 rfl rfl rfl (fun _ => rfl) dX6_read_111 (fun g24 => ?_)
      refine v_iinc_nm C (lvf := fun x25 => [(4, .int x25), (0, .ref (q 0)), (1, .int a1), (2, .int v15)]) 3 dX6_read_112 rfl rfl (by decide) (fun _ => rfl) (fun x25 => ?_)
      refine v_goto C dX6_read_115 (tgt := 77) (by decide) ?_
      exact v_sub [1, 2, 3, 0] rfl (ih x25 g24)

set_option maxRecDepth 100000 in
set_option maxHeartbeats 4000000 in
theorem k_X6_read {l : Launch} {a1 : Int32}  {res : Int32 × Int32 × Int32 × (Nat → Int64) × (Nat → Int32) × (Nat → Int64)} (hq : (mA q).Nodup) (hNK : NOK N)  (hf : f_X6_read fed at_ g tp rs rv a1 = some res) : kMet l yX6_read wsX6_read { frames := 3, cells := 0, slots := 0, locals := 72 } D vwCl (mT cs) N (mA q) [.ref (q 0), .int a1] (mW q cs isK isB fed at_ ltr ab ps g kp nx fa tp rs rv ct it) (some (.int res.1)) (mW q cs isK isB res.2.1 res.2.2.1 ltr ab ps res.2.2.2.1 kp nx fa tp res.2.2.2.2.1 res.2.2.2.2.2 ct it) := by
  have iX6 : ∀ w ∈ wsX60, w ∈ wsX6_read := fun _ h => List.mem_cons_of_mem _ (List.mem_append_right _ h)
  refine kMet.of (cc := cX6_read) (nL := 5) (ret := (some .int)) (own := RX6) (lv := [(0, .ref (q 0)), (1, .int a1)]) (by decide +kernel) rfl rfl hNK hq (Nat.le_of_ble_eq_true rfl) rfl (fun X C => ?_)
  refine VF.of hf ?_
  unfold f_X6_read
  refine v_iload_n C 1 dX6_read_0 rfl ?_
  refine v_callSP1v C (fun l9 r9 h9 => k_X6_isGame (l := l9) h9) gX6_read_X6_isGame rfl nI_X6_isGame ⟨rfl, rfl, Nat.le_of_ble_eq_true rfl, Nat.le_of_ble_eq_true rfl⟩ dX6_read_1 (Nat.le_of_ble_eq_true rfl) (fun r1 => ?_)
  refine v_ifb_ne C (b := r1) dX6_read_4 (tgt := 9) (by decide) ?_ ?_
  · refine v_aload_n C 0 dX6_read_9 rfl ?_
    refine v_iconst C dX6_read_10 (v := 0) (by decide) ?_
    refine v_put_nm C (v := (0 : Int32)) Value.int (ty := .int) (T := TX6) (n := 16) (C9 := RX6) (ty0 := tyX6) (fun at_2 => (mW q cs isK isB fed at_2 ltr ab ps g kp nx fa tp rs rv ct it)) iX6 tyX6_ok nmX6 0 rfl rfl rfl 10 (by decide) (List.mem_of_getElem? (i := 1) rfl) rfl rfl rfl (fun _ => rfl) (fun _ => rfl) (Nat.le_of_ble_eq_true rfl) (fun _ => rfl) dX6_read_11 (fun at_2 => ?_)
    refine v_iconst C dX6_read_14 (v := 0) (by decide) ?_
    refine v_istore_n C (lv' := [(2, .int 0), (0, .ref (q 0)), (1, .int a1)]) dX6_read_15 rfl (by decide) rfl ?_
    refine v_aload_n C 1 dX6_read_16 rfl ?_
    refine v_iconst C dX6_read_17 (v := 0) (by decide) ?_
    refine v_callV1v C 0 rfl rfl rfl (fun l9 r9 h9 => k_X6_readsPart (l := l9) hq hNK  h9) gX6_read_X6_readsPart rfl nI_X6_readsPart ⟨rfl, rfl, Nat.le_of_ble_eq_true rfl, Nat.le_of_ble_eq_true rfl⟩ dX6_read_18 (Nat.le_of_ble_eq_true rfl) (fun r3 => ?_)
    refine v_istore_n C (lv' := [(3, .int (bI r3.1)), (2, .int 0), (0, .ref (q 0)), (1, .int a1)]) dX6_read_21 rfl (by decide) rfl ?_
    refine v_sub [2, 3, 1, 0] rfl (lp_X6_read_1 hq hNK C  _ (fun v15 v16 at_17 rs18 rv19 => ?_) FU 0 r3.1 r3.2.1 r3.2.2.1 r3.2.2.2)
    refine v_aload_n C 0 dX6_read_57 rfl ?_
    refine v_iconst C dX6_read_58 (v := 0) (by decide) ?_
    refine v_put_nm C (v := (0 : Int32)) Value.int (ty := .int) (T := TX6) (n := 16) (C9 := RX6) (ty0 := tyX6) (fun fed20 => (mW q cs isK isB fed20 at_17 ltr ab ps g kp nx fa tp rs18 rv19 ct it)) iX6 tyX6_ok nmX6 0 rfl rfl rfl 9 (by decide) (List.mem_of_getElem? (i := 2) rfl) rfl rfl rfl (fun _ => rfl) (fun _ => rfl) (Nat.le_of_ble_eq_true rfl) (fun _ => rfl) dX6_read_59 (fun fed20 => ?_)
    refine v_iload_n C 3 dX6_read_62 rfl ?_
    refine v_ifb_ne C (b := v16) dX6_read_63 (tgt := 74) (by decide) ?_ ?_
    · refine v_iconst C dX6_read_74 (v := 0) (by decide) ?_
      refine v_istore C (lv' := [(4, .int 0), (0, .ref (q 0)), (1, .int a1), (2, .int v15), (3, .int (bI v16))]) dX6_read_75 (by decide) rfl ?_
      refine v_sub [1, 2, 3, 0] rfl (lp_X6_read_2 hq hNK C   FU 0 g)
    · refine v_bipush C dX6_read_66 (v := (-100)) (by decide) ?_
      refine v_aload_n C 0 dX6_read_68 rfl ?_
      refine v_get C (T := TX6) (n := 16) (C9 := RX6) iX6 0 rfl rfl 10 (by decide) (List.mem_of_getElem? (i := 1) rfl) rfl rfl dX6_read_69 ?_
      refine v_isub C dX6_read_72 ?_
      exact v_iret (rvf := fun (res : Int32 × Int32 × Int32 × (Nat → Int64) × (Nat → Int32) × (Nat → Int64)) => (some (.int res.1))) (wf := fun (res : Int32 × Int32 × Int32 × (Nat → Int64) × (Nat → Int32) × (Nat → Int64)) => (mW q cs isK isB res.2.1 res.2.2.1 ltr ab ps res.2.2.2.1 kp nx fa tp res.2.2.2.2.1 res.2.2.2.2.2 ct it)) C dX6_read_73 rfl rfl
  · refine v_iconst C dX6_read_7 (v := (-1)) (by decide) ?_
    exact v_iret (rvf := fun (res : Int32 × Int32 × Int32 × (Nat → Int64) × (Nat → Int32) × (Nat → Int64)) => (some (.int res.1))) (wf := fun (res : Int32 × Int32 × Int32 × (Nat → Int64) × (Nat → Int32) × (Nat → Int64)) => (mW q cs isK isB res.2.1 res.2.2.1 ltr ab ps res.2.2.2.1 kp nx fa tp res.2.2.2.2.1 res.2.2.2.2.2 ct it)) C dX6_read_8 rfl rfl

end WK
