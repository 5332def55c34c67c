section WK
variable {q : Nat → Nat} {cs : Nat → ClassId} {D : va_G} {N : (Nat → Prop) → State → Prop} {isK : Bool} {isB : Bool} {fed : Int32} {at_ : Int32} {ltr : Int32} {ab : Int64} {ps : Nat} {g : Nat → Int64} {kp : Nat → Int64} {nx : Nat → Int64} {fa : Nat → Int64} {tp : Nat → Int32} {rs : Nat → Int32} {rv : Nat → Int64} {ct : Nat → Int32} {it : Nat → Int64}
def B_X6_image_1 (g : Nat → Int64) (rec1 : Int32 → Bool → (Nat → Int64) → Option (Int32 × Bool × (Nat → Int64)))  (v2 : Int32) (isK3 : Bool) (kp4 : Nat → Int64) : Option (Int32 × Bool × (Nat → Int64)) :=
if (v2 : Int32) < 2231 then (
ck (inb v2 2231) (
ck (inb v2 2231) (
nm (vp_updL kp4 v2.toNatClampNeg (g v2.toNatClampNeg)) (fun (kp7 : Nat → Int64) =>
nm (v2 + 1) (fun (x8 : Int32) =>
rec1 x8 isK3 kp7))))) else (
nm true (fun (isK5 : Bool) =>
(f_X6_n g).bind (fun (r6 : Int32) =>
some (r6, isK5, kp4))))
def L_X6_image_1 (g : Nat → Int64)  : Nat → Int32 → Bool → (Nat → Int64) → Option (Int32 × Bool × (Nat → Int64))
  | 0, _, _, _ => none
  | m9 + 1, v2, isK3, kp4 => B_X6_image_1 g (L_X6_image_1 g m9)  v2 isK3 kp4

def f_X6_image (isK : Bool) (g : Nat → Int64) (kp : Nat → Int64) : Option (Int32 × Bool × (Nat → Int64)) :=
L_X6_image_1 g  FU 0 isK kp

theorem nI_X6_image : NameIn yX6_image 0 := ⟨by decide +kernel, by decide +kernel, by decide +kernel⟩
set_option maxRecDepth 100000 in
set_option maxHeartbeats 4000000 in
theorem lp_X6_image_1 {X : CX} {res : Int32 × Bool × (Nat → Int64)}    (hq : (mA q).Nodup) (hNK : NOK N) (C : Ok X cX6_image 2 (some .int) wsX6_image RX6 { frames := 1, cells := 0, slots := 0, locals := 20 } D vwCl (mT cs) (mA q) N (some (.int res.1)) (mW q cs res.2.1 isB fed at_ ltr ab ps g res.2.2 nx fa tp rs rv ct it))  : ∀ fuel : Nat, ∀ v2 : Int32, ∀ isK3 : Bool, ∀ kp4 : Nat → Int64, VF X res (L_X6_image_1 g fuel v2 isK3 kp4) (mW q cs isK3 isB fed at_ ltr ab ps g kp4 nx fa tp rs rv ct it) 2 [(0, .ref (q 0)), (1, .int v2)] [] := by
  have iX6 : ∀ w ∈ wsX60, w ∈ wsX6_image := fun _ h => List.mem_cons_of_mem _ (List.mem_append_right _ h)
  intro fuel
  induction fuel with
  | zero =>
    intro _ _ _
    exact v_none
  | succ fuel ih =>
    intro v2 isK3 kp4
    show VF X res (B_X6_image_1 g (L_X6_image_1 g fuel)  v2 isK3 kp4) _ _ _ _
    unfold B_X6_image_1
    refine v_iload_n C 1 dX6_image_2 rfl ?_
    refine v_sipush C dX6_image_3 (v := 2231) (by decide) ?_
    refine v_icmp_ge C dX6_image_6 (tgt := 27) (by decide) ?_ ?_
    · refine v_aload_n C 0 dX6_image_27 rfl ?_
      refine v_iconst C dX6_image_28 (v := 1) (by decide) ?_
      refine v_put_nm C (v := true) (fun z9 => Value.int (bI z9)) (ty := .boolean) (T := TX6) (n := 16) (C9 := RX6) (ty0 := tyX6) (fun isK5 => (mW q cs isK5 isB fed at_ ltr ab ps g kp4 nx fa tp rs rv ct it)) iX6 tyX6_ok nmX6 0 rfl rfl rfl 4 (by decide) (List.mem_of_getElem? (i := 3) rfl) rfl rfl rfl bI_nar bI_fit (Nat.le_of_ble_eq_true rfl) (fun _ => rfl) dX6_image_29 (fun isK5 => ?_)
      refine v_aload_n C 0 dX6_image_32 rfl ?_
      refine v_callV0v C 0 rfl rfl rfl (fun l9 r9 h9 => k_X6_n (l := l9) hq hNK  h9) gX6_image_X6_n rfl nI_X6_n ⟨rfl, rfl, Nat.le_of_ble_eq_true rfl, Nat.le_of_ble_eq_true rfl⟩ dX6_image_33 (Nat.le_of_ble_eq_true rfl) (fun r6 => ?_)
      exact v_iret (rvf := fun (res : Int32 × Bool × (Nat → Int64)) => (some (.int res.1))) (wf := fun (res : Int32 × Bool × (Nat → Int64)) => (mW q cs res.2.1 isB fed at_ ltr ab ps g res.2.2 nx fa tp rs rv ct it)) C dX6_image_36 rfl rfl
    · refine v_aload_n C 0 dX6_image_9 rfl ?_
      refine v_get C (T := TX6) (n := 16) (C9 := RX6) iX6 0 rfl rfl 1 (by decide) (List.mem_of_getElem? (i := 1) rfl) rfl rfl dX6_image_10 ?_
      refine v_iload_n C 1 dX6_image_13 rfl ?_
      refine v_aload_n C 0 dX6_image_14 rfl ?_
      refine v_get C (T := TX6) (n := 16) (C9 := RX6) iX6 0 rfl rfl 0 (by decide) (List.mem_of_getElem? (i := 2) rfl) rfl rfl dX6_image_15 ?_
      refine v_iload_n C 1 dX6_image_18 rfl ?_
      refine v_lald C 1 1 rfl rfl dX6_image_19 ?_
      refine v_last_nm C (fun kp7 => (mW q cs isK3 isB fed at_ ltr ab ps g kp7 nx fa tp rs rv ct it)) 2 1 rfl rfl rfl (fun _ => rfl) dX6_image_20 (fun kp7 => ?_)
      refine v_iinc_nm C (lvf := fun x8 => [(1, .int x8), (0, .ref (q 0))]) 1 dX6_image_21 rfl rfl (by decide) (fun _ => rfl) (fun x8 => ?_)
      refine v_goto C dX6_image_24 (tgt := 2) (by decide) ?_
      exact v_sub [1, 0] rfl (ih x8 isK3 kp7)

set_option maxRecDepth 100000 in
set_option maxHeartbeats 4000000 in
theorem k_X6_image {l : Launch}   {res : Int32 × Bool × (Nat → Int64)} (hq : (mA q).Nodup) (hNK : NOK N)  (hf : f_X6_image isK g kp = some res) : kMet l yX6_image wsX6_image { frames := 1, cells := 0, slots := 0, locals := 20 } D vwCl (mT cs) N (mA q) [.ref (q 0)] (mW q cs isK isB fed at_ ltr ab ps g kp nx fa tp rs rv ct it) (some (.int res.1)) (mW q cs res.2.1 isB fed at_ ltr ab ps g res.2.2 nx fa tp rs rv ct it) := by
  refine kMet.of (cc := cX6_image) (nL := 2) (ret := (some .int)) (own := RX6) (lv := [(0, .ref (q 0))]) (by decide +kernel) rfl rfl hNK hq (Nat.le_of_ble_eq_true rfl) rfl (fun X C => ?_)
  refine VF.of hf ?_
  unfold f_X6_image
  refine v_iconst C dX6_image_0 (v := 0) (by decide) ?_
  refine v_istore_n C (lv' := [(1, .int 0), (0, .ref (q 0))]) dX6_image_1 rfl (by decide) rfl ?_
  refine v_sub [1, 0] rfl (lp_X6_image_1 hq hNK C   FU 0 isK kp)

def B_X6_undo_1 (kp : Nat → Int64) (rec1 : Int32 → (Nat → Int64) → Option (Int32 × (Nat → Int64)))  (v2 : Int32) (g3 : Nat → Int64) : Option (Int32 × (Nat → Int64)) :=
if (v2 : Int32) < 2231 then (
ck (inb v2 2231) (
ck (inb v2 2231) (
nm (vp_updL g3 v2.toNatClampNeg (kp v2.toNatClampNeg)) (fun (g5 : Nat → Int64) =>
nm (v2 + 1) (fun (x6 : Int32) =>
rec1 x6 g5))))) else (
(f_X6_n g3).bind (fun (r4 : Int32) =>
some (r4, g3)))
def L_X6_undo_1 (kp : Nat → Int64)  : Nat → Int32 → (Nat → Int64) → Option (Int32 × (Nat → Int64))
  | 0, _, _ => none
  | m9 + 1, v2, g3 => B_X6_undo_1 kp (L_X6_undo_1 kp m9)  v2 g3

def f_X6_undo (isK : Bool) (g : Nat → Int64) (kp : Nat → Int64) : Option (Int32 × (Nat → Int64)) :=
if isK = true then (
L_X6_undo_1 kp  FU 0 g) else (
some ((-3), g))

theorem nI_X6_undo : NameIn yX6_undo 0 := ⟨by decide +kernel, by decide +kernel, by decide +kernel⟩
set_option maxRecDepth 100000 in
set_option maxHeartbeats 4000000 in
theorem lp_X6_undo_1 {X : CX} {res : Int32 × (Nat → Int64)}    (hq : (mA q).Nodup) (hNK : NOK N) (C : Ok X cX6_undo 2 (some .int) wsX6_undo RX6 { frames := 1, cells := 0, slots := 0, locals := 20 } D vwCl (mT cs) (mA q) N (some (.int res.1)) (mW q cs isK isB fed at_ ltr ab ps res.2 kp nx fa tp rs rv ct it))  : ∀ fuel : Nat, ∀ v2 : Int32, ∀ g3 : Nat → Int64, VF X res (L_X6_undo_1 kp fuel v2 g3) (mW q cs isK isB fed at_ ltr ab ps g3 kp nx fa tp rs rv ct it) 12 [(0, .ref (q 0)), (1, .int v2)] [] := by
  have iX6 : ∀ w ∈ wsX60, w ∈ wsX6_undo := fun _ h => List.mem_cons_of_mem _ (List.mem_append_right _ h)
  intro fuel
  induction fuel with
  | zero =>
    intro _ _
    exact v_none
  | succ fuel ih =>
    intro v2 g3
    show VF X res (B_X6_undo_1 kp (L_X6_undo_1 kp fuel)  v2 g3) _ _ _ _
    unfold B_X6_undo_1
    refine v_iload_n C 1 dX6_undo_12 rfl ?_
    refine v_sipush C dX6_undo_13 (v := 2231) (by decide) ?_
    refine v_icmp_ge C dX6_undo_16 (tgt := 37) (by decide) ?_ ?_
    · refine v_aload_n C 0 dX6_undo_37 rfl ?_
      refine v_callV0v C 0 rfl rfl rfl (fun l9 r9 h9 => k_X6_n (l := l9) hq hNK  h9) gX6_undo_X6_n rfl nI_X6_n ⟨rfl, rfl, Nat.le_of_ble_eq_true rfl, Nat.le_of_ble_eq_true rfl⟩ dX6_undo_38 (Nat.le_of_ble_eq_true rfl) (fun r4 => ?_)
      exact v_iret (rvf := fun (res : Int32 × (Nat → Int64)) => (some (.int res.1))) (wf := fun (res : Int32 × (Nat → Int64)) => (mW q cs isK isB fed at_ ltr ab ps res.2 kp nx fa tp rs rv ct it)) C dX6_undo_41 rfl rfl
    · refine v_aload_n C 0 dX6_undo_19 rfl ?_
      refine v_get C (T := TX6) (n := 16) (C9 := RX6) iX6 0 rfl rfl 0 (by decide) (List.mem_of_getElem? (i := 2) rfl) rfl rfl dX6_undo_20 ?_
      refine v_iload_n C 1 dX6_undo_23 rfl ?_
      refine v_aload_n C 0 dX6_undo_24 rfl ?_
      refine v_get C (T := TX6) (n := 16) (C9 := RX6) iX6 0 rfl rfl 1 (by decide) (List.mem_of_getElem? (i := 3) rfl) rfl rfl dX6_undo_25 ?_
      refine v_iload_n C 1 dX6_undo_28 rfl ?_
      refine v_lald C 2 1 rfl rfl dX6_undo_29 ?_
      refine v_last_nm C (fun g5 => (mW q cs isK isB fed at_ ltr ab ps g5 kp nx fa tp rs rv ct it)) 1 1 rfl rfl rfl (fun _ => rfl) dX6_undo_30 (fun g5 => ?_)
      refine v_iinc_nm C (lvf := fun x6 => [(1, .int x6), (0, .ref (q 0))]) 1 dX6_undo_31 rfl rfl (by decide) (fun _ => rfl) (fun x6 => ?_)
      refine v_goto C dX6_undo_34 (tgt := 12) (by decide) ?_
      exact v_sub [1, 0] rfl (ih x6 g5)

set_option maxRecDepth 100000 in
set_option maxHeartbeats 4000000 in
theorem k_X6_undo {l : Launch}   {res : Int32 × (Nat → Int64)} (hq : (mA q).Nodup) (hNK : NOK N)  (hf : f_X6_undo isK g kp = some res) : kMet l yX6_undo wsX6_undo { frames := 1, cells := 0, slots := 0, locals := 20 } D vwCl (mT cs) N (mA q) [.ref (q 0)] (mW q cs isK isB fed at_ ltr ab ps g kp nx fa tp rs rv ct it) (some (.int res.1)) (mW q cs isK isB fed at_ ltr ab ps res.2 kp nx fa tp rs rv ct it) := by
  have iX6 : ∀ w ∈ wsX60, w ∈ wsX6_undo := fun _ h => List.mem_cons_of_mem _ (List.mem_append_right _ h)
  refine kMet.of (cc := cX6_undo) (nL := 2) (ret := (some .int)) (own := RX6) (lv := [(0, .ref (q 0))]) (by decide +kernel) rfl rfl hNK hq (Nat.le_of_ble_eq_true rfl) rfl (fun X C => ?_)
  refine VF.of hf ?_
  unfold f_X6_undo
  refine v_aload_n C 0 dX6_undo_0 rfl ?_
  refine v_get C (T := TX6) (n := 16) (C9 := RX6) iX6 0 rfl rfl 4 (by decide) (List.mem_of_getElem? (i := 1) rfl) rfl rfl dX6_undo_1 ?_
  refine v_ifb_ne C (b := isK) dX6_undo_4 (tgt := 10) (by decide) ?_ ?_
  · refine v_iconst C dX6_undo_10 (v := 0) (by decide) ?_
    refine v_istore_n C (lv' := [(1, .int 0), (0, .ref (q 0))]) dX6_undo_11 rfl (by decide) rfl ?_
    refine v_sub [1, 0] rfl (lp_X6_undo_1 hq hNK C   FU 0 g)
  · refine v_bipush C dX6_undo_7 (v := (-3)) (by decide) ?_
    exact v_iret (rvf := fun (res : Int32 × (Nat → Int64)) => (some (.int res.1))) (wf := fun (res : Int32 × (Nat → Int64)) => (mW q cs isK isB fed at_ ltr ab ps res.2 kp nx fa tp rs rv ct it)) C dX6_undo_9 rfl rfl

end WK
