section WK
variable {q : Nat → Nat} {cs : Nat → ClassId} {D : va_G} {N : (Nat → Prop) → State → Prop} {isK : Bool} {isB : Bool} {fed : Int32} {at_ : Int32} {ltr : Int32} {ab : Int64} {ps : Nat} {g : Nat → Int64} {kp : Nat → Int64} {nx : Nat → Int64} {fa : Nat → Int64} {tp : Nat → Int32} {rs : Nat → Int32} {rv : Nat → Int64} {ct : Nat → Int32} {it : Nat → Int64}
def B_X6_cover_1 (a1 : Int32) (rec4 : Int32 → Bool → (Nat → Int64) → (Nat → Int64) → Option (Int32 × Bool × (Nat → Int64) × (Nat → Int64)))  (v5 : Int32) (isB6 : Bool) (g7 : Nat → Int64) (nx8 : Nat → Int64) : Option (Int32 × Bool × (Nat → Int64) × (Nat → Int64)) :=
(f_X6_all g7).bind (fun (r9 : Int32) =>
if (r9 : Int32) < v5 then (
(f_X6_takes isB6 g7 nx8 a1).bind (fun (r10 : Int32 × (Nat → Int64)) =>
some (r10.1, isB6, r10.2, nx8))) else (
(f_X6_covered isB6 g7 nx8 a1 v5).bind (fun (r11 : Int64 × Bool) =>
ck (inb v5 512) (
nm (vp_updL nx8 v5.toNatClampNeg r11.1) (fun (nx12 : Nat → Int64) =>
nm (v5 + 1) (fun (x13 : Int32) =>
rec4 x13 r11.2 g7 nx12))))))
def L_X6_cover_1 (a1 : Int32)  : Nat → Int32 → Bool → (Nat → Int64) → (Nat → Int64) → Option (Int32 × Bool × (Nat → Int64) × (Nat → Int64))
  | 0, _, _, _, _ => none
  | m9 + 1, v5, isB6, g7, nx8 => B_X6_cover_1 a1 (L_X6_cover_1 a1 m9)  v5 isB6 g7 nx8

def f_X6_cover (isB : Bool) (g : Nat → Int64) (nx : Nat → Int64) (a1 : Int32) : Option (Int32 × Bool × (Nat → Int64) × (Nat → Int64)) :=
(f_X6_isGame a1).bind (fun (r1 : Bool) =>
if r1 = true then (
nm false (fun (isB2 : Bool) =>
ck (inb (0 : Int32) 512) (
nm (vp_updL nx (0 : Int32).toNatClampNeg 0) (fun (nx3 : Nat → Int64) =>
L_X6_cover_1 a1  FU 1 isB2 g nx3)))) else (
some ((-1), isB, g, nx)))

theorem nI_X6_cover : NameIn yX6_cover 1 := ⟨by decide +kernel, by decide +kernel, by decide +kernel⟩
set_option maxRecDepth 100000 in
set_option maxHeartbeats 4000000 in
theorem lp_X6_cover_1 {X : CX} {res : Int32 × Bool × (Nat → Int64) × (Nat → Int64)} {a1 : Int32}   (hq : (mA q).Nodup) (hNK : NOK N) (C : Ok X cX6_cover 3 (some .int) wsX6_cover RX6 { frames := 3, cells := 0, slots := 0, locals := 63 } D vwCl (mT cs) (mA q) N (some (.int res.1)) (mW q cs isK res.2.1 fed at_ ltr ab ps res.2.2.1 kp res.2.2.2 fa tp rs rv ct it))  : ∀ fuel : Nat, ∀ v5 : Int32, ∀ isB6 : Bool, ∀ g7 : Nat → Int64, ∀ nx8 : Nat → Int64, VF X res (L_X6_cover_1 a1 fuel v5 isB6 g7 nx8) (mW q cs isK isB6 fed at_ ltr ab ps g7 kp nx8 fa tp rs rv ct it) 23 [(0, .ref (q 0)), (1, .int a1), (2, .int v5)] [] := by
  have iX6 : ∀ w ∈ wsX60, w ∈ wsX6_cover := fun _ h => List.mem_cons_of_mem _ (List.mem_append_right _ h)
  intro fuel
  induction fuel with
  | zero =>
    intro _ _ _ _
    exact v_none
  | succ fuel ih =>
    intro v5 isB6 g7 nx8
    show VF X res (B_X6_cover_1 a1 (L_X6_cover_1 a1 fuel)  v5 isB6 g7 nx8) _ _ _ _
    unfold B_X6_cover_1
    refine v_iload_n C 2 dX6_cover_23 rfl ?_
    refine v_aload_n C 0 dX6_cover_24 rfl ?_
    refine v_callV0v C 0 rfl rfl rfl (fun l9 r9 h9 => k_X6_all (l := l9) hq hNK  h9) gX6_cover_X6_all rfl nI_X6_all ⟨rfl, rfl, Nat.le_of_ble_eq_true rfl, Nat.le_of_ble_eq_true rfl⟩ dX6_cover_25 (Nat.le_of_ble_eq_true rfl) (fun r9 => ?_)
    refine v_icmp_gt C dX6_cover_28 (tgt := 49) (by decide) ?_ ?_
    · refine v_aload_n C 0 dX6_cover_49 rfl ?_
      refine v_iload_n C 1 dX6_cover_50 rfl ?_
      refine v_callV1v C 0 rfl rfl rfl (fun l9 r9 h9 => k_X6_takes (l := l9) hq hNK  h9) gX6_cover_X6_takes rfl nI_X6_takes ⟨rfl, rfl, Nat.le_of_ble_eq_true rfl, Nat.le_of_ble_eq_true rfl⟩ dX6_cover_51 (Nat.le_of_ble_eq_true rfl) (fun r10 => ?_)
      exact v_iret (rvf := fun (res : Int32 × Bool × (Nat → Int64) × (Nat → Int64)) => (some (.int res.1))) (wf := fun (res : Int32 × Bool × (Nat → Int64) × (Nat → Int64)) => (mW q cs isK res.2.1 fed at_ ltr ab ps res.2.2.1 kp res.2.2.2 fa tp rs rv ct it)) C dX6_cover_54 rfl rfl
    · refine v_aload_n C 0 dX6_cover_31 rfl ?_
      refine v_get C (T := TX6) (n := 16) (C9 := RX6) iX6 0 rfl rfl 2 (by decide) (List.mem_of_getElem? (i := 2) rfl) rfl rfl dX6_cover_32 ?_
      refine v_iload_n C 2 dX6_cover_35 rfl ?_
      refine v_aload_n C 0 dX6_cover_36 rfl ?_
      refine v_iload_n C 1 dX6_cover_37 rfl ?_
      refine v_iload_n C 2 dX6_cover_38 rfl ?_
      refine v_callV2v C 0 rfl rfl rfl (fun l9 r9 h9 => k_X6_covered (l := l9) hq hNK  h9) gX6_cover_X6_covered rfl nI_X6_covered ⟨rfl, rfl, Nat.le_of_ble_eq_true rfl, Nat.le_of_ble_eq_true rfl⟩ dX6_cover_39 (Nat.le_of_ble_eq_true rfl) (fun r11 => ?_)
      refine v_last_nm C (fun nx12 => (mW q cs isK r11.2 fed at_ ltr ab ps g7 kp nx12 fa tp rs rv ct it)) 3 1 rfl rfl rfl (fun _ => rfl) dX6_cover_42 (fun nx12 => ?_)
      refine v_iinc_nm C (lvf := fun x13 => [(2, .int x13), (0, .ref (q 0)), (1, .int a1)]) 2 dX6_cover_43 rfl rfl (by decide) (fun _ => rfl) (fun x13 => ?_)
      refine v_goto C dX6_cover_46 (tgt := 23) (by decide) ?_
      exact v_sub [1, 2, 0] rfl (ih x13 r11.2 g7 nx12)

set_option maxRecDepth 100000 in
set_option maxHeartbeats 4000000 in
theorem k_X6_cover {l : Launch} {a1 : Int32}  {res : Int32 × Bool × (Nat → Int64) × (Nat → Int64)} (hq : (mA q).Nodup) (hNK : NOK N)  (hf : f_X6_cover isB g nx a1 = some res) : kMet l yX6_cover wsX6_cover { frames := 3, cells := 0, slots := 0, locals := 63 } D vwCl (mT cs) N (mA q) [.ref (q 0), .int a1] (mW q cs isK isB fed at_ ltr ab ps g kp nx fa tp rs rv ct it) (some (.int res.1)) (mW q cs isK res.2.1 fed at_ ltr ab ps res.2.2.1 kp res.2.2.2 fa tp rs rv ct it) := by
  have iX6 : ∀ w ∈ wsX60, w ∈ wsX6_cover := fun _ h => List.mem_cons_of_mem _ (List.mem_append_right _ h)
  refine kMet.of (cc := cX6_cover) (nL := 3) (ret := (some .int)) (own := RX6) (lv := [(0, .ref (q 0)), (1, .int a1)]) (by decide +kernel) rfl rfl hNK hq (Nat.le_of_ble_eq_true rfl) rfl (fun X C => ?_)
  refine VF.of hf ?_
  unfold f_X6_cover
  refine v_iload_n C 1 dX6_cover_0 rfl ?_
  refine v_callSP1v C (fun l9 r9 h9 => k_X6_isGame (l := l9) h9) gX6_cover_X6_isGame rfl nI_X6_isGame ⟨rfl, rfl, Nat.le_of_ble_eq_true rfl, Nat.le_of_ble_eq_true rfl⟩ dX6_cover_1 (Nat.le_of_ble_eq_true rfl) (fun r1 => ?_)
  refine v_ifb_ne C (b := r1) dX6_cover_4 (tgt := 9) (by decide) ?_ ?_
  · refine v_aload_n C 0 dX6_cover_9 rfl ?_
    refine v_iconst C dX6_cover_10 (v := 0) (by decide) ?_
    refine v_put_nm C (v := false) (fun z9 => Value.int (bI z9)) (ty := .boolean) (T := TX6) (n := 16) (C9 := RX6) (ty0 := tyX6) (fun isB2 => (mW q cs isK isB2 fed at_ ltr ab ps g kp nx fa tp rs rv ct it)) iX6 tyX6_ok nmX6 0 rfl rfl rfl 5 (by decide) (List.mem_of_getElem? (i := 1) rfl) rfl rfl rfl bI_nar bI_fit (Nat.le_of_ble_eq_true rfl) (fun _ => rfl) dX6_cover_11 (fun isB2 => ?_)
    refine v_aload_n C 0 dX6_cover_14 rfl ?_
    refine v_get C (T := TX6) (n := 16) (C9 := RX6) iX6 0 rfl rfl 2 (by decide) (List.mem_of_getElem? (i := 2) rfl) rfl rfl dX6_cover_15 ?_
    refine v_iconst C dX6_cover_18 (v := 0) (by decide) ?_
    refine v_lconst C dX6_cover_19 (v := 0) (by decide) ?_
    refine v_last_nm C (fun nx3 => (mW q cs isK isB2 fed at_ ltr ab ps g kp nx3 fa tp rs rv ct it)) 3 1 rfl rfl rfl (fun _ => rfl) dX6_cover_20 (fun nx3 => ?_)
    refine v_iconst C dX6_cover_21 (v := 1) (by decide) ?_
    refine v_istore_n C (lv' := [(2, .int 1), (0, .ref (q 0)), (1, .int a1)]) dX6_cover_22 rfl (by decide) rfl ?_
    refine v_sub [1, 2, 0] rfl (lp_X6_cover_1 hq hNK C   FU 1 isB2 g nx3)
  · refine v_iconst C dX6_cover_7 (v := (-1)) (by decide) ?_
    exact v_iret (rvf := fun (res : Int32 × Bool × (Nat → Int64) × (Nat → Int64)) => (some (.int res.1))) (wf := fun (res : Int32 × Bool × (Nat → Int64) × (Nat → Int64)) => (mW q cs isK res.2.1 fed at_ ltr ab ps res.2.2.1 kp res.2.2.2 fa tp rs rv ct it)) C dX6_cover_8 rfl rfl

def B_X6_mask_1 (a1 : Int32) (a2 : Int32) (isB3 : Bool) (rec4 : Int32 → (Nat → Int64) → (Nat → Int64) → Option (Int32 × Bool × (Nat → Int64) × (Nat → Int64)))  (v5 : Int32) (g6 : Nat → Int64) (nx7 : Nat → Int64) : Option (Int32 × Bool × (Nat → Int64) × (Nat → Int64)) :=
(f_X6_all g6).bind (fun (r8 : Int32) =>
if (r8 : Int32) < v5 then (
(f_X6_takes isB3 g6 nx7 a1).bind (fun (r9 : Int32 × (Nat → Int64)) =>
some (r9.1, isB3, r9.2, nx7))) else (
(f_X6_v g6 a1 (v5 &&& a2)).bind (fun (r10 : Int64) =>
ck (inb v5 512) (
nm (vp_updL nx7 v5.toNatClampNeg r10) (fun (nx11 : Nat → Int64) =>
nm (v5 + 1) (fun (x12 : Int32) =>
rec4 x12 g6 nx11))))))
def L_X6_mask_1 (a1 : Int32) (a2 : Int32) (isB3 : Bool)  : Nat → Int32 → (Nat → Int64) → (Nat → Int64) → Option (Int32 × Bool × (Nat → Int64) × (Nat → Int64))
  | 0, _, _, _ => none
  | m9 + 1, v5, g6, nx7 => B_X6_mask_1 a1 a2 isB3 (L_X6_mask_1 a1 a2 isB3 m9)  v5 g6 nx7

def f_X6_mask (isB : Bool) (g : Nat → Int64) (nx : Nat → Int64) (a1 : Int32) (a2 : Int32) : Option (Int32 × Bool × (Nat → Int64) × (Nat → Int64)) :=
(f_X6_isGame a1).bind (fun (r1 : Bool) =>
if r1 = true then (
(f_X6_isSet g a2).bind (fun (r2 : Bool) =>
if r2 = true then (
nm false (fun (isB3 : Bool) =>
L_X6_mask_1 a1 a2 isB3  FU 0 g nx)) else (
some ((-2), isB, g, nx)))) else (
some ((-1), isB, g, nx)))

theorem nI_X6_mask : NameIn yX6_mask 2 := ⟨by decide +kernel, by decide +kernel, by decide +kernel⟩
set_option maxRecDepth 100000 in
set_option maxHeartbeats 4000000 in
theorem lp_X6_mask_1 {X : CX} {res : Int32 × Bool × (Nat → Int64) × (Nat → Int64)} {a1 : Int32} {a2 : Int32}  {isB3 : Bool} (hq : (mA q).Nodup) (hNK : NOK N) (C : Ok X cX6_mask 4 (some .int) wsX6_mask RX6 { frames := 3, cells := 0, slots := 0, locals := 63 } D vwCl (mT cs) (mA q) N (some (.int res.1)) (mW q cs isK res.2.1 fed at_ ltr ab ps res.2.2.1 kp res.2.2.2 fa tp rs rv ct it))  : ∀ fuel : Nat, ∀ v5 : Int32, ∀ g6 : Nat → Int64, ∀ nx7 : Nat → Int64, VF X res (L_X6_mask_1 a1 a2 isB3 fuel v5 g6 nx7) (mW q cs isK isB3 fed at_ ltr ab ps g6 kp nx7 fa tp rs rv ct it) 27 [(0, .ref (q 0)), (1, .int a1), (2, .int a2), (3, .int v5)] [] := by
  have iX6 : ∀ w ∈ wsX60, w ∈ wsX6_mask := fun _ h => List.mem_cons_of_mem _ (List.mem_append_right _ h)
  intro fuel
  induction fuel with
  | zero =>
    intro _ _ _
    exact v_none
  | succ fuel ih =>
    intro v5 g6 nx7
    show VF X res (B_X6_mask_1 a1 a2 isB3 (L_X6_mask_1 a1 a2 isB3 fuel)  v5 g6 nx7) _ _ _ _
    unfold B_X6_mask_1
    refine v_iload_n C 3 dX6_mask_27 rfl ?_
    refine v_aload_n C 0 dX6_mask_28 rfl ?_
    refine v_callV0v C 0 rfl rfl rfl (fun l9 r9 h9 => k_X6_all (l := l9) hq hNK  h9) gX6_mask_X6_all rfl nI_X6_all ⟨rfl, rfl, Nat.le_of_ble_eq_true rfl, Nat.le_of_ble_eq_true rfl⟩ dX6_mask_29 (Nat.le_of_ble_eq_true rfl) (fun r8 => ?_)
    refine v_icmp_gt C dX6_mask_32 (tgt := 55) (by decide) ?_ ?_
    · refine v_aload_n C 0 dX6_mask_55 rfl ?_
      refine v_iload_n C 1 dX6_mask_56 rfl ?_
      refine v_callV1v C 0 rfl rfl rfl (fun l9 r9 h9 => k_X6_takes (l := l9) hq hNK  h9) gX6_mask_X6_takes rfl nI_X6_takes ⟨rfl, rfl, Nat.le_of_ble_eq_true rfl, Nat.le_of_ble_eq_true rfl⟩ dX6_mask_57 (Nat.le_of_ble_eq_true rfl) (fun r9 => ?_)
      exact v_iret (rvf := fun (res : Int32 × Bool × (Nat → Int64) × (Nat → Int64)) => (some (.int res.1))) (wf := fun (res : Int32 × Bool × (Nat → Int64) × (Nat → Int64)) => (mW q cs isK res.2.1 fed at_ ltr ab ps res.2.2.1 kp res.2.2.2 fa tp rs rv ct it)) C dX6_mask_60 rfl rfl
    · refine v_aload_n C 0 dX6_mask_35 rfl ?_
      refine v_get C (T := TX6) (n := 16) (C9 := RX6) iX6 0 rfl rfl 2 (by decide) (List.mem_of_getElem? (i := 2) rfl) rfl rfl dX6_mask_36 ?_
      refine v_iload_n C 3 dX6_mask_39 rfl ?_
      refine v_aload_n C 0 dX6_mask_40 rfl ?_
      refine v_iload_n C 1 dX6_mask_41 rfl ?_
      refine v_iload_n C 3 dX6_mask_42 rfl ?_
      refine v_iload_n C 2 dX6_mask_43 rfl ?_
      refine v_iand C dX6_mask_44 ?_
      refine v_callV2v C 0 rfl rfl rfl (fun l9 r9 h9 => k_X6_v (l := l9) hq hNK  h9) gX6_mask_X6_v rfl nI_X6_v ⟨rfl, rfl, Nat.le_of_ble_eq_true rfl, Nat.le_of_ble_eq_true rfl⟩ dX6_mask_45 (Nat.le_of_ble_eq_true rfl) (fun r10 => ?_)
      refine v_last_nm C (fun nx11 => (mW q cs isK isB3 fed at_ ltr ab ps g6 kp nx11 fa tp rs rv ct it)) 3 1 rfl rfl rfl (fun _ => rfl) dX6_mask_48 (fun nx11 => ?_)
      refine v_iinc_nm C (lvf := fun x12 => [(3, .int x12), (0, .ref (q 0)), (1, .int a1), (2, .int a2)]) 3 dX6_mask_49 rfl rfl (by decide) (fun _ => rfl) (fun x12 => ?_)
      refine v_goto C dX6_mask_52 (tgt := 27) (by decide) ?_
      exact v_sub [1, 2, 3, 0] rfl (ih x12 g6 nx11)

set_option maxRecDepth 100000 in
set_option maxHeartbeats 4000000 in
theorem k_X6_mask {l : Launch} {a1 : Int32} {a2 : Int32}  {res : Int32 × Bool × (Nat → Int64) × (Nat → Int64)} (hq : (mA q).Nodup) (hNK : NOK N)  (hf : f_X6_mask isB g nx a1 a2 = some res) : kMet l yX6_mask wsX6_mask { frames := 3, cells := 0, slots := 0, locals := 63 } D vwCl (mT cs) N (mA q) [.ref (q 0), .int a1, .int a2] (mW q cs isK isB fed at_ ltr ab ps g kp nx fa tp rs rv ct it) (some (.int res.1)) (mW q cs isK res.2.1 fed at_ ltr ab ps res.2.2.1 kp res.2.2.2 fa tp rs rv ct it) := by
  have iX6 : ∀ w ∈ wsX60, w ∈ wsX6_mask := fun _ h => List.mem_cons_of_mem _ (List.mem_append_right _ h)
  refine kMet.of (cc := cX6_mask) (nL := 4) (ret := (some .int)) (own := RX6) (lv := [(0, .ref (q 0)), (1, .int a1), (2, .int a2)]) (by decide +kernel) rfl rfl hNK hq (Nat.le_of_ble_eq_true rfl) rfl (fun X C => ?_)
  refine VF.of hf ?_
  unfold f_X6_mask
  refine v_iload_n C 1 dX6_mask_0 rfl ?_
  refine v_callSP1v C (fun l9 r9 h9 => k_X6_isGame (l := l9) h9) gX6_mask_X6_isGame rfl nI_X6_isGame ⟨rfl, rfl, Nat.le_of_ble_eq_true rfl, Nat.le_of_ble_eq_true rfl⟩ dX6_mask_1 (Nat.le_of_ble_eq_true rfl) (fun r1 => ?_)
  refine v_ifb_ne C (b := r1) dX6_mask_4 (tgt := 9) (by decide) ?_ ?_
  · refine v_aload_n C 0 dX6_mask_9 rfl ?_
    refine v_iload_n C 2 dX6_mask_10 rfl ?_
    refine v_callV1v C 0 rfl rfl rfl (fun l9 r9 h9 => k_X6_isSet (l := l9) hq hNK  h9) gX6_mask_X6_isSet rfl nI_X6_isSet ⟨rfl, rfl, Nat.le_of_ble_eq_true rfl, Nat.le_of_ble_eq_true rfl⟩ dX6_mask_11 (Nat.le_of_ble_eq_true rfl) (fun r2 => ?_)
    refine v_ifb_ne C (b := r2) dX6_mask_14 (tgt := 20) (by decide) ?_ ?_
    · refine v_aload_n C 0 dX6_mask_20 rfl ?_
      refine v_iconst C dX6_mask_21 (v := 0) (by decide) ?_
      refine v_put_nm C (v := false) (fun z9 => Value.int (bI z9)) (ty := .boolean) (T := TX6) (n := 16) (C9 := RX6) (ty0 := tyX6) (fun isB3 => (mW q cs isK isB3 fed at_ ltr ab ps g kp nx fa tp rs rv ct it)) iX6 tyX6_ok nmX6 0 rfl rfl rfl 5 (by decide) (List.mem_of_getElem? (i := 1) rfl) rfl rfl rfl bI_nar bI_fit (Nat.le_of_ble_eq_true rfl) (fun _ => rfl) dX6_mask_22 (fun isB3 => ?_)
      refine v_iconst C dX6_mask_25 (v := 0) (by decide) ?_
      refine v_istore_n C (lv' := [(3, .int 0), (0, .ref (q 0)), (1, .int a1), (2, .int a2)]) dX6_mask_26 rfl (by decide) rfl ?_
      refine v_sub [1, 2, 3, 0] rfl (lp_X6_mask_1 hq hNK C   FU 0 g nx)
    · refine v_bipush C dX6_mask_17 (v := (-2)) (by decide) ?_
      exact v_iret (rvf := fun (res : Int32 × Bool × (Nat → Int64) × (Nat → Int64)) => (some (.int res.1))) (wf := fun (res : Int32 × Bool × (Nat → Int64) × (Nat → Int64)) => (mW q cs isK res.2.1 fed at_ ltr ab ps res.2.2.1 kp res.2.2.2 fa tp rs rv ct it)) C dX6_mask_19 rfl rfl
  · refine v_iconst C dX6_mask_7 (v := (-1)) (by decide) ?_
    exact v_iret (rvf := fun (res : Int32 × Bool × (Nat → Int64) × (Nat → Int64)) => (some (.int res.1))) (wf := fun (res : Int32 × Bool × (Nat → Int64) × (Nat → Int64)) => (mW q cs isK res.2.1 fed at_ ltr ab ps res.2.2.1 kp res.2.2.2 fa tp rs rv ct it)) C dX6_mask_8 rfl rfl

def B_X6_unanimous_1 (a1 : Int32) (a2 : Int32) (a3 : Int64) (rec5 : Int32 → Bool → (Nat → Int64) → (Nat → Int64) → Option (Int32 × Bool × (Nat → Int64) × (Nat → Int64)))  (v6 : Int32) (isB7 : Bool) (g8 : Nat → Int64) (nx9 : Nat → Int64) : Option (Int32 × Bool × (Nat → Int64) × (Nat → Int64)) :=
(f_X6_all g8).bind (fun (r10 : Int32) =>
if (r10 : Int32) < v6 then (
(f_X6_done isB7 g8 nx9 a1).bind (fun (r11 : Int32 × (Nat → Int64)) =>
some (r11.1, isB7, r11.2, nx9))) else (
jn2 (fun (v13 : Int64) (isB14 : Bool) =>
ck (inb v6 512) (
nm (vp_updL nx9 v6.toNatClampNeg v13) (fun (nx15 : Nat → Int64) =>
nm (v6 + 1) (fun (x16 : Int32) =>
rec5 x16 isB14 g8 nx15)))) (fun k12 =>
if (a2 &&& (v6 ^^^ (-1)) : Int32) = 0 then (
(f_X6_v g8 a1 v6).bind (fun (r18 : Int64) =>
(f_X6_plus isB7 r18 a3).bind (fun (r19 : Int64 × Bool) =>
k12 r19.1 r19.2))) else (
(f_X6_v g8 a1 v6).bind (fun (r17 : Int64) =>
k12 r17 isB7)))))
def L_X6_unanimous_1 (a1 : Int32) (a2 : Int32) (a3 : Int64)  : Nat → Int32 → Bool → (Nat → Int64) → (Nat → Int64) → Option (Int32 × Bool × (Nat → Int64) × (Nat → Int64))
  | 0, _, _, _, _ => none
  | m9 + 1, v6, isB7, g8, nx9 => B_X6_unanimous_1 a1 a2 a3 (L_X6_unanimous_1 a1 a2 a3 m9)  v6 isB7 g8 nx9

def f_X6_unanimous (isB : Bool) (g : Nat → Int64) (nx : Nat → Int64) (a1 : Int32) (a2 : Int32) (a3 : Int64) : Option (Int32 × Bool × (Nat → Int64) × (Nat → Int64)) :=
(f_X6_isGame a1).bind (fun (r1 : Bool) =>
if r1 = true then (
(f_X6_isSet g a2).bind (fun (r2 : Bool) =>
if r2 = true then (
if (a2 : Int32) = 0 then (
some ((-2), isB, g, nx)) else (
(f_X6_isIn a3 (-1000000000000) 1000000000000).bind (fun (r3 : Bool) =>
if r3 = true then (
nm false (fun (isB4 : Bool) =>
L_X6_unanimous_1 a1 a2 a3  FU 0 isB4 g nx)) else (
some ((-2), isB, g, nx))))) else (
some ((-2), isB, g, nx)))) else (
some ((-1), isB, g, nx)))

theorem nI_X6_unanimous : NameIn yX6_unanimous 3 := ⟨by decide +kernel, by decide +kernel, by decide +kernel⟩
set_option maxRecDepth 100000 in
set_option maxHeartbeats 4000000 in
theorem lp_X6_unanimous_1 {X : CX} {res : Int32 × Bool × (Nat → Int64) × (Nat → Int64)} {a1 : Int32} {a2 : Int32} {a3 : Int64}   (hq : (mA q).Nodup) (hNK : NOK N) (C : Ok X cX6_unanimous 6 (some .int) wsX6_unanimous RX6 { frames := 4, cells := 0, slots := 0, locals := 85 } D vwCl (mT cs) (mA q) N (some (.int res.1)) (mW q cs isK res.2.1 fed at_ ltr ab ps res.2.2.1 kp res.2.2.2 fa tp rs rv ct it))  : ∀ fuel : Nat, ∀ v6 : Int32, ∀ isB7 : Bool, ∀ g8 : Nat → Int64, ∀ nx9 : Nat → Int64, VF X res (L_X6_unanimous_1 a1 a2 a3 fuel v6 isB7 g8 nx9) (mW q cs isK isB7 fed at_ ltr ab ps g8 kp nx9 fa tp rs rv ct it) 45 [(0, .ref (q 0)), (1, .int a1), (2, .int a2), (3, .long a3), (5, .int v6)] [] := by
  have iX6 : ∀ w ∈ wsX60, w ∈ wsX6_unanimous := fun _ h => List.mem_cons_of_mem _ (List.mem_append_right _ h)
  intro fuel
  induction fuel with
  | zero =>
    intro _ _ _ _
    exact v_none
  | succ fuel ih =>
    intro v6 isB7 g8 nx9
    show VF X res (B_X6_unanimous_1 a1 a2 a3 (L_X6_unanimous_1 a1 a2 a3 fuel)  v6 isB7 g8 nx9) _ _ _ _
    unfold B_X6_unanimous_1
    refine v_iload C 4 dX6_unanimous_45 rfl ?_
    refine v_aload_n C 0 dX6_unanimous_47 rfl ?_
    refine v_callV0v C 0 rfl rfl rfl (fun l9 r9 h9 => k_X6_all (l := l9) hq hNK  h9) gX6_unanimous_X6_all rfl nI_X6_all ⟨rfl, rfl, Nat.le_of_ble_eq_true rfl, Nat.le_of_ble_eq_true rfl⟩ dX6_unanimous_48 (Nat.le_of_ble_eq_true rfl) (fun r10 => ?_)
    refine v_icmp_gt C dX6_unanimous_51 (tgt := 98) (by decide) ?_ ?_
    · refine v_aload_n C 0 dX6_unanimous_98 rfl ?_
      refine v_iload_n C 1 dX6_unanimous_99 rfl ?_
      refine v_callV1v C 0 rfl rfl rfl (fun l9 r9 h9 => k_X6_done (l := l9) hq hNK  h9) gX6_unanimous_X6_done rfl nI_X6_done ⟨rfl, rfl, Nat.le_of_ble_eq_true rfl, Nat.le_of_ble_eq_true rfl⟩ dX6_unanimous_100 (Nat.le_of_ble_eq_true rfl) (fun r11 => ?_)
      exact v_iret (rvf := fun (res : Int32 × Bool × (Nat → Int64) × (Nat → Int64)) => (some (.int res.1))) (wf := fun (res : Int32 × Bool × (Nat → Int64) × (Nat → Int64)) => (mW q cs isK res.2.1 fed at_ ltr ab ps res.2.2.1 kp res.2.2.2 fa tp rs rv ct it)) C dX6_unanimous_103 rfl rfl
    · refine v_aload_n C 0 dX6_unanimous_54 rfl ?_
      refine v_get C (T := TX6) (n := 16) (C9 := RX6) iX6 0 rfl rfl 2 (by decide) (List.mem_of_getElem? (i := 4) rfl) rfl rfl dX6_unanimous_55 ?_
      refine v_iload C 4 dX6_unanimous_58 rfl ?_
      refine v_iload_n C 2 dX6_unanimous_60 rfl ?_
      refine v_iload C 4 dX6_unanimous_61 rfl ?_
      refine v_iconst C dX6_unanimous_63 (v := (-1)) (by decide) ?_
      refine v_ixor C dX6_unanimous_64 ?_
      refine v_iand C dX6_unanimous_65 ?_
      refine v_jn2 (wj := (fun v13 isB14 => (mW q cs isK isB14 fed at_ ltr ab ps g8 kp nx9 fa tp rs rv ct it))) (pcj := 91) (lvj := (fun v13 isB14 => [(0, .ref (q 0)), (1, .int a1), (2, .int a2), (3, .long a3), (5, .int v6)])) (stj := (fun v13 isB14 => [.long v13, .int v6, .ref (q 3)])) (fun v13 isB14 => ?_) (fun k12 hk12 => ?_)
      · refine v_last_nm C (fun nx15 => (mW q cs isK isB14 fed at_ ltr ab ps g8 kp nx15 fa tp rs rv ct it)) 3 1 rfl rfl rfl (fun _ => rfl) dX6_unanimous_91 (fun nx15 => ?_)
        refine v_iinc_nm C (lvf := fun x16 => [(5, .int x16), (0, .ref (q 0)), (1, .int a1), (2, .int a2), (3, .long a3)]) 4 dX6_unanimous_92 rfl rfl (by decide) (fun _ => rfl) (fun x16 => ?_)
        refine v_goto C dX6_unanimous_95 (tgt := 45) (by decide) ?_
        exact v_sub [1, 2, 3, 4, 0] rfl (ih x16 isB14 g8 nx15)
      · refine v_if_ne C dX6_unanimous_66 (tgt := 84) (by decide) ?_ ?_
        · refine v_aload_n C 0 dX6_unanimous_84 rfl ?_
          refine v_iload_n C 1 dX6_unanimous_85 rfl ?_
          refine v_iload C 4 dX6_unanimous_86 rfl ?_
          refine v_callV2v C 0 rfl rfl rfl (fun l9 r9 h9 => k_X6_v (l := l9) hq hNK  h9) gX6_unanimous_X6_v rfl nI_X6_v ⟨rfl, rfl, Nat.le_of_ble_eq_true rfl, Nat.le_of_ble_eq_true rfl⟩ dX6_unanimous_88 (Nat.le_of_ble_eq_true rfl) (fun r17 => ?_)
          exact v_sub [0, 1, 2, 3, 4] rfl (hk12 r17 isB7)
        · refine v_aload_n C 0 dX6_unanimous_69 rfl ?_
          refine v_aload_n C 0 dX6_unanimous_70 rfl ?_
          refine v_iload_n C 1 dX6_unanimous_71 rfl ?_
          refine v_iload C 4 dX6_unanimous_72 rfl ?_
          refine v_callV2v C 0 rfl rfl rfl (fun l9 r9 h9 => k_X6_v (l := l9) hq hNK  h9) gX6_unanimous_X6_v rfl nI_X6_v ⟨rfl, rfl, Nat.le_of_ble_eq_true rfl, Nat.le_of_ble_eq_true rfl⟩ dX6_unanimous_74 (Nat.le_of_ble_eq_true rfl) (fun r18 => ?_)
          refine v_lload_n C 3 dX6_unanimous_77 rfl ?_
          refine v_callV2v C 0 rfl rfl rfl (fun l9 r9 h9 => k_X6_plus (l := l9) hq hNK  h9) gX6_unanimous_X6_plus rfl nI_X6_plus ⟨rfl, rfl, Nat.le_of_ble_eq_true rfl, Nat.le_of_ble_eq_true rfl⟩ dX6_unanimous_78 (Nat.le_of_ble_eq_true rfl) (fun r19 => ?_)
          refine v_goto C dX6_unanimous_81 (tgt := 91) (by decide) ?_
          exact v_sub [0, 1, 2, 3, 4] rfl (hk12 r19.1 r19.2)

set_option maxRecDepth 100000 in
set_option maxHeartbeats 4000000 in
theorem k_X6_unanimous {l : Launch} {a1 : Int32} {a2 : Int32} {a3 : Int64}  {res : Int32 × Bool × (Nat → Int64) × (Nat → Int64)} (hq : (mA q).Nodup) (hNK : NOK N)  (hf : f_X6_unanimous isB g nx a1 a2 a3 = some res) : kMet l yX6_unanimous wsX6_unanimous { frames := 4, cells := 0, slots := 0, locals := 85 } D vwCl (mT cs) N (mA q) [.ref (q 0), .int a1, .int a2, .long a3] (mW q cs isK isB fed at_ ltr ab ps g kp nx fa tp rs rv ct it) (some (.int res.1)) (mW q cs isK res.2.1 fed at_ ltr ab ps res.2.2.1 kp res.2.2.2 fa tp rs rv ct it) := by
  have iX6 : ∀ w ∈ wsX60, w ∈ wsX6_unanimous := fun _ h => List.mem_cons_of_mem _ (List.mem_append_right _ h)
  refine kMet.of (cc := cX6_unanimous) (nL := 6) (ret := (some .int)) (own := RX6) (lv := [(0, .ref (q 0)), (1, .int a1), (2, .int a2), (3, .long a3)]) (by decide +kernel) rfl rfl hNK hq (Nat.le_of_ble_eq_true rfl) rfl (fun X C => ?_)
  refine VF.of hf ?_
  unfold f_X6_unanimous
  refine v_iload_n C 1 dX6_unanimous_0 rfl ?_
  refine v_callSP1v C (fun l9 r9 h9 => k_X6_isGame (l := l9) h9) gX6_unanimous_X6_isGame rfl nI_X6_isGame ⟨rfl, rfl, Nat.le_of_ble_eq_true rfl, Nat.le_of_ble_eq_true rfl⟩ dX6_unanimous_1 (Nat.le_of_ble_eq_true rfl) (fun r1 => ?_)
  refine v_ifb_ne C (b := r1) dX6_unanimous_4 (tgt := 9) (by decide) ?_ ?_
  · refine v_aload_n C 0 dX6_unanimous_9 rfl ?_
    refine v_iload_n C 2 dX6_unanimous_10 rfl ?_
    refine v_callV1v C 0 rfl rfl rfl (fun l9 r9 h9 => k_X6_isSet (l := l9) hq hNK  h9) gX6_unanimous_X6_isSet rfl nI_X6_isSet ⟨rfl, rfl, Nat.le_of_ble_eq_true rfl, Nat.le_of_ble_eq_true rfl⟩ dX6_unanimous_11 (Nat.le_of_ble_eq_true rfl) (fun r2 => ?_)
    refine v_ifb_eq C (b := r2) dX6_unanimous_14 (tgt := 34) (by decide) ?_ ?_
    · refine v_bipush C dX6_unanimous_34 (v := (-2)) (by decide) ?_
      exact v_iret (rvf := fun (res : Int32 × Bool × (Nat → Int64) × (Nat → Int64)) => (some (.int res.1))) (wf := fun (res : Int32 × Bool × (Nat → Int64) × (Nat → Int64)) => (mW q cs isK res.2.1 fed at_ ltr ab ps res.2.2.1 kp res.2.2.2 fa tp rs rv ct it)) C dX6_unanimous_36 rfl rfl
    · refine v_iload_n C 2 dX6_unanimous_17 rfl ?_
      refine v_if_eq C dX6_unanimous_18 (tgt := 34) (by decide) ?_ ?_
      · refine v_bipush C dX6_unanimous_34 (v := (-2)) (by decide) ?_
        exact v_iret (rvf := fun (res : Int32 × Bool × (Nat → Int64) × (Nat → Int64)) => (some (.int res.1))) (wf := fun (res : Int32 × Bool × (Nat → Int64) × (Nat → Int64)) => (mW q cs isK res.2.1 fed at_ ltr ab ps res.2.2.1 kp res.2.2.2 fa tp rs rv ct it)) C dX6_unanimous_36 rfl rfl
      · refine v_lload_n C 3 dX6_unanimous_21 rfl ?_
        refine v_ldc2 C (v := (-1000000000000)) (List.mem_of_getElem? (i := 1) rfl) dX6_unanimous_22 ?_
        refine v_ldc2 C (v := 1000000000000) (List.mem_of_getElem? (i := 2) rfl) dX6_unanimous_25 ?_
        refine v_callSP3v C (fun l9 r9 h9 => k_X6_isIn (l := l9) h9) gX6_unanimous_X6_isIn rfl nI_X6_isIn ⟨rfl, rfl, Nat.le_of_ble_eq_true rfl, Nat.le_of_ble_eq_true rfl⟩ dX6_unanimous_28 (Nat.le_of_ble_eq_true rfl) (fun r3 => ?_)
        refine v_ifb_ne C (b := r3) dX6_unanimous_31 (tgt := 37) (by decide) ?_ ?_
        · refine v_aload_n C 0 dX6_unanimous_37 rfl ?_
          refine v_iconst C dX6_unanimous_38 (v := 0) (by decide) ?_
          refine v_put_nm C (v := false) (fun z9 => Value.int (bI z9)) (ty := .boolean) (T := TX6) (n := 16) (C9 := RX6) (ty0 := tyX6) (fun isB4 => (mW q cs isK isB4 fed at_ ltr ab ps g kp nx fa tp rs rv ct it)) iX6 tyX6_ok nmX6 0 rfl rfl rfl 5 (by decide) (List.mem_of_getElem? (i := 3) rfl) rfl rfl rfl bI_nar bI_fit (Nat.le_of_ble_eq_true rfl) (fun _ => rfl) dX6_unanimous_39 (fun isB4 => ?_)
          refine v_iconst C dX6_unanimous_42 (v := 0) (by decide) ?_
          refine v_istore C (lv' := [(5, .int 0), (0, .ref (q 0)), (1, .int a1), (2, .int a2), (3, .long a3)]) dX6_unanimous_43 (by decide) rfl ?_
          refine v_sub [1, 2, 3, 4, 0] rfl (lp_X6_unanimous_1 hq hNK C   FU 0 isB4 g nx)
        · refine v_bipush C dX6_unanimous_34 (v := (-2)) (by decide) ?_
          exact v_iret (rvf := fun (res : Int32 × Bool × (Nat → Int64) × (Nat → Int64)) => (some (.int res.1))) (wf := fun (res : Int32 × Bool × (Nat → Int64) × (Nat → Int64)) => (mW q cs isK res.2.1 fed at_ ltr ab ps res.2.2.1 kp res.2.2.2 fa tp rs rv ct it)) C dX6_unanimous_36 rfl rfl
  · refine v_iconst C dX6_unanimous_7 (v := (-1)) (by decide) ?_
    exact v_iret (rvf := fun (res : Int32 × Bool × (Nat → Int64) × (Nat → Int64)) => (some (.int res.1))) (wf := fun (res : Int32 × Bool × (Nat → Int64) × (Nat → Int64)) => (mW q cs isK res.2.1 fed at_ ltr ab ps res.2.2.1 kp res.2.2.2 fa tp rs rv ct it)) C dX6_unanimous_8 rfl rfl

def B_X6_without_1 (a1 : Int32) (a2 : Int32) (isB3 : Bool) (rec4 : Int32 → (Nat → Int64) → (Nat → Int64) → Option (Int32 × Bool × (Nat → Int64) × (Nat → Int64)))  (v5 : Int32) (g6 : Nat → Int64) (nx7 : Nat → Int64) : Option (Int32 × Bool × (Nat → Int64) × (Nat → Int64)) :=
(f_X6_all g6).bind (fun (r8 : Int32) =>
if (r8 : Int32) < v5 then (
(f_X6_takes isB3 g6 nx7 a1).bind (fun (r9 : Int32 × (Nat → Int64)) =>
some (r9.1, isB3, r9.2, nx7))) else (
(f_X6_v g6 a1 (v5 &&& ((1 <<< (a2 &&& 31)) ^^^ (-1)))).bind (fun (r10 : Int64) =>
ck (inb v5 512) (
nm (vp_updL nx7 v5.toNatClampNeg r10) (fun (nx11 : Nat → Int64) =>
nm (v5 + 1) (fun (x12 : Int32) =>
rec4 x12 g6 nx11))))))
def L_X6_without_1 (a1 : Int32) (a2 : Int32) (isB3 : Bool)  : Nat → Int32 → (Nat → Int64) → (Nat → Int64) → Option (Int32 × Bool × (Nat → Int64) × (Nat → Int64))
  | 0, _, _, _ => none
  | m9 + 1, v5, g6, nx7 => B_X6_without_1 a1 a2 isB3 (L_X6_without_1 a1 a2 isB3 m9)  v5 g6 nx7

def f_X6_without (isB : Bool) (g : Nat → Int64) (nx : Nat → Int64) (a1 : Int32) (a2 : Int32) : Option (Int32 × Bool × (Nat → Int64) × (Nat → Int64)) :=
(f_X6_isGame a1).bind (fun (r1 : Bool) =>
if r1 = true then (
(f_X6_isPartner g a2).bind (fun (r2 : Bool) =>
if r2 = true then (
nm false (fun (isB3 : Bool) =>
L_X6_without_1 a1 a2 isB3  FU 0 g nx)) else (
some ((-1), isB, g, nx)))) else (
some ((-1), isB, g, nx)))

theorem nI_X6_without : NameIn yX6_without 2 := ⟨by decide +kernel, by decide +kernel, by decide +kernel⟩
set_option maxRecDepth 100000 in
set_option maxHeartbeats 4000000 in
theorem lp_X6_without_1 {X : CX} {res : Int32 × Bool × (Nat → Int64) × (Nat → Int64)} {a1 : Int32} {a2 : Int32}  {isB3 : Bool} (hq : (mA q).Nodup) (hNK : NOK N) (C : Ok X cX6_without 4 (some .int) wsX6_without RX6 { frames := 3, cells := 0, slots := 0, locals := 63 } D vwCl (mT cs) (mA q) N (some (.int res.1)) (mW q cs isK res.2.1 fed at_ ltr ab ps res.2.2.1 kp res.2.2.2 fa tp rs rv ct it))  : ∀ fuel : Nat, ∀ v5 : Int32, ∀ g6 : Nat → Int64, ∀ nx7 : Nat → Int64, VF X res (L_X6_without_1 a1 a2 isB3 fuel v5 g6 nx7) (mW q cs isK isB3 fed at_ ltr ab ps g6 kp nx7 fa tp rs rv ct it) 24 [(0, .ref (q 0)), (1, .int a1), (2, .int a2), (3, .int v5)] [] := by
  have iX6 : ∀ w ∈ wsX60, w ∈ wsX6_without := fun _ h => List.mem_cons_of_mem _ (List.mem_append_right _ h)
  intro fuel
  induction fuel with
  | zero =>
    intro _ _ _
    exact v_none
  | succ fuel ih =>
    intro v5 g6 nx7
    show VF X res (B_X6_without_1 a1 a2 isB3 (L_X6_without_1 a1 a2 isB3 fuel)  v5 g6 nx7) _ _ _ _
    unfold B_X6_without_1
    refine v_iload_n C 3 dX6_without_24 rfl ?_
    refine v_aload_n C 0 dX6_without_25 rfl ?_
    refine v_callV0v C 0 rfl rfl rfl (fun l9 r9 h9 => k_X6_all (l := l9) hq hNK  h9) gX6_without_X6_all rfl nI_X6_all ⟨rfl, rfl, Nat.le_of_ble_eq_true rfl, Nat.le_of_ble_eq_true rfl⟩ dX6_without_26 (Nat.le_of_ble_eq_true rfl) (fun r8 => ?_)
    refine v_icmp_gt C dX6_without_29 (tgt := 56) (by decide) ?_ ?_
    · refine v_aload_n C 0 dX6_without_56 rfl ?_
      refine v_iload_n C 1 dX6_without_57 rfl ?_
      refine v_callV1v C 0 rfl rfl rfl (fun l9 r9 h9 => k_X6_takes (l := l9) hq hNK  h9) gX6_without_X6_takes rfl nI_X6_takes ⟨rfl, rfl, Nat.le_of_ble_eq_true rfl, Nat.le_of_ble_eq_true rfl⟩ dX6_without_58 (Nat.le_of_ble_eq_true rfl) (fun r9 => ?_)
      exact v_iret (rvf := fun (res : Int32 × Bool × (Nat → Int64) × (Nat → Int64)) => (some (.int res.1))) (wf := fun (res : Int32 × Bool × (Nat → Int64) × (Nat → Int64)) => (mW q cs isK res.2.1 fed at_ ltr ab ps res.2.2.1 kp res.2.2.2 fa tp rs rv ct it)) C dX6_without_61 rfl rfl
    · refine v_aload_n C 0 dX6_without_32 rfl ?_
      refine v_get C (T := TX6) (n := 16) (C9 := RX6) iX6 0 rfl rfl 2 (by decide) (List.mem_of_getElem? (i := 2) rfl) rfl rfl dX6_without_33 ?_
      refine v_iload_n C 3 dX6_without_36 rfl ?_
      refine v_aload_n C 0 dX6_without_37 rfl ?_
      refine v_iload_n C 1 dX6_without_38 rfl ?_
      refine v_iload_n C 3 dX6_without_39 rfl ?_
      refine v_iconst C dX6_without_40 (v := 1) (by decide) ?_
      refine v_iload_n C 2 dX6_without_41 rfl ?_
      refine v_ishl C dX6_without_42 ?_
      refine v_iconst C dX6_without_43 (v := (-1)) (by decide) ?_
      refine v_ixor C dX6_without_44 ?_
      refine v_iand C dX6_without_45 ?_
      refine v_callV2v C 0 rfl rfl rfl (fun l9 r9 h9 => k_X6_v (l := l9) hq hNK  h9) gX6_without_X6_v rfl nI_X6_v ⟨rfl, rfl, Nat.le_of_ble_eq_true rfl, Nat.le_of_ble_eq_true rfl⟩ dX6_without_46 (Nat.le_of_ble_eq_true rfl) (fun r10 => ?_)
      refine v_last_nm C (fun nx11 => (mW q cs isK isB3 fed at_ ltr ab ps g6 kp nx11 fa tp rs rv ct it)) 3 1 rfl rfl rfl (fun _ => rfl) dX6_without_49 (fun nx11 => ?_)
      refine v_iinc_nm C (lvf := fun x12 => [(3, .int x12), (0, .ref (q 0)), (1, .int a1), (2, .int a2)]) 3 dX6_without_50 rfl rfl (by decide) (fun _ => rfl) (fun x12 => ?_)
      refine v_goto C dX6_without_53 (tgt := 24) (by decide) ?_
      exact v_sub [1, 2, 3, 0] rfl (ih x12 g6 nx11)

set_option maxRecDepth 100000 in
set_option maxHeartbeats 4000000 in
theorem k_X6_without {l : Launch} {a1 : Int32} {a2 : Int32}  {res : Int32 × Bool × (Nat → Int64) × (Nat → Int64)} (hq : (mA q).Nodup) (hNK : NOK N)  (hf : f_X6_without isB g nx a1 a2 = some res) : kMet l yX6_without wsX6_without { frames := 3, cells := 0, slots := 0, locals := 63 } D vwCl (mT cs) N (mA q) [.ref (q 0), .int a1, .int a2] (mW q cs isK isB fed at_ ltr ab ps g kp nx fa tp rs rv ct it) (some (.int res.1)) (mW q cs isK res.2.1 fed at_ ltr ab ps res.2.2.1 kp res.2.2.2 fa tp rs rv ct it) := by
  have iX6 : ∀ w ∈ wsX60, w ∈ wsX6_without := fun _ h => List.mem_cons_of_mem _ (List.mem_append_right _ h)
  refine kMet.of (cc := cX6_without) (nL := 4) (ret := (some .int)) (own := RX6) (lv := [(0, .ref (q 0)), (1, .int a1), (2, .int a2)]) (by decide +kernel) rfl rfl hNK hq (Nat.le_of_ble_eq_true rfl) rfl (fun X C => ?_)
  refine VF.of hf ?_
  unfold f_X6_without
  refine v_iload_n C 1 dX6_without_0 rfl ?_
  refine v_callSP1v C (fun l9 r9 h9 => k_X6_isGame (l := l9) h9) gX6_without_X6_isGame rfl nI_X6_isGame ⟨rfl, rfl, Nat.le_of_ble_eq_true rfl, Nat.le_of_ble_eq_true rfl⟩ dX6_without_1 (Nat.le_of_ble_eq_true rfl) (fun r1 => ?_)
  refine v_ifb_eq C (b := r1) dX6_without_4 (tgt := 15) (by decide) ?_ ?_
  · refine v_iconst C dX6_without_15 (v := (-1)) (by decide) ?_
    exact v_iret (rvf := fun (res : Int32 × Bool × (Nat → Int64) × (Nat → Int64)) => (some (.int res.1))) (wf := fun (res : Int32 × Bool × (Nat → Int64) × (Nat → Int64)) => (mW q cs isK res.2.1 fed at_ ltr ab ps res.2.2.1 kp res.2.2.2 fa tp rs rv ct it)) C dX6_without_16 rfl rfl
  · refine v_aload_n C 0 dX6_without_7 rfl ?_
    refine v_iload_n C 2 dX6_without_8 rfl ?_
    refine v_callV1v C 0 rfl rfl rfl (fun l9 r9 h9 => k_X6_isPartner (l := l9) hq hNK  h9) gX6_without_X6_isPartner rfl nI_X6_isPartner ⟨rfl, rfl, Nat.le_of_ble_eq_true rfl, Nat.le_of_ble_eq_true rfl⟩ dX6_without_9 (Nat.le_of_ble_eq_true rfl) (fun r2 => ?_)
    refine v_ifb_ne C (b := r2) dX6_without_12 (tgt := 17) (by decide) ?_ ?_
    · refine v_aload_n C 0 dX6_without_17 rfl ?_
      refine v_iconst C dX6_without_18 (v := 0) (by decide) ?_
      refine v_put_nm C (v := false) (fun z9 => Value.int (bI z9)) (ty := .boolean) (T := TX6) (n := 16) (C9 := RX6) (ty0 := tyX6) (fun isB3 => (mW q cs isK isB3 fed at_ ltr ab ps g kp nx fa tp rs rv ct it)) iX6 tyX6_ok nmX6 0 rfl rfl rfl 5 (by decide) (List.mem_of_getElem? (i := 1) rfl) rfl rfl rfl bI_nar bI_fit (Nat.le_of_ble_eq_true rfl) (fun _ => rfl) dX6_without_19 (fun isB3 => ?_)
      refine v_iconst C dX6_without_22 (v := 0) (by decide) ?_
      refine v_istore_n C (lv' := [(3, .int 0), (0, .ref (q 0)), (1, .int a1), (2, .int a2)]) dX6_without_23 rfl (by decide) rfl ?_
      refine v_sub [1, 2, 3, 0] rfl (lp_X6_without_1 hq hNK C   FU 0 g nx)
    · refine v_iconst C dX6_without_15 (v := (-1)) (by decide) ?_
      exact v_iret (rvf := fun (res : Int32 × Bool × (Nat → Int64) × (Nat → Int64)) => (some (.int res.1))) (wf := fun (res : Int32 × Bool × (Nat → Int64) × (Nat → Int64)) => (mW q cs isK res.2.1 fed at_ ltr ab ps res.2.2.1 kp res.2.2.2 fa tp rs rv ct it)) C dX6_without_16 rfl rfl

def B_X6_join_1 (a1 : Int32) (a2 : Int32) (a3 : Int32) (isB3 : Bool) (rec4 : Int32 → (Nat → Int64) → (Nat → Int64) → Option (Int32 × Bool × (Nat → Int64) × (Nat → Int64)))  (v5 : Int32) (g6 : Nat → Int64) (nx7 : Nat → Int64) : Option (Int32 × Bool × (Nat → Int64) × (Nat → Int64)) :=
(f_X6_all g6).bind (fun (r8 : Int32) =>
if (r8 : Int32) < v5 then (
(f_X6_takes isB3 g6 nx7 a1).bind (fun (r9 : Int32 × (Nat → Int64)) =>
some (r9.1, isB3, r9.2, nx7))) else (
(f_X6_has v5 a2).bind (fun (r10 : Bool) =>
jn1 (fun (v12 : Int32) =>
(f_X6_v g6 a1 v12).bind (fun (r13 : Int64) =>
ck (inb v5 512) (
nm (vp_updL nx7 v5.toNatClampNeg r13) (fun (nx14 : Nat → Int64) =>
nm (v5 + 1) (fun (x15 : Int32) =>
rec4 x15 g6 nx14))))) (fun k11 =>
if r10 = true then (
k11 (v5 ||| (1 <<< (a3 &&& 31)))) else (
k11 (v5 &&& ((1 <<< (a3 &&& 31)) ^^^ (-1))))))))
def L_X6_join_1 (a1 : Int32) (a2 : Int32) (a3 : Int32) (isB3 : Bool)  : Nat → Int32 → (Nat → Int64) → (Nat → Int64) → Option (Int32 × Bool × (Nat → Int64) × (Nat → Int64))
  | 0, _, _, _ => none
  | m9 + 1, v5, g6, nx7 => B_X6_join_1 a1 a2 a3 isB3 (L_X6_join_1 a1 a2 a3 isB3 m9)  v5 g6 nx7

def f_X6_join (isB : Bool) (g : Nat → Int64) (nx : Nat → Int64) (a1 : Int32) (a2 : Int32) (a3 : Int32) : Option (Int32 × Bool × (Nat → Int64) × (Nat → Int64)) :=
(f_X6_isGame a1).bind (fun (r1 : Bool) =>
if r1 = true then (
(f_X6_isTwo g a2 a3).bind (fun (r2 : Bool) =>
if r2 = true then (
nm false (fun (isB3 : Bool) =>
L_X6_join_1 a1 a2 a3 isB3  FU 0 g nx)) else (
some ((-1), isB, g, nx)))) else (
some ((-1), isB, g, nx)))

theorem nI_X6_join : NameIn yX6_join 3 := ⟨by decide +kernel, by decide +kernel, by decide +kernel⟩
set_option maxRecDepth 100000 in
set_option maxHeartbeats 4000000 in
theorem lp_X6_join_1 {X : CX} {res : Int32 × Bool × (Nat → Int64) × (Nat → Int64)} {a1 : Int32} {a2 : Int32} {a3 : Int32}  {isB3 : Bool} (hq : (mA q).Nodup) (hNK : NOK N) (C : Ok X cX6_join 5 (some .int) wsX6_join RX6 { frames := 3, cells := 0, slots := 0, locals := 68 } D vwCl (mT cs) (mA q) N (some (.int res.1)) (mW q cs isK res.2.1 fed at_ ltr ab ps res.2.2.1 kp res.2.2.2 fa tp rs rv ct it))  : ∀ fuel : Nat, ∀ v5 : Int32, ∀ g6 : Nat → Int64, ∀ nx7 : Nat → Int64, VF X res (L_X6_join_1 a1 a2 a3 isB3 fuel v5 g6 nx7) (mW q cs isK isB3 fed at_ ltr ab ps g6 kp nx7 fa tp rs rv ct it) 26 [(0, .ref (q 0)), (1, .int a1), (2, .int a2), (3, .int a3), (4, .int v5)] [] := by
  have iX6 : ∀ w ∈ wsX60, w ∈ wsX6_join := fun _ h => List.mem_cons_of_mem _ (List.mem_append_right _ h)
  intro fuel
  induction fuel with
  | zero =>
    intro _ _ _
    exact v_none
  | succ fuel ih =>
    intro v5 g6 nx7
    show VF X res (B_X6_join_1 a1 a2 a3 isB3 (L_X6_join_1 a1 a2 a3 isB3 fuel)  v5 g6 nx7) _ _ _ _
    unfold B_X6_join_1
    refine v_iload C 4 dX6_join_26 rfl ?_
    refine v_aload_n C 0 dX6_join_28 rfl ?_
    refine v_callV0v C 0 rfl rfl rfl (fun l9 r9 h9 => k_X6_all (l := l9) hq hNK  h9) gX6_join_X6_all rfl nI_X6_all ⟨rfl, rfl, Nat.le_of_ble_eq_true rfl, Nat.le_of_ble_eq_true rfl⟩ dX6_join_29 (Nat.le_of_ble_eq_true rfl) (fun r8 => ?_)
    refine v_icmp_gt C dX6_join_32 (tgt := 79) (by decide) ?_ ?_
    · refine v_aload_n C 0 dX6_join_79 rfl ?_
      refine v_iload_n C 1 dX6_join_80 rfl ?_
      refine v_callV1v C 0 rfl rfl rfl (fun l9 r9 h9 => k_X6_takes (l := l9) hq hNK  h9) gX6_join_X6_takes rfl nI_X6_takes ⟨rfl, rfl, Nat.le_of_ble_eq_true rfl, Nat.le_of_ble_eq_true rfl⟩ dX6_join_81 (Nat.le_of_ble_eq_true rfl) (fun r9 => ?_)
      exact v_iret (rvf := fun (res : Int32 × Bool × (Nat → Int64) × (Nat → Int64)) => (some (.int res.1))) (wf := fun (res : Int32 × Bool × (Nat → Int64) × (Nat → Int64)) => (mW q cs isK res.2.1 fed at_ ltr ab ps res.2.2.1 kp res.2.2.2 fa tp rs rv ct it)) C dX6_join_84 rfl rfl
    · refine v_aload_n C 0 dX6_join_35 rfl ?_
      refine v_get C (T := TX6) (n := 16) (C9 := RX6) iX6 0 rfl rfl 2 (by decide) (List.mem_of_getElem? (i := 2) rfl) rfl rfl dX6_join_36 ?_
      refine v_iload C 4 dX6_join_39 rfl ?_
      refine v_aload_n C 0 dX6_join_41 rfl ?_
      refine v_iload_n C 1 dX6_join_42 rfl ?_
      refine v_iload C 4 dX6_join_43 rfl ?_
      refine v_iload_n C 2 dX6_join_45 rfl ?_
      refine v_callSP2v C (fun l9 r9 h9 => k_X6_has (l := l9) h9) gX6_join_X6_has rfl nI_X6_has ⟨rfl, rfl, Nat.le_of_ble_eq_true rfl, Nat.le_of_ble_eq_true rfl⟩ dX6_join_46 (Nat.le_of_ble_eq_true rfl) (fun r10 => ?_)
      refine v_jn1 (wj := (fun v12 => (mW q cs isK isB3 fed at_ ltr ab ps g6 kp nx7 fa tp rs rv ct it))) (pcj := 69) (lvj := (fun v12 => [(0, .ref (q 0)), (1, .int a1), (2, .int a2), (3, .int a3), (4, .int v5)])) (stj := (fun v12 => [.int v12, .int a1, .ref (q 0), .int v5, .ref (q 3)])) (fun v12 => ?_) (fun k11 hk11 => ?_)
      · refine v_callV2v C 0 rfl rfl rfl (fun l9 r9 h9 => k_X6_v (l := l9) hq hNK  h9) gX6_join_X6_v rfl nI_X6_v ⟨rfl, rfl, Nat.le_of_ble_eq_true rfl, Nat.le_of_ble_eq_true rfl⟩ dX6_join_69 (Nat.le_of_ble_eq_true rfl) (fun r13 => ?_)
        refine v_last_nm C (fun nx14 => (mW q cs isK isB3 fed at_ ltr ab ps g6 kp nx14 fa tp rs rv ct it)) 3 1 rfl rfl rfl (fun _ => rfl) dX6_join_72 (fun nx14 => ?_)
        refine v_iinc_nm C (lvf := fun x15 => [(4, .int x15), (0, .ref (q 0)), (1, .int a1), (2, .int a2), (3, .int a3)]) 4 dX6_join_73 rfl rfl (by decide) (fun _ => rfl) (fun x15 => ?_)
        refine v_goto C dX6_join_76 (tgt := 26) (by decide) ?_
        exact v_sub [1, 2, 3, 4, 0] rfl (ih x15 g6 nx14)
      · refine v_ifb_eq C (b := r10) dX6_join_49 (tgt := 61) (by decide) ?_ ?_
        · refine v_iload C 4 dX6_join_61 rfl ?_
          refine v_iconst C dX6_join_63 (v := 1) (by decide) ?_
          refine v_iload_n C 3 dX6_join_64 rfl ?_
          refine v_ishl C dX6_join_65 ?_
          refine v_iconst C dX6_join_66 (v := (-1)) (by decide) ?_
          refine v_ixor C dX6_join_67 ?_
          refine v_iand C dX6_join_68 ?_
          exact v_sub [0, 1, 2, 3, 4] rfl (hk11 (v5 &&& ((1 <<< (a3 &&& 31)) ^^^ (-1))))
        · refine v_iload C 4 dX6_join_52 rfl ?_
          refine v_iconst C dX6_join_54 (v := 1) (by decide) ?_
          refine v_iload_n C 3 dX6_join_55 rfl ?_
          refine v_ishl C dX6_join_56 ?_
          refine v_ior C dX6_join_57 ?_
          refine v_goto C dX6_join_58 (tgt := 69) (by decide) ?_
          exact v_sub [0, 1, 2, 3, 4] rfl (hk11 (v5 ||| (1 <<< (a3 &&& 31))))

set_option maxRecDepth 100000 in
set_option maxHeartbeats 4000000 in
theorem k_X6_join {l : Launch} {a1 : Int32} {a2 : Int32} {a3 : Int32}  {res : Int32 × Bool × (Nat → Int64) × (Nat → Int64)} (hq : (mA q).Nodup) (hNK : NOK N)  (hf : f_X6_join isB g nx a1 a2 a3 = some res) : kMet l yX6_join wsX6_join { frames := 3, cells := 0, slots := 0, locals := 68 } D vwCl (mT cs) N (mA q) [.ref (q 0), .int a1, .int a2, .int a3] (mW q cs isK isB fed at_ ltr ab ps g kp nx fa tp rs rv ct it) (some (.int res.1)) (mW q cs isK res.2.1 fed at_ ltr ab ps res.2.2.1 kp res.2.2.2 fa tp rs rv ct it) := by
  have iX6 : ∀ w ∈ wsX60, w ∈ wsX6_join := fun _ h => List.mem_cons_of_mem _ (List.mem_append_right _ h)
  refine kMet.of (cc := cX6_join) (nL := 5) (ret := (some .int)) (own := RX6) (lv := [(0, .ref (q 0)), (1, .int a1), (2, .int a2), (3, .int a3)]) (by decide +kernel) rfl rfl hNK hq (Nat.le_of_ble_eq_true rfl) rfl (fun X C => ?_)
  refine VF.of hf ?_
  unfold f_X6_join
  refine v_iload_n C 1 dX6_join_0 rfl ?_
  refine v_callSP1v C (fun l9 r9 h9 => k_X6_isGame (l := l9) h9) gX6_join_X6_isGame rfl nI_X6_isGame ⟨rfl, rfl, Nat.le_of_ble_eq_true rfl, Nat.le_of_ble_eq_true rfl⟩ dX6_join_1 (Nat.le_of_ble_eq_true rfl) (fun r1 => ?_)
  refine v_ifb_eq C (b := r1) dX6_join_4 (tgt := 16) (by decide) ?_ ?_
  · refine v_iconst C dX6_join_16 (v := (-1)) (by decide) ?_
    exact v_iret (rvf := fun (res : Int32 × Bool × (Nat → Int64) × (Nat → Int64)) => (some (.int res.1))) (wf := fun (res : Int32 × Bool × (Nat → Int64) × (Nat → Int64)) => (mW q cs isK res.2.1 fed at_ ltr ab ps res.2.2.1 kp res.2.2.2 fa tp rs rv ct it)) C dX6_join_17 rfl rfl
  · refine v_aload_n C 0 dX6_join_7 rfl ?_
    refine v_iload_n C 2 dX6_join_8 rfl ?_
    refine v_iload_n C 3 dX6_join_9 rfl ?_
    refine v_callV2v C 0 rfl rfl rfl (fun l9 r9 h9 => k_X6_isTwo (l := l9) hq hNK  h9) gX6_join_X6_isTwo rfl nI_X6_isTwo ⟨rfl, rfl, Nat.le_of_ble_eq_true rfl, Nat.le_of_ble_eq_true rfl⟩ dX6_join_10 (Nat.le_of_ble_eq_true rfl) (fun r2 => ?_)
    refine v_ifb_ne C (b := r2) dX6_join_13 (tgt := 18) (by decide) ?_ ?_
    · refine v_aload_n C 0 dX6_join_18 rfl ?_
      refine v_iconst C dX6_join_19 (v := 0) (by decide) ?_
      refine v_put_nm C (v := false) (fun z9 => Value.int (bI z9)) (ty := .boolean) (T := TX6) (n := 16) (C9 := RX6) (ty0 := tyX6) (fun isB3 => (mW q cs isK isB3 fed at_ ltr ab ps g kp nx fa tp rs rv ct it)) iX6 tyX6_ok nmX6 0 rfl rfl rfl 5 (by decide) (List.mem_of_getElem? (i := 1) rfl) rfl rfl rfl bI_nar bI_fit (Nat.le_of_ble_eq_true rfl) (fun _ => rfl) dX6_join_20 (fun isB3 => ?_)
      refine v_iconst C dX6_join_23 (v := 0) (by decide) ?_
      refine v_istore C (lv' := [(4, .int 0), (0, .ref (q 0)), (1, .int a1), (2, .int a2), (3, .int a3)]) dX6_join_24 (by decide) rfl ?_
      refine v_sub [1, 2, 3, 4, 0] rfl (lp_X6_join_1 hq hNK C   FU 0 g nx)
    · refine v_iconst C dX6_join_16 (v := (-1)) (by decide) ?_
      exact v_iret (rvf := fun (res : Int32 × Bool × (Nat → Int64) × (Nat → Int64)) => (some (.int res.1))) (wf := fun (res : Int32 × Bool × (Nat → Int64) × (Nat → Int64)) => (mW q cs isK res.2.1 fed at_ ltr ab ps res.2.2.1 kp res.2.2.2 fa tp rs rv ct it)) C dX6_join_17 rfl rfl

def B_X6_swap_1 (a1 : Int32) (a2 : Int32) (a3 : Int32) (isB4 : Bool) (rec5 : Int32 → (Nat → Int64) → (Nat → Int64) → Option (Int32 × Bool × (Nat → Int64) × (Nat → Int64)))  (v6 : Int32) (g7 : Nat → Int64) (nx8 : Nat → Int64) : Option (Int32 × Bool × (Nat → Int64) × (Nat → Int64)) :=
(f_X6_all g7).bind (fun (r9 : Int32) =>
if (r9 : Int32) < v6 then (
(f_X6_takes isB4 g7 nx8 a1).bind (fun (r10 : Int32 × (Nat → Int64)) =>
some (r10.1, isB4, r10.2, nx8))) else (
(f_X6_has v6 a2).bind (fun (r11 : Bool) =>
(f_X6_has v6 a3).bind (fun (r12 : Bool) =>
jn1 (fun (v14 : Int32) =>
(f_X6_v g7 a1 v14).bind (fun (r15 : Int64) =>
ck (inb v6 512) (
nm (vp_updL nx8 v6.toNatClampNeg r15) (fun (nx16 : Nat → Int64) =>
nm (v6 + 1) (fun (x17 : Int32) =>
rec5 x17 g7 nx16))))) (fun k13 =>
if (bI r11 : Int32) = (bI r12) then (
k13 v6) else (
k13 ((v6 ^^^ (1 <<< (a2 &&& 31))) ^^^ (1 <<< (a3 &&& 31)))))))))
def L_X6_swap_1 (a1 : Int32) (a2 : Int32) (a3 : Int32) (isB4 : Bool)  : Nat → Int32 → (Nat → Int64) → (Nat → Int64) → Option (Int32 × Bool × (Nat → Int64) × (Nat → Int64))
  | 0, _, _, _ => none
  | m9 + 1, v6, g7, nx8 => B_X6_swap_1 a1 a2 a3 isB4 (L_X6_swap_1 a1 a2 a3 isB4 m9)  v6 g7 nx8

def f_X6_swap (isB : Bool) (g : Nat → Int64) (nx : Nat → Int64) (a1 : Int32) (a2 : Int32) (a3 : Int32) : Option (Int32 × Bool × (Nat → Int64) × (Nat → Int64)) :=
(f_X6_isGame a1).bind (fun (r1 : Bool) =>
if r1 = true then (
(f_X6_isPartner g a2).bind (fun (r2 : Bool) =>
if r2 = true then (
(f_X6_isPartner g a3).bind (fun (r3 : Bool) =>
if r3 = true then (
nm false (fun (isB4 : Bool) =>
L_X6_swap_1 a1 a2 a3 isB4  FU 0 g nx)) else (
some ((-1), isB, g, nx)))) else (
some ((-1), isB, g, nx)))) else (
some ((-1), isB, g, nx)))

theorem nI_X6_swap : NameIn yX6_swap 3 := ⟨by decide +kernel, by decide +kernel, by decide +kernel⟩
set_option maxRecDepth 100000 in
set_option maxHeartbeats 4000000 in
theorem lp_X6_swap_1 {X : CX} {res : Int32 × Bool × (Nat → Int64) × (Nat → Int64)} {a1 : Int32} {a2 : Int32} {a3 : Int32}  {isB4 : Bool} (hq : (mA q).Nodup) (hNK : NOK N) (C : Ok X cX6_swap 5 (some .int) wsX6_swap RX6 { frames := 3, cells := 0, slots := 0, locals := 63 } D vwCl (mT cs) (mA q) N (some (.int res.1)) (mW q cs isK res.2.1 fed at_ ltr ab ps res.2.2.1 kp res.2.2.2 fa tp rs rv ct it))  : ∀ fuel : Nat, ∀ v6 : Int32, ∀ g7 : Nat → Int64, ∀ nx8 : Nat → Int64, VF X res (L_X6_swap_1 a1 a2 a3 isB4 fuel v6 g7 nx8) (mW q cs isK isB4 fed at_ ltr ab ps g7 kp nx8 fa tp rs rv ct it) 33 [(0, .ref (q 0)), (1, .int a1), (2, .int a2), (3, .int a3), (4, .int v6)] [] := by
  have iX6 : ∀ w ∈ wsX60, w ∈ wsX6_swap := fun _ h => List.mem_cons_of_mem _ (List.mem_append_right _ h)
  intro fuel
  induction fuel with
  | zero =>
    intro _ _ _
    exact v_none
  | succ fuel ih =>
    intro v6 g7 nx8
    show VF X res (B_X6_swap_1 a1 a2 a3 isB4 (L_X6_swap_1 a1 a2 a3 isB4 fuel)  v6 g7 nx8) _ _ _ _
    unfold B_X6_swap_1
    refine v_iload C 4 dX6_swap_33 rfl ?_
    refine v_aload_n C 0 dX6_swap_35 rfl ?_
    refine v_callV0v C 0 rfl rfl rfl (fun l9 r9 h9 => k_X6_all (l := l9) hq hNK  h9) gX6_swap_X6_all rfl nI_X6_all ⟨rfl, rfl, Nat.le_of_ble_eq_true rfl, Nat.le_of_ble_eq_true rfl⟩ dX6_swap_36 (Nat.le_of_ble_eq_true rfl) (fun r9 => ?_)
    refine v_icmp_gt C dX6_swap_39 (tgt := 90) (by decide) ?_ ?_
    · refine v_aload_n C 0 dX6_swap_90 rfl ?_
      refine v_iload_n C 1 dX6_swap_91 rfl ?_
      refine v_callV1v C 0 rfl rfl rfl (fun l9 r9 h9 => k_X6_takes (l := l9) hq hNK  h9) gX6_swap_X6_takes rfl nI_X6_takes ⟨rfl, rfl, Nat.le_of_ble_eq_true rfl, Nat.le_of_ble_eq_true rfl⟩ dX6_swap_92 (Nat.le_of_ble_eq_true rfl) (fun r10 => ?_)
      exact v_iret (rvf := fun (res : Int32 × Bool × (Nat → Int64) × (Nat → Int64)) => (some (.int res.1))) (wf := fun (res : Int32 × Bool × (Nat → Int64) × (Nat → Int64)) => (mW q cs isK res.2.1 fed at_ ltr ab ps res.2.2.1 kp res.2.2.2 fa tp rs rv ct it)) C dX6_swap_95 rfl rfl
    · refine v_aload_n C 0 dX6_swap_42 rfl ?_
      refine v_get C (T := TX6) (n := 16) (C9 := RX6) iX6 0 rfl rfl 2 (by decide) (List.mem_of_getElem? (i := 2) rfl) rfl rfl dX6_swap_43 ?_
      refine v_iload C 4 dX6_swap_46 rfl ?_
      refine v_aload_n C 0 dX6_swap_48 rfl ?_
      refine v_iload_n C 1 dX6_swap_49 rfl ?_
      refine v_iload C 4 dX6_swap_50 rfl ?_
      refine v_iload_n C 2 dX6_swap_52 rfl ?_
      refine v_callSP2v C (fun l9 r9 h9 => k_X6_has (l := l9) h9) gX6_swap_X6_has rfl nI_X6_has ⟨rfl, rfl, Nat.le_of_ble_eq_true rfl, Nat.le_of_ble_eq_true rfl⟩ dX6_swap_53 (Nat.le_of_ble_eq_true rfl) (fun r11 => ?_)
      refine v_iload C 4 dX6_swap_56 rfl ?_
      refine v_iload_n C 3 dX6_swap_58 rfl ?_
      refine v_callSP2v C (fun l9 r9 h9 => k_X6_has (l := l9) h9) gX6_swap_X6_has rfl nI_X6_has ⟨rfl, rfl, Nat.le_of_ble_eq_true rfl, Nat.le_of_ble_eq_true rfl⟩ dX6_swap_59 (Nat.le_of_ble_eq_true rfl) (fun r12 => ?_)
      refine v_jn1 (wj := (fun v14 => (mW q cs isK isB4 fed at_ ltr ab ps g7 kp nx8 fa tp rs rv ct it))) (pcj := 80) (lvj := (fun v14 => [(0, .ref (q 0)), (1, .int a1), (2, .int a2), (3, .int a3), (4, .int v6)])) (stj := (fun v14 => [.int v14, .int a1, .ref (q 0), .int v6, .ref (q 3)])) (fun v14 => ?_) (fun k13 hk13 => ?_)
      · refine v_callV2v C 0 rfl rfl rfl (fun l9 r9 h9 => k_X6_v (l := l9) hq hNK  h9) gX6_swap_X6_v rfl nI_X6_v ⟨rfl, rfl, Nat.le_of_ble_eq_true rfl, Nat.le_of_ble_eq_true rfl⟩ dX6_swap_80 (Nat.le_of_ble_eq_true rfl) (fun r15 => ?_)
        refine v_last_nm C (fun nx16 => (mW q cs isK isB4 fed at_ ltr ab ps g7 kp nx16 fa tp rs rv ct it)) 3 1 rfl rfl rfl (fun _ => rfl) dX6_swap_83 (fun nx16 => ?_)
        refine v_iinc_nm C (lvf := fun x17 => [(4, .int x17), (0, .ref (q 0)), (1, .int a1), (2, .int a2), (3, .int a3)]) 4 dX6_swap_84 rfl rfl (by decide) (fun _ => rfl) (fun x17 => ?_)
        refine v_goto C dX6_swap_87 (tgt := 33) (by decide) ?_
        exact v_sub [1, 2, 3, 4, 0] rfl (ih x17 g7 nx16)
      · refine v_icmp_ne C dX6_swap_62 (tgt := 70) (by decide) ?_ ?_
        · refine v_iload C 4 dX6_swap_70 rfl ?_
          refine v_iconst C dX6_swap_72 (v := 1) (by decide) ?_
          refine v_iload_n C 2 dX6_swap_73 rfl ?_
          refine v_ishl C dX6_swap_74 ?_
          refine v_ixor C dX6_swap_75 ?_
          refine v_iconst C dX6_swap_76 (v := 1) (by decide) ?_
          refine v_iload_n C 3 dX6_swap_77 rfl ?_
          refine v_ishl C dX6_swap_78 ?_
          refine v_ixor C dX6_swap_79 ?_
          exact v_sub [0, 1, 2, 3, 4] rfl (hk13 ((v6 ^^^ (1 <<< (a2 &&& 31))) ^^^ (1 <<< (a3 &&& 31))))
        · refine v_iload C 4 dX6_swap_65 rfl ?_
          refine v_goto C dX6_swap_67 (tgt := 80) (by decide) ?_
          exact v_sub [0, 1, 2, 3, 4] rfl (hk13 v6)

set_option maxRecDepth 100000 in
set_option maxHeartbeats 4000000 in
theorem k_X6_swap {l : Launch} {a1 : Int32} {a2 : Int32} {a3 : Int32}  {res : Int32 × Bool × (Nat → Int64) × (Nat → Int64)} (hq : (mA q).Nodup) (hNK : NOK N)  (hf : f_X6_swap isB g nx a1 a2 a3 = some res) : kMet l yX6_swap wsX6_swap { frames := 3, cells := 0, slots := 0, locals := 63 } D vwCl (mT cs) N (mA q) [.ref (q 0), .int a1, .int a2, .int a3] (mW q cs isK isB fed at_ ltr ab ps g kp nx fa tp rs rv ct it) (some (.int res.1)) (mW q cs isK res.2.1 fed at_ ltr ab ps res.2.2.1 kp res.2.2.2 fa tp rs rv ct it) := by
  have iX6 : ∀ w ∈ wsX60, w ∈ wsX6_swap := fun _ h => List.mem_cons_of_mem _ (List.mem_append_right _ h)
  refine kMet.of (cc := cX6_swap) (nL := 5) (ret := (some .int)) (own := RX6) (lv := [(0, .ref (q 0)), (1, .int a1), (2, .int a2), (3, .int a3)]) (by decide +kernel) rfl rfl hNK hq (Nat.le_of_ble_eq_true rfl) rfl (fun X C => ?_)
  refine VF.of hf ?_
  unfold f_X6_swap
  refine v_iload_n C 1 dX6_swap_0 rfl ?_
  refine v_callSP1v C (fun l9 r9 h9 => k_X6_isGame (l := l9) h9) gX6_swap_X6_isGame rfl nI_X6_isGame ⟨rfl, rfl, Nat.le_of_ble_eq_true rfl, Nat.le_of_ble_eq_true rfl⟩ dX6_swap_1 (Nat.le_of_ble_eq_true rfl) (fun r1 => ?_)
  refine v_ifb_eq C (b := r1) dX6_swap_4 (tgt := 23) (by decide) ?_ ?_
  · refine v_iconst C dX6_swap_23 (v := (-1)) (by decide) ?_
    exact v_iret (rvf := fun (res : Int32 × Bool × (Nat → Int64) × (Nat → Int64)) => (some (.int res.1))) (wf := fun (res : Int32 × Bool × (Nat → Int64) × (Nat → Int64)) => (mW q cs isK res.2.1 fed at_ ltr ab ps res.2.2.1 kp res.2.2.2 fa tp rs rv ct it)) C dX6_swap_24 rfl rfl
  · refine v_aload_n C 0 dX6_swap_7 rfl ?_
    refine v_iload_n C 2 dX6_swap_8 rfl ?_
    refine v_callV1v C 0 rfl rfl rfl (fun l9 r9 h9 => k_X6_isPartner (l := l9) hq hNK  h9) gX6_swap_X6_isPartner rfl nI_X6_isPartner ⟨rfl, rfl, Nat.le_of_ble_eq_true rfl, Nat.le_of_ble_eq_true rfl⟩ dX6_swap_9 (Nat.le_of_ble_eq_true rfl) (fun r2 => ?_)
    refine v_ifb_eq C (b := r2) dX6_swap_12 (tgt := 23) (by decide) ?_ ?_
    · refine v_iconst C dX6_swap_23 (v := (-1)) (by decide) ?_
      exact v_iret (rvf := fun (res : Int32 × Bool × (Nat → Int64) × (Nat → Int64)) => (some (.int res.1))) (wf := fun (res : Int32 × Bool × (Nat → Int64) × (Nat → Int64)) => (mW q cs isK res.2.1 fed at_ ltr ab ps res.2.2.1 kp res.2.2.2 fa tp rs rv ct it)) C dX6_swap_24 rfl rfl
    · refine v_aload_n C 0 dX6_swap_15 rfl ?_
      refine v_iload_n C 3 dX6_swap_16 rfl ?_
      refine v_callV1v C 0 rfl rfl rfl (fun l9 r9 h9 => k_X6_isPartner (l := l9) hq hNK  h9) gX6_swap_X6_isPartner rfl nI_X6_isPartner ⟨rfl, rfl, Nat.le_of_ble_eq_true rfl, Nat.le_of_ble_eq_true rfl⟩ dX6_swap_17 (Nat.le_of_ble_eq_true rfl) (fun r3 => ?_)
      refine v_ifb_ne C (b := r3) dX6_swap_20 (tgt := 25) (by decide) ?_ ?_
      · refine v_aload_n C 0 dX6_swap_25 rfl ?_
        refine v_iconst C dX6_swap_26 (v := 0) (by decide) ?_
        refine v_put_nm C (v := false) (fun z9 => Value.int (bI z9)) (ty := .boolean) (T := TX6) (n := 16) (C9 := RX6) (ty0 := tyX6) (fun isB4 => (mW q cs isK isB4 fed at_ ltr ab ps g kp nx fa tp rs rv ct it)) iX6 tyX6_ok nmX6 0 rfl rfl rfl 5 (by decide) (List.mem_of_getElem? (i := 1) rfl) rfl rfl rfl bI_nar bI_fit (Nat.le_of_ble_eq_true rfl) (fun _ => rfl) dX6_swap_27 (fun isB4 => ?_)
        refine v_iconst C dX6_swap_30 (v := 0) (by decide) ?_
        refine v_istore C (lv' := [(4, .int 0), (0, .ref (q 0)), (1, .int a1), (2, .int a2), (3, .int a3)]) dX6_swap_31 (by decide) rfl ?_
        refine v_sub [1, 2, 3, 4, 0] rfl (lp_X6_swap_1 hq hNK C   FU 0 g nx)
      · refine v_iconst C dX6_swap_23 (v := (-1)) (by decide) ?_
        exact v_iret (rvf := fun (res : Int32 × Bool × (Nat → Int64) × (Nat → Int64)) => (some (.int res.1))) (wf := fun (res : Int32 × Bool × (Nat → Int64) × (Nat → Int64)) => (mW q cs isK res.2.1 fed at_ ltr ab ps res.2.2.1 kp res.2.2.2 fa tp rs rv ct it)) C dX6_swap_24 rfl rfl

end WK
