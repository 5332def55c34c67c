section WK
variable {q : Nat → Nat} {cs : Nat → ClassId} {D : va_G} {N : (Nat → Prop) → State → Prop} {isK : Bool} {isB : Bool} {fed : Int32} {at_ : Int32} {ltr : Int32} {ab : Int64} {ps : Nat} {g : Nat → Int64} {kp : Nat → Int64} {nx : Nat → Int64} {fa : Nat → Int64} {tp : Nat → Int32} {rs : Nat → Int32} {rv : Nat → Int64} {ct : Nat → Int32} {it : Nat → Int64}
def f_X6_gain (isB : Bool) (g : Nat → Int64) (a1 : Int32) (a2 : Int32) (a3 : Int32) : Option (Int64 × Bool) :=
(f_X6_v g a1 (a3 ||| (1 <<< (a2 &&& 31)))).bind (fun (r1 : Int64) =>
(f_X6_v g a1 a3).bind (fun (r2 : Int64) =>
(f_X6_minus isB r1 r2).bind (fun (r3 : Int64 × Bool) =>
some (r3.1, r3.2))))

theorem nI_X6_gain : NameIn yX6_gain 3 := ⟨by decide +kernel, by decide +kernel, by decide +kernel⟩
set_option maxRecDepth 100000 in
set_option maxHeartbeats 4000000 in
theorem k_X6_gain {l : Launch} {a1 : Int32} {a2 : Int32} {a3 : Int32}  {res : Int64 × Bool} (hq : (mA q).Nodup) (hNK : NOK N)  (hf : f_X6_gain isB g a1 a2 a3 = some res) : kMet l yX6_gain wsX6_gain { frames := 1, cells := 0, slots := 0, locals := 26 } D vwCl (mT cs) N (mA q) [.ref (q 0), .int a1, .int a2, .int a3] (mW q cs isK isB fed at_ ltr ab ps g kp nx fa tp rs rv ct it) (some (.long res.1)) (mW q cs isK res.2 fed at_ ltr ab ps g kp nx fa tp rs rv ct it) := by
  refine kMet.of (cc := cX6_gain) (nL := 4) (ret := (some .long)) (own := RX6) (lv := [(0, .ref (q 0)), (1, .int a1), (2, .int a2), (3, .int a3)]) (by decide +kernel) rfl rfl hNK hq (Nat.le_of_ble_eq_true rfl) rfl (fun X C => ?_)
  refine VF.of hf ?_
  unfold f_X6_gain
  refine v_aload_n C 0 dX6_gain_0 rfl ?_
  refine v_aload_n C 0 dX6_gain_1 rfl ?_
  refine v_iload_n C 1 dX6_gain_2 rfl ?_
  refine v_iload_n C 3 dX6_gain_3 rfl ?_
  refine v_iconst C dX6_gain_4 (v := 1) (by decide) ?_
  refine v_iload_n C 2 dX6_gain_5 rfl ?_
  refine v_ishl C dX6_gain_6 ?_
  refine v_ior C dX6_gain_7 ?_
  refine v_callV2v C 0 rfl rfl rfl (fun l9 r9 h9 => k_X6_v (l := l9) hq hNK  h9) gX6_gain_X6_v rfl nI_X6_v ⟨rfl, rfl, Nat.le_of_ble_eq_true rfl, Nat.le_of_ble_eq_true rfl⟩ dX6_gain_8 (Nat.le_of_ble_eq_true rfl) (fun r1 => ?_)
  refine v_aload_n C 0 dX6_gain_11 rfl ?_
  refine v_iload_n C 1 dX6_gain_12 rfl ?_
  refine v_iload_n C 3 dX6_gain_13 rfl ?_
  refine v_callV2v C 0 rfl rfl rfl (fun l9 r9 h9 => k_X6_v (l := l9) hq hNK  h9) gX6_gain_X6_v rfl nI_X6_v ⟨rfl, rfl, Nat.le_of_ble_eq_true rfl, Nat.le_of_ble_eq_true rfl⟩ dX6_gain_14 (Nat.le_of_ble_eq_true rfl) (fun r2 => ?_)
  refine v_callV2v C 0 rfl rfl rfl (fun l9 r9 h9 => k_X6_minus (l := l9) hq hNK  h9) gX6_gain_X6_minus rfl nI_X6_minus ⟨rfl, rfl, Nat.le_of_ble_eq_true rfl, Nat.le_of_ble_eq_true rfl⟩ dX6_gain_17 (Nat.le_of_ble_eq_true rfl) (fun r3 => ?_)
  exact v_lret (rvf := fun (res : Int64 × Bool) => (some (.long res.1))) (wf := fun (res : Int64 × Bool) => (mW q cs isK res.2 fed at_ ltr ab ps g kp nx fa tp rs rv ct it)) C dX6_gain_20 rfl rfl

def B_X6_shares_1 (g : Nat → Int64) (fa : Nat → Int64) (a1 : Int32) (a2 : Int32) (rec3 : Int32 → Bool → Int64 → Option (Bool × Int64))  (v4 : Int32) (isB5 : Bool) (ab6 : Int64) : Option (Bool × Int64) :=
(f_X6_all g).bind (fun (r7 : Int32) =>
if (r7 : Int32) < v4 then (
some (isB5, ab6)) else (
(f_X6_has v4 a2).bind (fun (r8 : Bool) =>
jn2 (fun (isB10 : Bool) (ab11 : Int64) =>
nm (v4 + 1) (fun (x12 : Int32) =>
rec3 x12 isB10 ab11)) (fun k9 =>
if r8 = true then (
k9 isB5 ab6) else (
(f_X6_gain isB5 g a1 a2 v4).bind (fun (r13 : Int64 × Bool) =>
(f_X6_size v4).bind (fun (r14 : Int32) =>
ck (inb r14 10) (
(f_X6_n g).bind (fun (r15 : Int32) =>
(f_X6_size v4).bind (fun (r16 : Int32) =>
ck (inb ((r15 - r16) - 1) 10) (
(f_X6_product r13.2 r13.1 ((fa r14.toNatClampNeg) * (fa ((r15 - r16) - 1).toNatClampNeg))).bind (fun (r17 : Int64 × Bool) =>
(f_X6_plus r17.2 ab6 r17.1).bind (fun (r18 : Int64 × Bool) =>
nm r18.1 (fun (ab19 : Int64) =>
k9 r18.2 ab19))))))))))))))
def L_X6_shares_1 (g : Nat → Int64) (fa : Nat → Int64) (a1 : Int32) (a2 : Int32)  : Nat → Int32 → Bool → Int64 → Option (Bool × Int64)
  | 0, _, _, _ => none
  | m9 + 1, v4, isB5, ab6 => B_X6_shares_1 g fa a1 a2 (L_X6_shares_1 g fa a1 a2 m9)  v4 isB5 ab6

def f_X6_shares (isB : Bool) (ab : Int64) (g : Nat → Int64) (fa : Nat → Int64) (a1 : Int32) (a2 : Int32) : Option (Bool × Int64) :=
nm false (fun (isB1 : Bool) =>
nm (0 : Int64) (fun (ab2 : Int64) =>
L_X6_shares_1 g fa a1 a2  FU 0 isB1 ab2))

theorem nI_X6_shares : NameIn yX6_shares 2 := ⟨by decide +kernel, by decide +kernel, by decide +kernel⟩
set_option maxRecDepth 100000 in
set_option maxHeartbeats 4000000 in
theorem lp_X6_shares_1 {X : CX} {res : Bool × Int64} {a1 : Int32} {a2 : Int32}   (hq : (mA q).Nodup) (hNK : NOK N) (C : Ok X cX6_shares 4 none wsX6_shares RX6 { frames := 2, cells := 0, slots := 0, locals := 49 } D vwCl (mT cs) (mA q) N none (mW q cs isK res.1 fed at_ ltr res.2 ps g kp nx fa tp rs rv ct it))  : ∀ fuel : Nat, ∀ v4 : Int32, ∀ isB5 : Bool, ∀ ab6 : Int64, VF X res (L_X6_shares_1 g fa a1 a2 fuel v4 isB5 ab6) (mW q cs isK isB5 fed at_ ltr ab6 ps g kp nx fa tp rs rv ct it) 12 [(0, .ref (q 0)), (1, .int a1), (2, .int a2), (3, .int v4)] [] := by
  have iX6 : ∀ w ∈ wsX60, w ∈ wsX6_shares := fun _ h => List.mem_cons_of_mem _ (List.mem_append_right _ h)
  intro fuel
  induction fuel with
  | zero =>
    intro _ _ _
    exact v_none
  | succ fuel ih =>
    intro v4 isB5 ab6
    show VF X res (B_X6_shares_1 g fa a1 a2 (L_X6_shares_1 g fa a1 a2 fuel)  v4 isB5 ab6) _ _ _ _
    unfold B_X6_shares_1
    refine v_iload_n C 3 dX6_shares_12 rfl ?_
    refine v_aload_n C 0 dX6_shares_13 rfl ?_
    refine v_callV0v C 0 rfl rfl rfl (fun l9 r9 h9 => k_X6_all (l := l9) hq hNK  h9) gX6_shares_X6_all rfl nI_X6_all ⟨rfl, rfl, Nat.le_of_ble_eq_true rfl, Nat.le_of_ble_eq_true rfl⟩ dX6_shares_14 (Nat.le_of_ble_eq_true rfl) (fun r7 => ?_)
    refine v_icmp_gt C dX6_shares_17 (tgt := 83) (by decide) ?_ ?_
    · exact v_vret (rvf := fun (res : Bool × Int64) => none) (wf := fun (res : Bool × Int64) => (mW q cs isK res.1 fed at_ ltr res.2 ps g kp nx fa tp rs rv ct it)) C dX6_shares_83 rfl rfl
    · refine v_iload_n C 3 dX6_shares_20 rfl ?_
      refine v_iload_n C 2 dX6_shares_21 rfl ?_
      refine v_callSP2v C (fun l9 r9 h9 => k_X6_has (l := l9) h9) gX6_shares_X6_has rfl nI_X6_has ⟨rfl, rfl, Nat.le_of_ble_eq_true rfl, Nat.le_of_ble_eq_true rfl⟩ dX6_shares_22 (Nat.le_of_ble_eq_true rfl) (fun r8 => ?_)
      refine v_jn2 (wj := (fun isB10 ab11 => (mW q cs isK isB10 fed at_ ltr ab11 ps g kp nx fa tp rs rv ct it))) (pcj := 77) (lvj := (fun isB10 ab11 => [(0, .ref (q 0)), (1, .int a1), (2, .int a2), (3, .int v4)])) (stj := (fun isB10 ab11 => [])) (fun isB10 ab11 => ?_) (fun k9 hk9 => ?_)
      · refine v_iinc_nm C (lvf := fun x12 => [(3, .int x12), (0, .ref (q 0)), (1, .int a1), (2, .int a2)]) 3 dX6_shares_77 rfl rfl (by decide) (fun _ => rfl) (fun x12 => ?_)
        refine v_goto C dX6_shares_80 (tgt := 12) (by decide) ?_
        exact v_sub [1, 2, 3, 0] rfl (ih x12 isB10 ab11)
      · refine v_ifb_ne C (b := r8) dX6_shares_25 (tgt := 77) (by decide) ?_ ?_
        · exact v_sub [0, 1, 2, 3] rfl (hk9 isB5 ab6)
        · refine v_aload_n C 0 dX6_shares_28 rfl ?_
          refine v_aload_n C 0 dX6_shares_29 rfl ?_
          refine v_aload_n C 0 dX6_shares_30 rfl ?_
          refine v_get C (T := TX6) (n := 16) (C9 := RX6) iX6 0 rfl rfl 12 (by decide) (List.mem_of_getElem? (i := 2) rfl) rfl rfl dX6_shares_31 ?_
          refine v_aload_n C 0 dX6_shares_34 rfl ?_
          refine v_aload_n C 0 dX6_shares_35 rfl ?_
          refine v_iload_n C 1 dX6_shares_36 rfl ?_
          refine v_iload_n C 2 dX6_shares_37 rfl ?_
          refine v_iload_n C 3 dX6_shares_38 rfl ?_
          refine v_callV3v C 0 rfl rfl rfl (fun l9 r9 h9 => k_X6_gain (l := l9) hq hNK  h9) gX6_shares_X6_gain rfl nI_X6_gain ⟨rfl, rfl, Nat.le_of_ble_eq_true rfl, Nat.le_of_ble_eq_true rfl⟩ dX6_shares_39 (Nat.le_of_ble_eq_true rfl) (fun r13 => ?_)
          refine v_aload_n C 0 dX6_shares_42 rfl ?_
          refine v_get C (T := TX6) (n := 16) (C9 := RX6) iX6 0 rfl rfl 3 (by decide) (List.mem_of_getElem? (i := 3) rfl) rfl rfl dX6_shares_43 ?_
          refine v_iload_n C 3 dX6_shares_46 rfl ?_
          refine v_callSP1v C (fun l9 r9 h9 => k_X6_size (l := l9) h9) gX6_shares_X6_size rfl nI_X6_size ⟨rfl, rfl, Nat.le_of_ble_eq_true rfl, Nat.le_of_ble_eq_true rfl⟩ dX6_shares_47 (Nat.le_of_ble_eq_true rfl) (fun r14 => ?_)
          refine v_lald C 4 1 rfl rfl dX6_shares_50 ?_
          refine v_aload_n C 0 dX6_shares_51 rfl ?_
          refine v_get C (T := TX6) (n := 16) (C9 := RX6) iX6 0 rfl rfl 3 (by decide) (List.mem_of_getElem? (i := 3) rfl) rfl rfl dX6_shares_52 ?_
          refine v_aload_n C 0 dX6_shares_55 rfl ?_
          refine v_callV0vw C 0 rfl rfl rfl (fun l9 r9 h9 => k_X6_n (l := l9) hq hNK  h9) gX6_shares_X6_n rfl nI_X6_n ⟨rfl, rfl, Nat.le_of_ble_eq_true rfl, Nat.le_of_ble_eq_true rfl⟩ (Nat.le_of_ble_eq_true rfl) dX6_shares_56 (Nat.le_of_ble_eq_true rfl) (fun r15 => ?_)
          refine v_iload_n C 3 dX6_shares_59 rfl ?_
          refine v_callSP1vw C (fun l9 r9 h9 => k_X6_size (l := l9) h9) gX6_shares_X6_size rfl nI_X6_size ⟨rfl, rfl, Nat.le_of_ble_eq_true rfl, Nat.le_of_ble_eq_true rfl⟩ (Nat.le_of_ble_eq_true rfl) dX6_shares_60 (Nat.le_of_ble_eq_true rfl) (fun r16 => ?_)
          refine v_isub C dX6_shares_63 ?_
          refine v_iconst C dX6_shares_64 (v := 1) (by decide) ?_
          refine v_isub C dX6_shares_65 ?_
          refine v_lald C 4 1 rfl rfl dX6_shares_66 ?_
          refine v_lmul C dX6_shares_67 ?_
          refine v_callV2v C 0 rfl rfl rfl (fun l9 r9 h9 => k_X6_product (l := l9) hq hNK  h9) gX6_shares_X6_product rfl nI_X6_product ⟨rfl, rfl, Nat.le_of_ble_eq_true rfl, Nat.le_of_ble_eq_true rfl⟩ dX6_shares_68 (Nat.le_of_ble_eq_true rfl) (fun r17 => ?_)
          refine v_callV2v C 0 rfl rfl rfl (fun l9 r9 h9 => k_X6_plus (l := l9) hq hNK  h9) gX6_shares_X6_plus rfl nI_X6_plus ⟨rfl, rfl, Nat.le_of_ble_eq_true rfl, Nat.le_of_ble_eq_true rfl⟩ dX6_shares_71 (Nat.le_of_ble_eq_true rfl) (fun r18 => ?_)
          refine v_put_nm C (v := (r18.1 : Int64)) Value.long (ty := .long) (T := TX6) (n := 16) (C9 := RX6) (ty0 := tyX6) (fun ab19 => (mW q cs isK r18.2 fed at_ ltr ab19 ps g kp nx fa tp rs rv ct it)) iX6 tyX6_ok nmX6 0 rfl rfl rfl 12 (by decide) (List.mem_of_getElem? (i := 2) rfl) rfl rfl rfl (fun _ => rfl) (fun _ => rfl) (Nat.le_of_ble_eq_true rfl) (fun _ => rfl) dX6_shares_74 (fun ab19 => ?_)
          exact v_sub [0, 1, 2, 3] rfl (hk9 r18.2 ab19)

set_option maxRecDepth 100000 in
set_option maxHeartbeats 4000000 in
theorem k_X6_shares {l : Launch} {a1 : Int32} {a2 : Int32}  {res : Bool × Int64} (hq : (mA q).Nodup) (hNK : NOK N)  (hf : f_X6_shares isB ab g fa a1 a2 = some res) : kMet l yX6_shares wsX6_shares { frames := 2, cells := 0, slots := 0, locals := 49 } D vwCl (mT cs) N (mA q) [.ref (q 0), .int a1, .int a2] (mW q cs isK isB fed at_ ltr ab ps g kp nx fa tp rs rv ct it) none (mW q cs isK res.1 fed at_ ltr res.2 ps g kp nx fa tp rs rv ct it) := by
  have iX6 : ∀ w ∈ wsX60, w ∈ wsX6_shares := fun _ h => List.mem_cons_of_mem _ (List.mem_append_right _ h)
  refine kMet.of (cc := cX6_shares) (nL := 4) (ret := none) (own := RX6) (lv := [(0, .ref (q 0)), (1, .int a1), (2, .int a2)]) (by decide +kernel) rfl rfl hNK hq (Nat.le_of_ble_eq_true rfl) rfl (fun X C => ?_)
  refine VF.of hf ?_
  unfold f_X6_shares
  refine v_aload_n C 0 dX6_shares_0 rfl ?_
  refine v_iconst C dX6_shares_1 (v := 0) (by decide) ?_
  refine v_put_nm C (v := false) (fun z9 => Value.int (bI z9)) (ty := .boolean) (T := TX6) (n := 16) (C9 := RX6) (ty0 := tyX6) (fun isB1 => (mW q cs isK isB1 fed at_ ltr ab ps g kp nx fa tp rs rv ct it)) iX6 tyX6_ok nmX6 0 rfl rfl rfl 5 (by decide) (List.mem_of_getElem? (i := 1) rfl) rfl rfl rfl bI_nar bI_fit (Nat.le_of_ble_eq_true rfl) (fun _ => rfl) dX6_shares_2 (fun isB1 => ?_)
  refine v_aload_n C 0 dX6_shares_5 rfl ?_
  refine v_lconst C dX6_shares_6 (v := 0) (by decide) ?_
  refine v_put_nm C (v := (0 : Int64)) Value.long (ty := .long) (T := TX6) (n := 16) (C9 := RX6) (ty0 := tyX6) (fun ab2 => (mW q cs isK isB1 fed at_ ltr ab2 ps g kp nx fa tp rs rv ct it)) iX6 tyX6_ok nmX6 0 rfl rfl rfl 12 (by decide) (List.mem_of_getElem? (i := 2) rfl) rfl rfl rfl (fun _ => rfl) (fun _ => rfl) (Nat.le_of_ble_eq_true rfl) (fun _ => rfl) dX6_shares_7 (fun ab2 => ?_)
  refine v_iconst C dX6_shares_10 (v := 0) (by decide) ?_
  refine v_istore_n C (lv' := [(3, .int 0), (0, .ref (q 0)), (1, .int a1), (2, .int a2)]) dX6_shares_11 rfl (by decide) rfl ?_
  refine v_sub [1, 2, 3, 0] rfl (lp_X6_shares_1 hq hNK C   FU 0 isB1 ab2)

def f_X6_share (isB : Bool) (ab : Int64) (g : Nat → Int64) (fa : Nat → Int64) (a1 : Int32) (a2 : Int32) (a3 : Int32) : Option (Int64 × Bool × Int64) :=
(f_X6_isGame a1).bind (fun (r1 : Bool) =>
if r1 = true then (
(f_X6_isPartner g a2).bind (fun (r2 : Bool) =>
if r2 = true then (
(f_X6_isIn a3.toInt64 0 1).bind (fun (r3 : Bool) =>
if r3 = true then (
(f_X6_shares isB ab g fa a1 a2).bind (fun (r4 : Bool × Int64) =>
if r4.1 = true then (
some ((-9223372036854775808), r4.1, r4.2)) else (
(f_X6_n g).bind (fun (r5 : Int32) =>
ck (inb r5 10) (
(f_X6_part r4.2 (fa r5.toNatClampNeg) a3).bind (fun (r6 : Int64) =>
some (r6, r4.1, r4.2))))))) else (
some ((-9223372036854775808), isB, ab)))) else (
some ((-9223372036854775808), isB, ab)))) else (
some ((-9223372036854775808), isB, ab)))

theorem nI_X6_share : NameIn yX6_share 3 := ⟨by decide +kernel, by decide +kernel, by decide +kernel⟩
set_option maxRecDepth 100000 in
set_option maxHeartbeats 4000000 in
theorem k_X6_share {l : Launch} {a1 : Int32} {a2 : Int32} {a3 : Int32}  {res : Int64 × Bool × Int64} (hq : (mA q).Nodup) (hNK : NOK N)  (hf : f_X6_share isB ab g fa a1 a2 a3 = some res) : kMet l yX6_share wsX6_share { frames := 3, cells := 0, slots := 0, locals := 72 } D vwCl (mT cs) N (mA q) [.ref (q 0), .int a1, .int a2, .int a3] (mW q cs isK isB fed at_ ltr ab ps g kp nx fa tp rs rv ct it) (some (.long res.1)) (mW q cs isK res.2.1 fed at_ ltr res.2.2 ps g kp nx fa tp rs rv ct it) := by
  have iX6 : ∀ w ∈ wsX60, w ∈ wsX6_share := fun _ h => List.mem_cons_of_mem _ (List.mem_append_right _ h)
  refine kMet.of (cc := cX6_share) (nL := 4) (ret := (some .long)) (own := RX6) (lv := [(0, .ref (q 0)), (1, .int a1), (2, .int a2), (3, .int a3)]) (by decide +kernel) rfl rfl hNK hq (Nat.le_of_ble_eq_true rfl) rfl (fun X C => ?_)
  refine VF.of hf ?_
  unfold f_X6_share
  refine v_iload_n C 1 dX6_share_0 rfl ?_
  refine v_callSP1v C (fun l9 r9 h9 => k_X6_isGame (l := l9) h9) gX6_share_X6_isGame rfl nI_X6_isGame ⟨rfl, rfl, Nat.le_of_ble_eq_true rfl, Nat.le_of_ble_eq_true rfl⟩ dX6_share_1 (Nat.le_of_ble_eq_true rfl) (fun r1 => ?_)
  refine v_ifb_eq C (b := r1) dX6_share_4 (tgt := 25) (by decide) ?_ ?_
  · refine v_ldc2 C (v := (-9223372036854775808)) (List.mem_of_getElem? (i := 1) rfl) dX6_share_25 ?_
    exact v_lret (rvf := fun (res : Int64 × Bool × Int64) => (some (.long res.1))) (wf := fun (res : Int64 × Bool × Int64) => (mW q cs isK res.2.1 fed at_ ltr res.2.2 ps g kp nx fa tp rs rv ct it)) C dX6_share_28 rfl rfl
  · refine v_aload_n C 0 dX6_share_7 rfl ?_
    refine v_iload_n C 2 dX6_share_8 rfl ?_
    refine v_callV1v C 0 rfl rfl rfl (fun l9 r9 h9 => k_X6_isPartner (l := l9) hq hNK  h9) gX6_share_X6_isPartner rfl nI_X6_isPartner ⟨rfl, rfl, Nat.le_of_ble_eq_true rfl, Nat.le_of_ble_eq_true rfl⟩ dX6_share_9 (Nat.le_of_ble_eq_true rfl) (fun r2 => ?_)
    refine v_ifb_eq C (b := r2) dX6_share_12 (tgt := 25) (by decide) ?_ ?_
    · refine v_ldc2 C (v := (-9223372036854775808)) (List.mem_of_getElem? (i := 1) rfl) dX6_share_25 ?_
      exact v_lret (rvf := fun (res : Int64 × Bool × Int64) => (some (.long res.1))) (wf := fun (res : Int64 × Bool × Int64) => (mW q cs isK res.2.1 fed at_ ltr res.2.2 ps g kp nx fa tp rs rv ct it)) C dX6_share_28 rfl rfl
    · refine v_iload_n C 3 dX6_share_15 rfl ?_
      refine v_i2l C dX6_share_16 ?_
      refine v_lconst C dX6_share_17 (v := 0) (by decide) ?_
      refine v_lconst C dX6_share_18 (v := 1) (by decide) ?_
      refine v_callSP3v C (fun l9 r9 h9 => k_X6_isIn (l := l9) h9) gX6_share_X6_isIn rfl nI_X6_isIn ⟨rfl, rfl, Nat.le_of_ble_eq_true rfl, Nat.le_of_ble_eq_true rfl⟩ dX6_share_19 (Nat.le_of_ble_eq_true rfl) (fun r3 => ?_)
      refine v_ifb_ne C (b := r3) dX6_share_22 (tgt := 29) (by decide) ?_ ?_
      · refine v_aload_n C 0 dX6_share_29 rfl ?_
        refine v_iload_n C 1 dX6_share_30 rfl ?_
        refine v_iload_n C 2 dX6_share_31 rfl ?_
        refine v_callV2n C 0 rfl rfl rfl (fun l9 r9 h9 => k_X6_shares (l := l9) hq hNK  h9) gX6_share_X6_shares rfl nI_X6_shares ⟨rfl, rfl, Nat.le_of_ble_eq_true rfl, Nat.le_of_ble_eq_true rfl⟩ dX6_share_32 (Nat.le_of_ble_eq_true rfl) (fun r4 => ?_)
        refine v_aload_n C 0 dX6_share_35 rfl ?_
        refine v_get C (T := TX6) (n := 16) (C9 := RX6) iX6 0 rfl rfl 5 (by decide) (List.mem_of_getElem? (i := 2) rfl) rfl rfl dX6_share_36 ?_
        refine v_ifb_eq C (b := r4.1) dX6_share_39 (tgt := 48) (by decide) ?_ ?_
        · refine v_aload_n C 0 dX6_share_48 rfl ?_
          refine v_get C (T := TX6) (n := 16) (C9 := RX6) iX6 0 rfl rfl 12 (by decide) (List.mem_of_getElem? (i := 3) rfl) rfl rfl dX6_share_49 ?_
          refine v_aload_n C 0 dX6_share_52 rfl ?_
          refine v_get C (T := TX6) (n := 16) (C9 := RX6) iX6 0 rfl rfl 3 (by decide) (List.mem_of_getElem? (i := 4) rfl) rfl rfl dX6_share_53 ?_
          refine v_aload_n C 0 dX6_share_56 rfl ?_
          refine v_callV0v C 0 rfl rfl rfl (fun l9 r9 h9 => k_X6_n (l := l9) hq hNK  h9) gX6_share_X6_n rfl nI_X6_n ⟨rfl, rfl, Nat.le_of_ble_eq_true rfl, Nat.le_of_ble_eq_true rfl⟩ dX6_share_57 (Nat.le_of_ble_eq_true rfl) (fun r5 => ?_)
          refine v_lald C 4 1 rfl rfl dX6_share_60 ?_
          refine v_iload_n C 3 dX6_share_61 rfl ?_
          refine v_callSP3v C (fun l9 r9 h9 => k_X6_part (l := l9) h9) gX6_share_X6_part rfl nI_X6_part ⟨rfl, rfl, Nat.le_of_ble_eq_true rfl, Nat.le_of_ble_eq_true rfl⟩ dX6_share_62 (Nat.le_of_ble_eq_true rfl) (fun r6 => ?_)
          exact v_lret (rvf := fun (res : Int64 × Bool × Int64) => (some (.long res.1))) (wf := fun (res : Int64 × Bool × Int64) => (mW q cs isK res.2.1 fed at_ ltr res.2.2 ps g kp nx fa tp rs rv ct it)) C dX6_share_65 rfl rfl
        · refine v_ldc2 C (v := (-9223372036854775808)) (List.mem_of_getElem? (i := 1) rfl) dX6_share_42 ?_
          refine v_goto C dX6_share_45 (tgt := 65) (by decide) ?_
          exact v_lret (rvf := fun (res : Int64 × Bool × Int64) => (some (.long res.1))) (wf := fun (res : Int64 × Bool × Int64) => (mW q cs isK res.2.1 fed at_ ltr res.2.2 ps g kp nx fa tp rs rv ct it)) C dX6_share_65 rfl rfl
      · refine v_ldc2 C (v := (-9223372036854775808)) (List.mem_of_getElem? (i := 1) rfl) dX6_share_25 ?_
        exact v_lret (rvf := fun (res : Int64 × Bool × Int64) => (some (.long res.1))) (wf := fun (res : Int64 × Bool × Int64) => (mW q cs isK res.2.1 fed at_ ltr res.2.2 ps g kp nx fa tp rs rv ct it)) C dX6_share_28 rfl rfl

def B_X6_power_1 (g : Nat → Int64) (a1 : Int32) (a2 : Int32) (rec4 : Int64 → Int32 → Bool → Option (Int64 × Bool)) (kx5 : Int64 → Bool → Option (Int64 × Bool)) (v6 : Int64) (v7 : Int32) (isB8 : Bool) : Option (Int64 × Bool) :=
(f_X6_all g).bind (fun (r9 : Int32) =>
if (r9 : Int32) < v7 then (
kx5 v6 isB8) else (
(f_X6_has v7 a2).bind (fun (r10 : Bool) =>
jn2 (fun (v12 : Int64) (isB13 : Bool) =>
nm (v7 + 1) (fun (x14 : Int32) =>
rec4 v12 x14 isB13)) (fun k11 =>
if r10 = true then (
k11 v6 isB8) else (
(f_X6_gain isB8 g a1 a2 v7).bind (fun (r15 : Int64 × Bool) =>
(f_X6_plus r15.2 v6 r15.1).bind (fun (r16 : Int64 × Bool) =>
k11 r16.1 r16.2)))))))
def L_X6_power_1 (g : Nat → Int64) (a1 : Int32) (a2 : Int32) (kx5 : Int64 → Bool → Option (Int64 × Bool)) : Nat → Int64 → Int32 → Bool → Option (Int64 × Bool)
  | 0, _, _, _ => none
  | m9 + 1, v6, v7, isB8 => B_X6_power_1 g a1 a2 (L_X6_power_1 g a1 a2 kx5 m9) kx5 v6 v7 isB8

def f_X6_power (isB : Bool) (g : Nat → Int64) (a1 : Int32) (a2 : Int32) : Option (Int64 × Bool) :=
(f_X6_isGame a1).bind (fun (r1 : Bool) =>
if r1 = true then (
(f_X6_isPartner g a2).bind (fun (r2 : Bool) =>
if r2 = true then (
nm false (fun (isB3 : Bool) =>
L_X6_power_1 g a1 a2 (fun (v17 : Int64) (isB18 : Bool) =>
if isB18 = true then (
some ((-9223372036854775808), isB18)) else (
some (v17, isB18))) FU 0 0 isB3)) else (
some ((-9223372036854775808), isB)))) else (
some ((-9223372036854775808), isB)))

theorem nI_X6_power : NameIn yX6_power 2 := ⟨by decide +kernel, by decide +kernel, by decide +kernel⟩
set_option maxRecDepth 100000 in
set_option maxHeartbeats 4000000 in
theorem lp_X6_power_1 {X : CX} {res : Int64 × Bool} {a1 : Int32} {a2 : Int32}   (hq : (mA q).Nodup) (hNK : NOK N) (C : Ok X cX6_power 6 (some .long) wsX6_power RX6 { frames := 2, cells := 0, slots := 0, locals := 49 } D vwCl (mT cs) (mA q) N (some (.long res.1)) (mW q cs isK res.2 fed at_ ltr ab ps g kp nx fa tp rs rv ct it))  (kx5 : Int64 → Bool → Option (Int64 × Bool)) (Jkx5 : ∀ y3 : Int64, ∀ isBZz : Bool, VF X res (kx5 y3 isBZz) (mW q cs isK isBZz fed at_ ltr ab ps g kp nx fa tp rs rv ct it) 67 [(0, .ref (q 0)), (3, .long y3)] []) : ∀ fuel : Nat, ∀ v6 : Int64, ∀ v7 : Int32, ∀ isB8 : Bool, VF X res (L_X6_power_1 g a1 a2 kx5 fuel v6 v7 isB8) (mW q cs isK isB8 fed at_ ltr ab ps g kp nx fa tp rs rv ct it) 29 [(0, .ref (q 0)), (1, .int a1), (2, .int a2), (3, .long v6), (5, .int v7)] [] := by
  intro fuel
  induction fuel with
  | zero =>
    intro _ _ _
    exact v_none
  | succ fuel ih =>
    intro v6 v7 isB8
    show VF X res (B_X6_power_1 g a1 a2 (L_X6_power_1 g a1 a2 kx5 fuel) kx5 v6 v7 isB8) _ _ _ _
    unfold B_X6_power_1
    refine v_iload C 4 dX6_power_29 rfl ?_
    refine v_aload_n C 0 dX6_power_31 rfl ?_
    refine v_callV0v C 0 rfl rfl rfl (fun l9 r9 h9 => k_X6_all (l := l9) hq hNK  h9) gX6_power_X6_all rfl nI_X6_all ⟨rfl, rfl, Nat.le_of_ble_eq_true rfl, Nat.le_of_ble_eq_true rfl⟩ dX6_power_32 (Nat.le_of_ble_eq_true rfl) (fun r9 => ?_)
    refine v_icmp_gt C dX6_power_35 (tgt := 67) (by decide) ?_ ?_
    · exact v_sub [0, 3] rfl (Jkx5 v6 isB8)
    · refine v_iload C 4 dX6_power_38 rfl ?_
      refine v_iload_n C 2 dX6_power_40 rfl ?_
      refine v_callSP2v C (fun l9 r9 h9 => k_X6_has (l := l9) h9) gX6_power_X6_has rfl nI_X6_has ⟨rfl, rfl, Nat.le_of_ble_eq_true rfl, Nat.le_of_ble_eq_true rfl⟩ dX6_power_41 (Nat.le_of_ble_eq_true rfl) (fun r10 => ?_)
      refine v_jn2 (wj := (fun v12 isB13 => (mW q cs isK isB13 fed at_ ltr ab ps g kp nx fa tp rs rv ct it))) (pcj := 61) (lvj := (fun v12 isB13 => [(0, .ref (q 0)), (1, .int a1), (2, .int a2), (3, .long v12), (5, .int v7)])) (stj := (fun v12 isB13 => [])) (fun v12 isB13 => ?_) (fun k11 hk11 => ?_)
      · refine v_iinc_nm C (lvf := fun x14 => [(5, .int x14), (0, .ref (q 0)), (1, .int a1), (2, .int a2), (3, .long v12)]) 4 dX6_power_61 rfl rfl (by decide) (fun _ => rfl) (fun x14 => ?_)
        refine v_goto C dX6_power_64 (tgt := 29) (by decide) ?_
        exact v_sub [1, 2, 3, 4, 0] rfl (ih v12 x14 isB13)
      · refine v_ifb_ne C (b := r10) dX6_power_44 (tgt := 61) (by decide) ?_ ?_
        · exact v_sub [0, 1, 2, 3, 4] rfl (hk11 v6 isB8)
        · refine v_aload_n C 0 dX6_power_47 rfl ?_
          refine v_lload_n C 3 dX6_power_48 rfl ?_
          refine v_aload_n C 0 dX6_power_49 rfl ?_
          refine v_iload_n C 1 dX6_power_50 rfl ?_
          refine v_iload_n C 2 dX6_power_51 rfl ?_
          refine v_iload C 4 dX6_power_52 rfl ?_
          refine v_callV3v C 0 rfl rfl rfl (fun l9 r9 h9 => k_X6_gain (l := l9) hq hNK  h9) gX6_power_X6_gain rfl nI_X6_gain ⟨rfl, rfl, Nat.le_of_ble_eq_true rfl, Nat.le_of_ble_eq_true rfl⟩ dX6_power_54 (Nat.le_of_ble_eq_true rfl) (fun r15 => ?_)
          refine v_callV2v C 0 rfl rfl rfl (fun l9 r9 h9 => k_X6_plus (l := l9) hq hNK  h9) gX6_power_X6_plus rfl nI_X6_plus ⟨rfl, rfl, Nat.le_of_ble_eq_true rfl, Nat.le_of_ble_eq_true rfl⟩ dX6_power_57 (Nat.le_of_ble_eq_true rfl) (fun r16 => ?_)
          refine v_lstore_n C (lv' := [(3, .long r16.1), (0, .ref (q 0)), (1, .int a1), (2, .int a2), (5, .int v7)]) dX6_power_60 rfl (by decide) rfl ?_
          exact v_sub [1, 2, 3, 0, 4] rfl (hk11 r16.1 r16.2)

set_option maxRecDepth 100000 in
set_option maxHeartbeats 4000000 in
theorem k_X6_power {l : Launch} {a1 : Int32} {a2 : Int32}  {res : Int64 × Bool} (hq : (mA q).Nodup) (hNK : NOK N)  (hf : f_X6_power isB g a1 a2 = some res) : kMet l yX6_power wsX6_power { frames := 2, cells := 0, slots := 0, locals := 49 } D vwCl (mT cs) N (mA q) [.ref (q 0), .int a1, .int a2] (mW q cs isK isB fed at_ ltr ab ps g kp nx fa tp rs rv ct it) (some (.long res.1)) (mW q cs isK res.2 fed at_ ltr ab ps g kp nx fa tp rs rv ct it) := by
  have iX6 : ∀ w ∈ wsX60, w ∈ wsX6_power := fun _ h => List.mem_cons_of_mem _ (List.mem_append_right _ h)
  refine kMet.of (cc := cX6_power) (nL := 6) (ret := (some .long)) (own := RX6) (lv := [(0, .ref (q 0)), (1, .int a1), (2, .int a2)]) (by decide +kernel) rfl rfl hNK hq (Nat.le_of_ble_eq_true rfl) rfl (fun X C => ?_)
  refine VF.of hf ?_
  unfold f_X6_power
  refine v_iload_n C 1 dX6_power_0 rfl ?_
  refine v_callSP1v C (fun l9 r9 h9 => k_X6_isGame (l := l9) h9) gX6_power_X6_isGame rfl nI_X6_isGame ⟨rfl, rfl, Nat.le_of_ble_eq_true rfl, Nat.le_of_ble_eq_true rfl⟩ dX6_power_1 (Nat.le_of_ble_eq_true rfl) (fun r1 => ?_)
  refine v_ifb_eq C (b := r1) dX6_power_4 (tgt := 15) (by decide) ?_ ?_
  · refine v_ldc2 C (v := (-9223372036854775808)) (List.mem_of_getElem? (i := 1) rfl) dX6_power_15 ?_
    exact v_lret (rvf := fun (res : Int64 × Bool) => (some (.long res.1))) (wf := fun (res : Int64 × Bool) => (mW q cs isK res.2 fed at_ ltr ab ps g kp nx fa tp rs rv ct it)) C dX6_power_18 rfl rfl
  · refine v_aload_n C 0 dX6_power_7 rfl ?_
    refine v_iload_n C 2 dX6_power_8 rfl ?_
    refine v_callV1v C 0 rfl rfl rfl (fun l9 r9 h9 => k_X6_isPartner (l := l9) hq hNK  h9) gX6_power_X6_isPartner rfl nI_X6_isPartner ⟨rfl, rfl, Nat.le_of_ble_eq_true rfl, Nat.le_of_ble_eq_true rfl⟩ dX6_power_9 (Nat.le_of_ble_eq_true rfl) (fun r2 => ?_)
    refine v_ifb_ne C (b := r2) dX6_power_12 (tgt := 19) (by decide) ?_ ?_
    · refine v_aload_n C 0 dX6_power_19 rfl ?_
      refine v_iconst C dX6_power_20 (v := 0) (by decide) ?_
      refine v_put_nm C (v := false) (fun z9 => Value.int (bI z9)) (ty := .boolean) (T := TX6) (n := 16) (C9 := RX6) (ty0 := tyX6) (fun isB3 => (mW q cs isK isB3 fed at_ ltr ab ps g kp nx fa tp rs rv ct it)) iX6 tyX6_ok nmX6 0 rfl rfl rfl 5 (by decide) (List.mem_of_getElem? (i := 2) rfl) rfl rfl rfl bI_nar bI_fit (Nat.le_of_ble_eq_true rfl) (fun _ => rfl) dX6_power_21 (fun isB3 => ?_)
      refine v_lconst C dX6_power_24 (v := 0) (by decide) ?_
      refine v_lstore_n C (lv' := [(3, .long 0), (0, .ref (q 0)), (1, .int a1), (2, .int a2)]) dX6_power_25 rfl (by decide) rfl ?_
      refine v_iconst C dX6_power_26 (v := 0) (by decide) ?_
      refine v_istore C (lv' := [(5, .int 0), (3, .long 0), (0, .ref (q 0)), (1, .int a1), (2, .int a2)]) dX6_power_27 (by decide) rfl ?_
      refine v_sub [2, 3, 4, 1, 0] rfl (lp_X6_power_1 hq hNK C  _ (fun v17 isB18 => ?_) FU 0 0 isB3)
      refine v_aload_n C 0 dX6_power_67 rfl ?_
      refine v_get C (T := TX6) (n := 16) (C9 := RX6) iX6 0 rfl rfl 5 (by decide) (List.mem_of_getElem? (i := 2) rfl) rfl rfl dX6_power_68 ?_
      refine v_ifb_eq C (b := isB18) dX6_power_71 (tgt := 80) (by decide) ?_ ?_
      · refine v_lload_n C 1 dX6_power_80 rfl ?_
        exact v_lret (rvf := fun (res : Int64 × Bool) => (some (.long res.1))) (wf := fun (res : Int64 × Bool) => (mW q cs isK res.2 fed at_ ltr ab ps g kp nx fa tp rs rv ct it)) C dX6_power_81 rfl rfl
      · refine v_ldc2 C (v := (-9223372036854775808)) (List.mem_of_getElem? (i := 1) rfl) dX6_power_74 ?_
        refine v_goto C dX6_power_77 (tgt := 81) (by decide) ?_
        exact v_lret (rvf := fun (res : Int64 × Bool) => (some (.long res.1))) (wf := fun (res : Int64 × Bool) => (mW q cs isK res.2 fed at_ ltr ab ps g kp nx fa tp rs rv ct it)) C dX6_power_81 rfl rfl
    · refine v_ldc2 C (v := (-9223372036854775808)) (List.mem_of_getElem? (i := 1) rfl) dX6_power_15 ?_
      exact v_lret (rvf := fun (res : Int64 × Bool) => (some (.long res.1))) (wf := fun (res : Int64 × Bool) => (mW q cs isK res.2 fed at_ ltr ab ps g kp nx fa tp rs rv ct it)) C dX6_power_18 rfl rfl

def B_X6_members_1 (g : Nat → Int64) (a1 : Int32) (rec1 : Int32 → Int32 → Option (Int32))  (v2 : Int32) (v3 : Int32) : Option (Int32) :=
(f_X6_n g).bind (fun (r4 : Int32) =>
if (v3 : Int32) < r4 then (
(f_X6_unionOf g v3).bind (fun (r5 : Int32) =>
jn1 (fun (v7 : Int32) =>
nm (v2 ||| v7) (fun (x8 : Int32) =>
nm (v3 + 1) (fun (x9 : Int32) =>
rec1 x8 x9))) (fun k6 =>
if (r5 : Int32) = a1 then (
k6 (1 <<< (v3 &&& 31))) else (
k6 0)))) else (
some v2))
def L_X6_members_1 (g : Nat → Int64) (a1 : Int32)  : Nat → Int32 → Int32 → Option (Int32)
  | 0, _, _ => none
  | m9 + 1, v2, v3 => B_X6_members_1 g a1 (L_X6_members_1 g a1 m9)  v2 v3

def f_X6_members (g : Nat → Int64) (a1 : Int32) : Option (Int32) :=
L_X6_members_1 g a1  FU 0 0

theorem nI_X6_members : NameIn yX6_members 1 := ⟨by decide +kernel, by decide +kernel, by decide +kernel⟩
set_option maxRecDepth 100000 in
set_option maxHeartbeats 4000000 in
theorem lp_X6_members_1 {X : CX} {res : Int32} {a1 : Int32}   (hq : (mA q).Nodup) (hNK : NOK N) (C : Ok X cX6_members 4 (some .int) wsX6_members RX6 { frames := 1, cells := 0, slots := 0, locals := 21 } D vwCl (mT cs) (mA q) N (some (.int res)) (mW q cs isK isB fed at_ ltr ab ps g kp nx fa tp rs rv ct it))  : ∀ fuel : Nat, ∀ v2 : Int32, ∀ v3 : Int32, VF X res (L_X6_members_1 g a1 fuel v2 v3) (mW q cs isK isB fed at_ ltr ab ps g kp nx fa tp rs rv ct it) 4 [(0, .ref (q 0)), (1, .int a1), (2, .int v2), (3, .int v3)] [] := by
  intro fuel
  induction fuel with
  | zero =>
    intro _ _
    exact v_none
  | succ fuel ih =>
    intro v2 v3
    show VF X res (B_X6_members_1 g a1 (L_X6_members_1 g a1 fuel)  v2 v3) _ _ _ _
    unfold B_X6_members_1
    refine v_iload_n C 3 dX6_members_4 rfl ?_
    refine v_aload_n C 0 dX6_members_5 rfl ?_
    refine v_callV0v C 0 rfl rfl rfl (fun l9 r9 h9 => k_X6_n (l := l9) hq hNK  h9) gX6_members_X6_n rfl nI_X6_n ⟨rfl, rfl, Nat.le_of_ble_eq_true rfl, Nat.le_of_ble_eq_true rfl⟩ dX6_members_6 (Nat.le_of_ble_eq_true rfl) (fun r4 => ?_)
    refine v_icmp_ge C dX6_members_9 (tgt := 37) (by decide) ?_ ?_
    · refine v_iload_n C 2 dX6_members_37 rfl ?_
      exact v_iret (rvf := fun (res : Int32) => (some (.int res))) (wf := fun (res : Int32) => (mW q cs isK isB fed at_ ltr ab ps g kp nx fa tp rs rv ct it)) C dX6_members_38 rfl rfl
    · refine v_iload_n C 2 dX6_members_12 rfl ?_
      refine v_aload_n C 0 dX6_members_13 rfl ?_
      refine v_iload_n C 3 dX6_members_14 rfl ?_
      refine v_callV1v C 0 rfl rfl rfl (fun l9 r9 h9 => k_X6_unionOf (l := l9) hq hNK  h9) gX6_members_X6_unionOf rfl nI_X6_unionOf ⟨rfl, rfl, Nat.le_of_ble_eq_true rfl, Nat.le_of_ble_eq_true rfl⟩ dX6_members_15 (Nat.le_of_ble_eq_true rfl) (fun r5 => ?_)
      refine v_iload_n C 1 dX6_members_18 rfl ?_
      refine v_jn1 (wj := (fun v7 => (mW q cs isK isB fed at_ ltr ab ps g kp nx fa tp rs rv ct it))) (pcj := 29) (lvj := (fun v7 => [(0, .ref (q 0)), (1, .int a1), (3, .int v3)])) (stj := (fun v7 => [.int v7, .int v2])) (fun v7 => ?_) (fun k6 hk6 => ?_)
      · refine v_ior C dX6_members_29 ?_
        refine v_istore_n_nm C (lvf := fun x8 => [(2, .int x8), (0, .ref (q 0)), (1, .int a1), (3, .int v3)]) dX6_members_30 rfl (by decide) (fun _ => rfl) (fun x8 => ?_)
        refine v_iinc_nm C (lvf := fun x9 => [(3, .int x9), (2, .int x8), (0, .ref (q 0)), (1, .int a1)]) 3 dX6_members_31 rfl rfl (by decide) (fun _ => rfl) (fun x9 => ?_)
        refine v_goto C dX6_members_34 (tgt := 4) (by decide) ?_
        exact v_sub [2, 3, 1, 0] rfl (ih x8 x9)
      · refine v_icmp_ne C dX6_members_19 (tgt := 28) (by decide) ?_ ?_
        · refine v_iconst C dX6_members_28 (v := 0) (by decide) ?_
          exact v_sub [0, 1, 3] rfl (hk6 0)
        · refine v_iconst C dX6_members_22 (v := 1) (by decide) ?_
          refine v_iload_n C 3 dX6_members_23 rfl ?_
          refine v_ishl C dX6_members_24 ?_
          refine v_goto C dX6_members_25 (tgt := 29) (by decide) ?_
          exact v_sub [0, 1, 3] rfl (hk6 (1 <<< (v3 &&& 31)))

set_option maxRecDepth 100000 in
set_option maxHeartbeats 4000000 in
theorem k_X6_members {l : Launch} {a1 : Int32}  {res : Int32} (hq : (mA q).Nodup) (hNK : NOK N)  (hf : f_X6_members g a1 = some res) : kMet l yX6_members wsX6_members { frames := 1, cells := 0, slots := 0, locals := 21 } D vwCl (mT cs) N (mA q) [.ref (q 0), .int a1] (mW q cs isK isB fed at_ ltr ab ps g kp nx fa tp rs rv ct it) (some (.int res)) (mW q cs isK isB fed at_ ltr ab ps g kp nx fa tp rs rv ct it) := by
  refine kMet.of (cc := cX6_members) (nL := 4) (ret := (some .int)) (own := RX6) (lv := [(0, .ref (q 0)), (1, .int a1)]) (by decide +kernel) rfl rfl hNK hq (Nat.le_of_ble_eq_true rfl) rfl (fun X C => ?_)
  refine VF.of hf ?_
  unfold f_X6_members
  refine v_iconst C dX6_members_0 (v := 0) (by decide) ?_
  refine v_istore_n C (lv' := [(2, .int 0), (0, .ref (q 0)), (1, .int a1)]) dX6_members_1 rfl (by decide) rfl ?_
  refine v_iconst C dX6_members_2 (v := 0) (by decide) ?_
  refine v_istore_n C (lv' := [(3, .int 0), (2, .int 0), (0, .ref (q 0)), (1, .int a1)]) dX6_members_3 rfl (by decide) rfl ?_
  refine v_sub [2, 3, 1, 0] rfl (lp_X6_members_1 hq hNK C   FU 0 0)

def B_X6_unions_1 (g : Nat → Int64) (rec1 : Int32 → Int32 → Option (Int32))  (v2 : Int32) (v3 : Int32) : Option (Int32) :=
(f_X6_n g).bind (fun (r4 : Int32) =>
if (v3 : Int32) < r4 then (
(f_X6_unionOf g v3).bind (fun (r5 : Int32) =>
jn1 (fun (v7 : Int32) =>
nm (v2 + v7) (fun (x8 : Int32) =>
nm (v3 + 1) (fun (x9 : Int32) =>
rec1 x8 x9))) (fun k6 =>
if (r5 : Int32) = v3 then (
k6 1) else (
k6 0)))) else (
some v2))
def L_X6_unions_1 (g : Nat → Int64)  : Nat → Int32 → Int32 → Option (Int32)
  | 0, _, _ => none
  | m9 + 1, v2, v3 => B_X6_unions_1 g (L_X6_unions_1 g m9)  v2 v3

def f_X6_unions (g : Nat → Int64) : Option (Int32) :=
L_X6_unions_1 g  FU 0 0

theorem nI_X6_unions : NameIn yX6_unions 0 := ⟨by decide +kernel, by decide +kernel, by decide +kernel⟩
set_option maxRecDepth 100000 in
set_option maxHeartbeats 4000000 in
theorem lp_X6_unions_1 {X : CX} {res : Int32}    (hq : (mA q).Nodup) (hNK : NOK N) (C : Ok X cX6_unions 3 (some .int) wsX6_unions RX6 { frames := 1, cells := 0, slots := 0, locals := 21 } D vwCl (mT cs) (mA q) N (some (.int res)) (mW q cs isK isB fed at_ ltr ab ps g kp nx fa tp rs rv ct it))  : ∀ fuel : Nat, ∀ v2 : Int32, ∀ v3 : Int32, VF X res (L_X6_unions_1 g fuel v2 v3) (mW q cs isK isB fed at_ ltr ab ps g kp nx fa tp rs rv ct it) 4 [(0, .ref (q 0)), (1, .int v2), (2, .int v3)] [] := by
  intro fuel
  induction fuel with
  | zero =>
    intro _ _
    exact v_none
  | succ fuel ih =>
    intro v2 v3
    show VF X res (B_X6_unions_1 g (L_X6_unions_1 g fuel)  v2 v3) _ _ _ _
    unfold B_X6_unions_1
    refine v_iload_n C 2 dX6_unions_4 rfl ?_
    refine v_aload_n C 0 dX6_unions_5 rfl ?_
    refine v_callV0v C 0 rfl rfl rfl (fun l9 r9 h9 => k_X6_n (l := l9) hq hNK  h9) gX6_unions_X6_n rfl nI_X6_n ⟨rfl, rfl, Nat.le_of_ble_eq_true rfl, Nat.le_of_ble_eq_true rfl⟩ dX6_unions_6 (Nat.le_of_ble_eq_true rfl) (fun r4 => ?_)
    refine v_icmp_ge C dX6_unions_9 (tgt := 35) (by decide) ?_ ?_
    · refine v_iload_n C 1 dX6_unions_35 rfl ?_
      exact v_iret (rvf := fun (res : Int32) => (some (.int res))) (wf := fun (res : Int32) => (mW q cs isK isB fed at_ ltr ab ps g kp nx fa tp rs rv ct it)) C dX6_unions_36 rfl rfl
    · refine v_iload_n C 1 dX6_unions_12 rfl ?_
      refine v_aload_n C 0 dX6_unions_13 rfl ?_
      refine v_iload_n C 2 dX6_unions_14 rfl ?_
      refine v_callV1v C 0 rfl rfl rfl (fun l9 r9 h9 => k_X6_unionOf (l := l9) hq hNK  h9) gX6_unions_X6_unionOf rfl nI_X6_unionOf ⟨rfl, rfl, Nat.le_of_ble_eq_true rfl, Nat.le_of_ble_eq_true rfl⟩ dX6_unions_15 (Nat.le_of_ble_eq_true rfl) (fun r5 => ?_)
      refine v_iload_n C 2 dX6_unions_18 rfl ?_
      refine v_jn1 (wj := (fun v7 => (mW q cs isK isB fed at_ ltr ab ps g kp nx fa tp rs rv ct it))) (pcj := 27) (lvj := (fun v7 => [(0, .ref (q 0)), (2, .int v3)])) (stj := (fun v7 => [.int v7, .int v2])) (fun v7 => ?_) (fun k6 hk6 => ?_)
      · refine v_iadd C dX6_unions_27 ?_
        refine v_istore_n_nm C (lvf := fun x8 => [(1, .int x8), (0, .ref (q 0)), (2, .int v3)]) dX6_unions_28 rfl (by decide) (fun _ => rfl) (fun x8 => ?_)
        refine v_iinc_nm C (lvf := fun x9 => [(2, .int x9), (1, .int x8), (0, .ref (q 0))]) 2 dX6_unions_29 rfl rfl (by decide) (fun _ => rfl) (fun x9 => ?_)
        refine v_goto C dX6_unions_32 (tgt := 4) (by decide) ?_
        exact v_sub [2, 1, 0] rfl (ih x8 x9)
      · refine v_icmp_ne C dX6_unions_19 (tgt := 26) (by decide) ?_ ?_
        · refine v_iconst C dX6_unions_26 (v := 0) (by decide) ?_
          exact v_sub [0, 2] rfl (hk6 0)
        · refine v_iconst C dX6_unions_22 (v := 1) (by decide) ?_
          refine v_goto C dX6_unions_23 (tgt := 27) (by decide) ?_
          exact v_sub [0, 2] rfl (hk6 1)

set_option maxRecDepth 100000 in
set_option maxHeartbeats 4000000 in
theorem k_X6_unions {l : Launch}   {res : Int32} (hq : (mA q).Nodup) (hNK : NOK N)  (hf : f_X6_unions g = some res) : kMet l yX6_unions wsX6_unions { frames := 1, cells := 0, slots := 0, locals := 21 } D vwCl (mT cs) N (mA q) [.ref (q 0)] (mW q cs isK isB fed at_ ltr ab ps g kp nx fa tp rs rv ct it) (some (.int res)) (mW q cs isK isB fed at_ ltr ab ps g kp nx fa tp rs rv ct it) := by
  refine kMet.of (cc := cX6_unions) (nL := 3) (ret := (some .int)) (own := RX6) (lv := [(0, .ref (q 0))]) (by decide +kernel) rfl rfl hNK hq (Nat.le_of_ble_eq_true rfl) rfl (fun X C => ?_)
  refine VF.of hf ?_
  unfold f_X6_unions
  refine v_iconst C dX6_unions_0 (v := 0) (by decide) ?_
  refine v_istore_n C (lv' := [(1, .int 0), (0, .ref (q 0))]) dX6_unions_1 rfl (by decide) rfl ?_
  refine v_iconst C dX6_unions_2 (v := 0) (by decide) ?_
  refine v_istore_n C (lv' := [(2, .int 0), (1, .int 0), (0, .ref (q 0))]) dX6_unions_3 rfl (by decide) rfl ?_
  refine v_sub [2, 1, 0] rfl (lp_X6_unions_1 hq hNK C   FU 0 0)

def B_X6_whole_1 (g : Nat → Int64) (a1 : Int32) (a2 : Int32) (rec1 : Int32 → Int32 → Option (Int32))  (v2 : Int32) (v3 : Int32) : Option (Int32) :=
(f_X6_n g).bind (fun (r4 : Int32) =>
if (v3 : Int32) < r4 then (
(f_X6_members g v3).bind (fun (r5 : Int32) =>
jn1 (fun (v7 : Int32) =>
nm (v3 + 1) (fun (x8 : Int32) =>
rec1 v7 x8)) (fun k6 =>
if (r5 : Int32) = 0 then (
k6 v2) else (
if (v3 : Int32) = a2 then (
k6 v2) else (
if (a1 &&& r5 : Int32) = 0 then (
k6 v2) else (
if (a1 &&& r5 : Int32) = r5 then (
nm (v2 + 1) (fun (x9 : Int32) =>
k6 x9)) else (
some (-1)))))))) else (
some v2))
def L_X6_whole_1 (g : Nat → Int64) (a1 : Int32) (a2 : Int32)  : Nat → Int32 → Int32 → Option (Int32)
  | 0, _, _ => none
  | m9 + 1, v2, v3 => B_X6_whole_1 g a1 a2 (L_X6_whole_1 g a1 a2 m9)  v2 v3

def f_X6_whole (g : Nat → Int64) (a1 : Int32) (a2 : Int32) : Option (Int32) :=
L_X6_whole_1 g a1 a2  FU 0 0

theorem nI_X6_whole : NameIn yX6_whole 2 := ⟨by decide +kernel, by decide +kernel, by decide +kernel⟩
set_option maxRecDepth 100000 in
set_option maxHeartbeats 4000000 in
theorem lp_X6_whole_1 {X : CX} {res : Int32} {a1 : Int32} {a2 : Int32}   (hq : (mA q).Nodup) (hNK : NOK N) (C : Ok X cX6_whole 6 (some .int) wsX6_whole RX6 { frames := 2, cells := 0, slots := 0, locals := 44 } D vwCl (mT cs) (mA q) N (some (.int res)) (mW q cs isK isB fed at_ ltr ab ps g kp nx fa tp rs rv ct it))  : ∀ fuel : Nat, ∀ v2 : Int32, ∀ v3 : Int32, VF X res (L_X6_whole_1 g a1 a2 fuel v2 v3) (mW q cs isK isB fed at_ ltr ab ps g kp nx fa tp rs rv ct it) 5 [(0, .ref (q 0)), (1, .int a1), (2, .int a2), (3, .int v2), (4, .int v3)] [] := by
  intro fuel
  induction fuel with
  | zero =>
    intro _ _
    exact v_none
  | succ fuel ih =>
    intro v2 v3
    show VF X res (B_X6_whole_1 g a1 a2 (L_X6_whole_1 g a1 a2 fuel)  v2 v3) _ _ _ _
    unfold B_X6_whole_1
    refine v_iload C 4 dX6_whole_5 rfl ?_
    refine v_aload_n C 0 dX6_whole_7 rfl ?_
    refine v_callV0v C 0 rfl rfl rfl (fun l9 r9 h9 => k_X6_n (l := l9) hq hNK  h9) gX6_whole_X6_n rfl nI_X6_n ⟨rfl, rfl, Nat.le_of_ble_eq_true rfl, Nat.le_of_ble_eq_true rfl⟩ dX6_whole_8 (Nat.le_of_ble_eq_true rfl) (fun r4 => ?_)
    refine v_icmp_ge C dX6_whole_11 (tgt := 63) (by decide) ?_ ?_
    · refine v_iload_n C 3 dX6_whole_63 rfl ?_
      exact v_iret (rvf := fun (res : Int32) => (some (.int res))) (wf := fun (res : Int32) => (mW q cs isK isB fed at_ ltr ab ps g kp nx fa tp rs rv ct it)) C dX6_whole_64 rfl rfl
    · refine v_aload_n C 0 dX6_whole_14 rfl ?_
      refine v_iload C 4 dX6_whole_15 rfl ?_
      refine v_callV1v C 0 rfl rfl rfl (fun l9 r9 h9 => k_X6_members (l := l9) hq hNK  h9) gX6_whole_X6_members rfl nI_X6_members ⟨rfl, rfl, Nat.le_of_ble_eq_true rfl, Nat.le_of_ble_eq_true rfl⟩ dX6_whole_17 (Nat.le_of_ble_eq_true rfl) (fun r5 => ?_)
      refine v_istore C (lv' := [(5, .int r5), (0, .ref (q 0)), (1, .int a1), (2, .int a2), (3, .int v2), (4, .int v3)]) dX6_whole_20 (by decide) rfl ?_
      refine v_iload C 0 dX6_whole_22 rfl ?_
      refine v_jn1 (wj := (fun v7 => (mW q cs isK isB fed at_ ltr ab ps g kp nx fa tp rs rv ct it))) (pcj := 57) (lvj := (fun v7 => [(0, .ref (q 0)), (1, .int a1), (2, .int a2), (3, .int v7), (4, .int v3)])) (stj := (fun v7 => [])) (fun v7 => ?_) (fun k6 hk6 => ?_)
      · refine v_iinc_nm C (lvf := fun x8 => [(4, .int x8), (0, .ref (q 0)), (1, .int a1), (2, .int a2), (3, .int v7)]) 4 dX6_whole_57 rfl rfl (by decide) (fun _ => rfl) (fun x8 => ?_)
        refine v_goto C dX6_whole_60 (tgt := 5) (by decide) ?_
        exact v_sub [1, 2, 3, 4, 0] rfl (ih v7 x8)
      · refine v_if_eq C dX6_whole_24 (tgt := 57) (by decide) ?_ ?_
        · exact v_sub [1, 2, 3, 4, 5] rfl (hk6 v2)
        · refine v_iload C 5 dX6_whole_27 rfl ?_
          refine v_iload_n C 3 dX6_whole_29 rfl ?_
          refine v_icmp_eq C dX6_whole_30 (tgt := 57) (by decide) ?_ ?_
          · exact v_sub [1, 2, 3, 4, 5] rfl (hk6 v2)
          · refine v_iload_n C 2 dX6_whole_33 rfl ?_
            refine v_iload C 0 dX6_whole_34 rfl ?_
            refine v_iand C dX6_whole_36 ?_
            refine v_if_ne C dX6_whole_37 (tgt := 43) (by decide) ?_ ?_
            · refine v_iload_n C 2 dX6_whole_43 rfl ?_
              refine v_iload C 0 dX6_whole_44 rfl ?_
              refine v_iand C dX6_whole_46 ?_
              refine v_iload C 0 dX6_whole_47 rfl ?_
              refine v_icmp_eq C dX6_whole_49 (tgt := 54) (by decide) ?_ ?_
              · refine v_iinc_nm C (lvf := fun x9 => [(3, .int x9), (5, .int r5), (0, .ref (q 0)), (1, .int a1), (2, .int a2), (4, .int v3)]) 4 dX6_whole_54 rfl rfl (by decide) (fun _ => rfl) (fun x9 => ?_)
                exact v_sub [2, 3, 4, 0, 5] rfl (hk6 x9)
              · refine v_iconst C dX6_whole_52 (v := (-1)) (by decide) ?_
                exact v_iret (rvf := fun (res : Int32) => (some (.int res))) (wf := fun (res : Int32) => (mW q cs isK isB fed at_ ltr ab ps g kp nx fa tp rs rv ct it)) C dX6_whole_53 rfl rfl
            · refine v_goto C dX6_whole_40 (tgt := 57) (by decide) ?_
              exact v_sub [1, 2, 3, 4, 5] rfl (hk6 v2)

set_option maxRecDepth 100000 in
set_option maxHeartbeats 4000000 in
theorem k_X6_whole {l : Launch} {a1 : Int32} {a2 : Int32}  {res : Int32} (hq : (mA q).Nodup) (hNK : NOK N)  (hf : f_X6_whole g a1 a2 = some res) : kMet l yX6_whole wsX6_whole { frames := 2, cells := 0, slots := 0, locals := 44 } D vwCl (mT cs) N (mA q) [.ref (q 0), .int a1, .int a2] (mW q cs isK isB fed at_ ltr ab ps g kp nx fa tp rs rv ct it) (some (.int res)) (mW q cs isK isB fed at_ ltr ab ps g kp nx fa tp rs rv ct it) := by
  refine kMet.of (cc := cX6_whole) (nL := 6) (ret := (some .int)) (own := RX6) (lv := [(0, .ref (q 0)), (1, .int a1), (2, .int a2)]) (by decide +kernel) rfl rfl hNK hq (Nat.le_of_ble_eq_true rfl) rfl (fun X C => ?_)
  refine VF.of hf ?_
  unfold f_X6_whole
  refine v_iconst C dX6_whole_0 (v := 0) (by decide) ?_
  refine v_istore_n C (lv' := [(3, .int 0), (0, .ref (q 0)), (1, .int a1), (2, .int a2)]) dX6_whole_1 rfl (by decide) rfl ?_
  refine v_iconst C dX6_whole_2 (v := 0) (by decide) ?_
  refine v_istore C (lv' := [(4, .int 0), (3, .int 0), (0, .ref (q 0)), (1, .int a1), (2, .int a2)]) dX6_whole_3 (by decide) rfl ?_
  refine v_sub [2, 3, 4, 1, 0] rfl (lp_X6_whole_1 hq hNK C   FU 0 0)

def f_X6_owenOf (g : Nat → Int64) (fa : Nat → Int64) (a1 : Int32) (a2 : Int32) : Option (Int64) :=
(f_X6_whole g a1 a2).bind (fun (r1 : Int32) =>
(f_X6_members g a2).bind (fun (r2 : Int32) =>
(f_X6_size (a1 &&& r2)).bind (fun (r3 : Int32) =>
ck (inb r1 10) (
(f_X6_unions g).bind (fun (r4 : Int32) =>
ck (inb ((r4 - r1) - 1) 10) (
ck (inb r3 10) (
(f_X6_members g a2).bind (fun (r5 : Int32) =>
(f_X6_size r5).bind (fun (r6 : Int32) =>
ck (inb ((r6 - r3) - 1) 10) (
some ((((fa r1.toNatClampNeg) * (fa ((r4 - r1) - 1).toNatClampNeg)) * (fa r3.toNatClampNeg)) * (fa ((r6 - r3) - 1).toNatClampNeg))))))))))))

theorem nI_X6_owenOf : NameIn yX6_owenOf 2 := ⟨by decide +kernel, by decide +kernel, by decide +kernel⟩
set_option maxRecDepth 100000 in
set_option maxHeartbeats 4000000 in
theorem k_X6_owenOf {l : Launch} {a1 : Int32} {a2 : Int32}  {res : Int64} (hq : (mA q).Nodup) (hNK : NOK N)  (hf : f_X6_owenOf g fa a1 a2 = some res) : kMet l yX6_owenOf wsX6_owenOf { frames := 3, cells := 0, slots := 0, locals := 69 } D vwCl (mT cs) N (mA q) [.ref (q 0), .int a1, .int a2] (mW q cs isK isB fed at_ ltr ab ps g kp nx fa tp rs rv ct it) (some (.long res)) (mW q cs isK isB fed at_ ltr ab ps g kp nx fa tp rs rv ct it) := by
  have iX6 : ∀ w ∈ wsX60, w ∈ wsX6_owenOf := fun _ h => List.mem_cons_of_mem _ (List.mem_append_right _ h)
  refine kMet.of (cc := cX6_owenOf) (nL := 5) (ret := (some .long)) (own := RX6) (lv := [(0, .ref (q 0)), (1, .int a1), (2, .int a2)]) (by decide +kernel) rfl rfl hNK hq (Nat.le_of_ble_eq_true rfl) rfl (fun X C => ?_)
  refine VF.of hf ?_
  unfold f_X6_owenOf
  refine v_aload_n C 0 dX6_owenOf_0 rfl ?_
  refine v_iload_n C 1 dX6_owenOf_1 rfl ?_
  refine v_iload_n C 2 dX6_owenOf_2 rfl ?_
  refine v_callV2v C 0 rfl rfl rfl (fun l9 r9 h9 => k_X6_whole (l := l9) hq hNK  h9) gX6_owenOf_X6_whole rfl nI_X6_whole ⟨rfl, rfl, Nat.le_of_ble_eq_true rfl, Nat.le_of_ble_eq_true rfl⟩ dX6_owenOf_3 (Nat.le_of_ble_eq_true rfl) (fun r1 => ?_)
  refine v_istore_n C (lv' := [(3, .int r1), (0, .ref (q 0)), (1, .int a1), (2, .int a2)]) dX6_owenOf_6 rfl (by decide) rfl ?_
  refine v_iload_n C 2 dX6_owenOf_7 rfl ?_
  refine v_aload_n C 1 dX6_owenOf_8 rfl ?_
  refine v_iload_n C 3 dX6_owenOf_9 rfl ?_
  refine v_callV1v C 0 rfl rfl rfl (fun l9 r9 h9 => k_X6_members (l := l9) hq hNK  h9) gX6_owenOf_X6_members rfl nI_X6_members ⟨rfl, rfl, Nat.le_of_ble_eq_true rfl, Nat.le_of_ble_eq_true rfl⟩ dX6_owenOf_10 (Nat.le_of_ble_eq_true rfl) (fun r2 => ?_)
  refine v_iand C dX6_owenOf_13 ?_
  refine v_callSP1v C (fun l9 r9 h9 => k_X6_size (l := l9) h9) gX6_owenOf_X6_size rfl nI_X6_size ⟨rfl, rfl, Nat.le_of_ble_eq_true rfl, Nat.le_of_ble_eq_true rfl⟩ dX6_owenOf_14 (Nat.le_of_ble_eq_true rfl) (fun r3 => ?_)
  refine v_istore C (lv' := [(4, .int r3), (3, .int r1), (0, .ref (q 0)), (1, .int a1), (2, .int a2)]) dX6_owenOf_17 (by decide) rfl ?_
  refine v_aload_n C 2 dX6_owenOf_19 rfl ?_
  refine v_get C (T := TX6) (n := 16) (C9 := RX6) iX6 0 rfl rfl 3 (by decide) (List.mem_of_getElem? (i := 1) rfl) rfl rfl dX6_owenOf_20 ?_
  refine v_iload_n C 1 dX6_owenOf_23 rfl ?_
  refine v_lald C 4 1 rfl rfl dX6_owenOf_24 ?_
  refine v_aload_n C 2 dX6_owenOf_25 rfl ?_
  refine v_get C (T := TX6) (n := 16) (C9 := RX6) iX6 0 rfl rfl 3 (by decide) (List.mem_of_getElem? (i := 1) rfl) rfl rfl dX6_owenOf_26 ?_
  refine v_aload_n C 2 dX6_owenOf_29 rfl ?_
  refine v_callV0v C 0 rfl rfl rfl (fun l9 r9 h9 => k_X6_unions (l := l9) hq hNK  h9) gX6_owenOf_X6_unions rfl nI_X6_unions ⟨rfl, rfl, Nat.le_of_ble_eq_true rfl, Nat.le_of_ble_eq_true rfl⟩ dX6_owenOf_30 (Nat.le_of_ble_eq_true rfl) (fun r4 => ?_)
  refine v_iload_n C 1 dX6_owenOf_33 rfl ?_
  refine v_isub C dX6_owenOf_34 ?_
  refine v_iconst C dX6_owenOf_35 (v := 1) (by decide) ?_
  refine v_isub C dX6_owenOf_36 ?_
  refine v_lald C 4 1 rfl rfl dX6_owenOf_37 ?_
  refine v_lmul C dX6_owenOf_38 ?_
  refine v_aload_n C 2 dX6_owenOf_39 rfl ?_
  refine v_get C (T := TX6) (n := 16) (C9 := RX6) iX6 0 rfl rfl 3 (by decide) (List.mem_of_getElem? (i := 1) rfl) rfl rfl dX6_owenOf_40 ?_
  refine v_iload C 0 dX6_owenOf_43 rfl ?_
  refine v_lald C 4 1 rfl rfl dX6_owenOf_45 ?_
  refine v_lmul C dX6_owenOf_46 ?_
  refine v_aload_n C 2 dX6_owenOf_47 rfl ?_
  refine v_get C (T := TX6) (n := 16) (C9 := RX6) iX6 0 rfl rfl 3 (by decide) (List.mem_of_getElem? (i := 1) rfl) rfl rfl dX6_owenOf_48 ?_
  refine v_aload_n C 2 dX6_owenOf_51 rfl ?_
  refine v_iload_n C 4 dX6_owenOf_52 rfl ?_
  refine v_callV1v C 0 rfl rfl rfl (fun l9 r9 h9 => k_X6_members (l := l9) hq hNK  h9) gX6_owenOf_X6_members rfl nI_X6_members ⟨rfl, rfl, Nat.le_of_ble_eq_true rfl, Nat.le_of_ble_eq_true rfl⟩ dX6_owenOf_53 (Nat.le_of_ble_eq_true rfl) (fun r5 => ?_)
  refine v_callSP1v C (fun l9 r9 h9 => k_X6_size (l := l9) h9) gX6_owenOf_X6_size rfl nI_X6_size ⟨rfl, rfl, Nat.le_of_ble_eq_true rfl, Nat.le_of_ble_eq_true rfl⟩ dX6_owenOf_56 (Nat.le_of_ble_eq_true rfl) (fun r6 => ?_)
  refine v_iload C 0 dX6_owenOf_59 rfl ?_
  refine v_isub C dX6_owenOf_61 ?_
  refine v_iconst C dX6_owenOf_62 (v := 1) (by decide) ?_
  refine v_isub C dX6_owenOf_63 ?_
  refine v_lald C 4 1 rfl rfl dX6_owenOf_64 ?_
  refine v_lmul C dX6_owenOf_65 ?_
  exact v_lret (rvf := fun (res : Int64) => (some (.long res))) (wf := fun (res : Int64) => (mW q cs isK isB fed at_ ltr ab ps g kp nx fa tp rs rv ct it)) C dX6_owenOf_66 rfl rfl

end WK
