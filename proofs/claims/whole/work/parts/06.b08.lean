section WK
variable {q : Nat → Nat} {cs : Nat → ClassId} {D : va_G} {tF : Nat} {n : Int32} {nd : Int32} {es : Int32} {kn : Int32} {knd : Int32} {kes : Int32} {img : Bool} {tl : Int32} {ta : Int32} {tn : Int64} {sl : Int32} {bey : Bool} {wt : Nat → Int32} {un : Nat → Int32} {ed : Nat → Int32} {kwt : Nat → Int32} {kun : Nat → Int32} {ked : Nat → Int32} {tb : Nat → Int32} {sb : Nat → Int32} {sz : Nat → Int32} {sbs : Nat → Int32} {G : Nat → Nat → Int64} {K : Nat → Nat → Int64} {P : Nat → Nat → Int64} {wk : Nat → Int64} {wh : Nat → Int64}
def f_X5_addedBy (bey : Bool) (vs : Nat → Int64) (a2 : Int32) (a3 : Int32) : Option (Int64 × Bool) :=
ck (inb (a3 ||| (1 <<< (a2 &&& 31))) 512) (
ck (inb a3 512) (
(f_X1_less bey (vs (a3 ||| (1 <<< (a2 &&& 31))).toNatClampNeg) (vs a3.toNatClampNeg)).bind (fun (r1 : Int64 × Bool) =>
some (r1.1, r1.2))))

theorem nI_X5_addedBy : NameIn yX5_addedBy 3 := ⟨by decide +kernel, by decide +kernel, by decide +kernel⟩
set_option maxRecDepth 100000 in
set_option maxHeartbeats 4000000 in
theorem k_X5_addedBy {l : Launch} {a2 : Int32} {a3 : Int32} {vj : Nat} {res : Int64 × Bool} (hq : (xA q).Nodup) (hvj : vj < 4) (hf : f_X5_addedBy bey (G vj) a2 a3 = some res) : kMet l yX5_addedBy wsX5_addedBy { frames := 1, cells := 0, slots := 0, locals := 26 } D vwCl (xT cs) (xN tF) (xA q) [.ref (q 0), .ref (q (22 + vj)), .int a2, .int a3] (xW q cs n nd es kn knd kes img tl ta tn sl bey wt un ed kwt kun ked tb sb sz sbs G K P wk wh) (some (.long res.1)) (xW q cs n nd es kn knd kes img tl ta tn sl res.2 wt un ed kwt kun ked tb sb sz sbs G K P wk wh) := by
  have iX5 : ∀ w ∈ wsX50, w ∈ wsX5_addedBy := fun _ h => List.mem_cons_of_mem _ (List.mem_append_left _ (List.mem_append_right _ h))
  refine kMet.of (cc := cX5_addedBy) (nL := 4) (ret := (some .long)) (own := RX5) (lv := [(0, .ref (q 0)), (1, .ref (q (22 + vj))), (2, .int a2), (3, .int a3)]) (by decide +kernel) rfl rfl xN_ok hq (Nat.le_of_ble_eq_true rfl) rfl (fun X C => ?_)
  refine VF.of hf ?_
  unfold f_X5_addedBy
  refine v_aload_n C 0 dX5_addedBy_0 rfl ?_
  refine v_get C (T := TX5) (n := 10) (C9 := RX5) iX5 0 rfl rfl 6 (by decide) (List.mem_of_getElem? (i := 1) rfl) rfl rfl dX5_addedBy_1 ?_
  refine v_aload_n C 1 dX5_addedBy_4 rfl ?_
  refine v_iload_n C 3 dX5_addedBy_5 rfl ?_
  refine v_iconst C dX5_addedBy_6 (v := 1) (by decide) ?_
  refine v_iload_n C 2 dX5_addedBy_7 rfl ?_
  refine v_ishl C dX5_addedBy_8 ?_
  refine v_ior C dX5_addedBy_9 ?_
  refine v_lald C (22 + vj) 1 (xW_G hvj) rfl dX5_addedBy_10 ?_
  refine v_aload_n C 1 dX5_addedBy_11 rfl ?_
  refine v_iload_n C 3 dX5_addedBy_12 rfl ?_
  refine v_lald C (22 + vj) 1 (xW_G hvj) rfl dX5_addedBy_13 ?_
  refine v_callV2v C 6 rfl rfl rfl (fun l9 r9 h9 => k_X1_less (l := l9) hq  h9) gX5_addedBy_X1_less rfl nI_X1_less ⟨rfl, rfl, Nat.le_of_ble_eq_true rfl, Nat.le_of_ble_eq_true rfl⟩ dX5_addedBy_14 (Nat.le_of_ble_eq_true rfl) (fun r1 => ?_)
  exact v_lret (rvf := fun (res : Int64 × Bool) => (some (.long res.1))) (wf := fun (res : Int64 × Bool) => (xW q cs n nd es kn knd kes img tl ta tn sl res.2 wt un ed kwt kun ked tb sb sz sbs G K P wk wh)) C dX5_addedBy_17 rfl rfl

def f_X5_factorial (a1 : Int32) : Option (Int32) :=
jn0 (some 1) (fun k1 =>
if (a1 : Int32) < 0 then (
k1) else (
if (a1 : Int32) < 10 then (
ck (inb a1 10) (
some (xfac a1.toNatClampNeg))) else (
k1)))

theorem nI_X5_factorial : NameIn yX5_factorial 1 := ⟨by decide +kernel, by decide +kernel, by decide +kernel⟩
set_option maxRecDepth 100000 in
set_option maxHeartbeats 4000000 in
theorem k_X5_factorial {l : Launch} {a1 : Int32}  {res : Int32} (hq : (xA q).Nodup)  (hf : f_X5_factorial a1 = some res) : kMet l yX5_factorial wsX5_factorial { frames := 0, cells := 0, slots := 0, locals := 0 } D vwCl (xT cs) (xN tF) (xA q) [.int a1] (xW q cs n nd es kn knd kes img tl ta tn sl bey wt un ed kwt kun ked tb sb sz sbs G K P wk wh) (some (.int res)) (xW q cs n nd es kn knd kes img tl ta tn sl bey wt un ed kwt kun ked tb sb sz sbs G K P wk wh) := by
  refine kMet.of (cc := cX5_factorial) (nL := 1) (ret := (some .int)) (own := RX5) (lv := [(0, .int a1)]) (by decide +kernel) rfl rfl xN_ok hq (Nat.le_of_ble_eq_true rfl) rfl (fun X C => ?_)
  refine VF.of hf ?_
  unfold f_X5_factorial
  refine v_iload_n C 0 dX5_factorial_0 rfl ?_
  refine v_jn0 (wj := ((xW q cs n nd es kn knd kes img tl ta tn sl bey wt un ed kwt kun ked tb sb sz sbs G K P wk wh))) (pcj := 20) (lvj := ([])) (stj := ([])) ?_ (fun k1 hk1 => ?_)
  · refine v_iconst C dX5_factorial_20 (v := 1) (by decide) ?_
    exact v_iret (rvf := fun (res : Int32) => (some (.int res))) (wf := fun (res : Int32) => (xW q cs n nd es kn knd kes img tl ta tn sl bey wt un ed kwt kun ked tb sb sz sbs G K P wk wh)) C dX5_factorial_21 rfl rfl
  · refine v_if_lt C dX5_factorial_1 (tgt := 20) (by decide) ?_ ?_
    · exact v_sub [] rfl (hk1)
    · refine v_iload_n C 0 dX5_factorial_4 rfl ?_
      refine v_gets C (fun _ _ h => xN_Z h) (List.mem_of_getElem? (i := 1) rfl) rfl dX5_factorial_5 ?_
      refine v_tlen C (v := 10) (fun _ _ h => xN_T h) (by decide) dX5_factorial_8 ?_
      refine v_icmp_ge C dX5_factorial_9 (tgt := 20) (by decide) ?_ ?_
      · exact v_sub [] rfl (hk1)
      · refine v_gets C (fun _ _ h => xN_Z h) (List.mem_of_getElem? (i := 1) rfl) rfl dX5_factorial_12 ?_
        refine v_iload_n C 0 dX5_factorial_15 rfl ?_
        refine v_tald C (fun _ _ h => xN_T h) dX5_factorial_16 ?_
        refine v_goto C dX5_factorial_17 (tgt := 21) (by decide) ?_
        exact v_iret (rvf := fun (res : Int32) => (some (.int res))) (wf := fun (res : Int32) => (xW q cs n nd es kn knd kes img tl ta tn sl bey wt un ed kwt kun ked tb sb sz sbs G K P wk wh)) C dX5_factorial_21 rfl rfl

def f_X5_ordersAround (n : Int32) (a1 : Int32) : Option (Int32) :=
(f_J6_bitCount_0f7a4 a1).bind (fun (r1 : Int32) =>
(f_X5_factorial r1).bind (fun (r2 : Int32) =>
(f_X5_factorial ((n - r1) - 1)).bind (fun (r3 : Int32) =>
some (r2 * r3))))

theorem nI_X5_ordersAround : NameIn yX5_ordersAround 1 := ⟨by decide +kernel, by decide +kernel, by decide +kernel⟩
set_option maxRecDepth 100000 in
set_option maxHeartbeats 4000000 in
theorem k_X5_ordersAround {l : Launch} {a1 : Int32}  {res : Int32} (hq : (xA q).Nodup)  (hf : f_X5_ordersAround n a1 = some res) : kMet l yX5_ordersAround wsX5_ordersAround { frames := 1, cells := 0, slots := 0, locals := 20 } D vwCl (xT cs) (xN tF) (xA q) [.ref (q 0), .int a1] (xW q cs n nd es kn knd kes img tl ta tn sl bey wt un ed kwt kun ked tb sb sz sbs G K P wk wh) (some (.int res)) (xW q cs n nd es kn knd kes img tl ta tn sl bey wt un ed kwt kun ked tb sb sz sbs G K P wk wh) := by
  have iX0 : ∀ w ∈ wsX00, w ∈ wsX5_ordersAround := fun _ h => List.mem_cons_of_mem _ (List.mem_append_right _ h)
  have iX5 : ∀ w ∈ wsX50, w ∈ wsX5_ordersAround := fun _ h => List.mem_cons_of_mem _ (List.mem_append_left _ (List.mem_append_right _ h))
  refine kMet.of (cc := cX5_ordersAround) (nL := 3) (ret := (some .int)) (own := RX5) (lv := [(0, .ref (q 0)), (1, .int a1)]) (by decide +kernel) rfl rfl xN_ok hq (Nat.le_of_ble_eq_true rfl) rfl (fun X C => ?_)
  refine VF.of hf ?_
  unfold f_X5_ordersAround
  refine v_iload_n C 1 dX5_ordersAround_0 rfl ?_
  refine v_callSP1v C (fun l9 r9 h9 => k_J6_bitCount_0f7a4 (l := l9) h9) gX5_ordersAround_J6_bitCount_0f7a4 rfl nI_J6_bitCount_0f7a4 ⟨rfl, rfl, Nat.le_of_ble_eq_true rfl, Nat.le_of_ble_eq_true rfl⟩ dX5_ordersAround_1 (Nat.le_of_ble_eq_true rfl) (fun r1 => ?_)
  refine v_istore_n C (lv' := [(2, .int r1), (0, .ref (q 0)), (1, .int a1)]) dX5_ordersAround_4 rfl (by decide) rfl ?_
  refine v_iload_n C 0 dX5_ordersAround_5 rfl ?_
  refine v_callS1v C (fun l9 r9 h9 => k_X5_factorial (l := l9) hq  h9) gX5_ordersAround_X5_factorial rfl nI_X5_factorial ⟨rfl, rfl, Nat.le_of_ble_eq_true rfl, Nat.le_of_ble_eq_true rfl⟩ dX5_ordersAround_6 (Nat.le_of_ble_eq_true rfl) (fun r2 => ?_)
  refine v_aload_n C 1 dX5_ordersAround_9 rfl ?_
  refine v_get C (T := TX5) (n := 10) (C9 := RX5) iX5 0 rfl rfl 0 (by decide) (List.mem_of_getElem? (i := 1) rfl) rfl rfl dX5_ordersAround_10 ?_
  refine v_get C (T := TX0) (n := 7) (C9 := RX0) iX0 1 rfl rfl 0 (by decide) (List.mem_of_getElem? (i := 2) rfl) rfl rfl dX5_ordersAround_13 ?_
  refine v_iload_n C 0 dX5_ordersAround_16 rfl ?_
  refine v_isub C dX5_ordersAround_17 ?_
  refine v_iconst C dX5_ordersAround_18 (v := 1) (by decide) ?_
  refine v_isub C dX5_ordersAround_19 ?_
  refine v_callS1v C (fun l9 r9 h9 => k_X5_factorial (l := l9) hq  h9) gX5_ordersAround_X5_factorial rfl nI_X5_factorial ⟨rfl, rfl, Nat.le_of_ble_eq_true rfl, Nat.le_of_ble_eq_true rfl⟩ dX5_ordersAround_20 (Nat.le_of_ble_eq_true rfl) (fun r3 => ?_)
  refine v_imul C dX5_ordersAround_23 ?_
  exact v_iret (rvf := fun (res : Int32) => (some (.int res))) (wf := fun (res : Int32) => (xW q cs n nd es kn knd kes img tl ta tn sl bey wt un ed kwt kun ked tb sb sz sbs G K P wk wh)) C dX5_ordersAround_24 rfl rfl

def B_X5_shareAbove_1 (n : Int32) (vs : Nat → Int64) (a2 : Int32) (rec1 : Int64 → Int32 → Bool → Option (Int64 × Bool))  (v2 : Int64) (v3 : Int32) (bey4 : Bool) : Option (Int64 × Bool) :=
(f_X0_sets n).bind (fun (r5 : Int32) =>
if (v3 : Int32) < r5 then (
(f_X5_has v3 a2).bind (fun (r6 : Bool) =>
jn2 (fun (v8 : Int64) (bey9 : Bool) =>
nm (v3 + 1) (fun (x10 : Int32) =>
rec1 v8 x10 bey9)) (fun k7 =>
if r6 = true then (
k7 v2 bey4) else (
(f_X5_addedBy bey4 vs a2 v3).bind (fun (r11 : Int64 × Bool) =>
(f_X5_ordersAround n v3).bind (fun (r12 : Int32) =>
(f_X1_product r11.2 r11.1 r12.toInt64).bind (fun (r13 : Int64 × Bool) =>
(f_X1_plus r13.2 v2 r13.1).bind (fun (r14 : Int64 × Bool) =>
k7 r14.1 r14.2)))))))) else (
some (v2, bey4)))
def L_X5_shareAbove_1 (n : Int32) (vs : Nat → Int64) (a2 : Int32)  : Nat → Int64 → Int32 → Bool → Option (Int64 × Bool)
  | 0, _, _, _ => none
  | m9 + 1, v2, v3, bey4 => B_X5_shareAbove_1 n vs a2 (L_X5_shareAbove_1 n vs a2 m9)  v2 v3 bey4

def f_X5_shareAbove (n : Int32) (bey : Bool) (vs : Nat → Int64) (a2 : Int32) : Option (Int64 × Bool) :=
L_X5_shareAbove_1 n vs a2  FU 0 0 bey

theorem nI_X5_shareAbove : NameIn yX5_shareAbove 2 := ⟨by decide +kernel, by decide +kernel, by decide +kernel⟩
set_option maxRecDepth 100000 in
set_option maxHeartbeats 4000000 in
theorem lp_X5_shareAbove_1 {X : CX} {res : Int64 × Bool} {a2 : Int32} {vj : Nat}  (hq : (xA q).Nodup) (C : Ok X cX5_shareAbove 8 (some .long) wsX5_shareAbove RX5 { frames := 2, cells := 0, slots := 0, locals := 49 } D vwCl (xT cs) (xA q) (xN tF) (some (.long res.1)) (xW q cs n nd es kn knd kes img tl ta tn sl res.2 wt un ed kwt kun ked tb sb sz sbs G K P wk wh)) (hvj : vj < 4) : ∀ fuel : Nat, ∀ v2 : Int64, ∀ v3 : Int32, ∀ bey4 : Bool, VF X res (L_X5_shareAbove_1 n (G vj) a2 fuel v2 v3 bey4) (xW q cs n nd es kn knd kes img tl ta tn sl bey4 wt un ed kwt kun ked tb sb sz sbs G K P wk wh) 5 [(0, .ref (q 0)), (1, .ref (q (22 + vj))), (2, .int a2), (3, .long v2), (5, .int v3)] [] := by
  have iX5 : ∀ w ∈ wsX50, w ∈ wsX5_shareAbove := fun _ h => List.mem_cons_of_mem _ (List.mem_append_left _ (List.mem_append_left _ (List.mem_append_right _ h)))
  intro fuel
  induction fuel with
  | zero =>
    intro _ _ _
    exact v_none
  | succ fuel ih =>
    intro v2 v3 bey4
    show VF X res (B_X5_shareAbove_1 n (G vj) a2 (L_X5_shareAbove_1 n (G vj) a2 fuel)  v2 v3 bey4) _ _ _ _
    unfold B_X5_shareAbove_1
    refine v_iload C 4 dX5_shareAbove_5 rfl ?_
    refine v_aload_n C 0 dX5_shareAbove_7 rfl ?_
    refine v_get C (T := TX5) (n := 10) (C9 := RX5) iX5 0 rfl rfl 0 (by decide) (List.mem_of_getElem? (i := 1) rfl) rfl rfl dX5_shareAbove_8 ?_
    refine v_callV0v C 1 rfl rfl rfl (fun l9 r9 h9 => k_X0_sets (l := l9) hq  h9) gX5_shareAbove_X0_sets rfl nI_X0_sets ⟨rfl, rfl, Nat.le_of_ble_eq_true rfl, Nat.le_of_ble_eq_true rfl⟩ dX5_shareAbove_11 (Nat.le_of_ble_eq_true rfl) (fun r5 => ?_)
    refine v_icmp_ge C dX5_shareAbove_14 (tgt := 67) (by decide) ?_ ?_
    · refine v_lload_n C 3 dX5_shareAbove_67 rfl ?_
      exact v_lret (rvf := fun (res : Int64 × Bool) => (some (.long res.1))) (wf := fun (res : Int64 × Bool) => (xW q cs n nd es kn knd kes img tl ta tn sl res.2 wt un ed kwt kun ked tb sb sz sbs G K P wk wh)) C dX5_shareAbove_68 rfl rfl
    · refine v_iload C 4 dX5_shareAbove_17 rfl ?_
      refine v_iload_n C 2 dX5_shareAbove_19 rfl ?_
      refine v_callSP2v C (fun l9 r9 h9 => k_X5_has (l := l9) h9) gX5_shareAbove_X5_has rfl nI_X5_has ⟨rfl, rfl, Nat.le_of_ble_eq_true rfl, Nat.le_of_ble_eq_true rfl⟩ dX5_shareAbove_20 (Nat.le_of_ble_eq_true rfl) (fun r6 => ?_)
      refine v_jn2 (wj := (fun v8 bey9 => (xW q cs n nd es kn knd kes img tl ta tn sl bey9 wt un ed kwt kun ked tb sb sz sbs G K P wk wh))) (pcj := 61) (lvj := (fun v8 bey9 => [(0, .ref (q 0)), (1, .ref (q (22 + vj))), (2, .int a2), (3, .long v8), (5, .int v3)])) (stj := (fun v8 bey9 => [])) (fun v8 bey9 => ?_) (fun k7 hk7 => ?_)
      · refine v_iinc_nm C (lvf := fun x10 => [(5, .int x10), (0, .ref (q 0)), (1, .ref (q (22 + vj))), (2, .int a2), (3, .long v8)]) 4 dX5_shareAbove_61 rfl rfl (by decide) (fun _ => rfl) (fun x10 => ?_)
        refine v_goto C dX5_shareAbove_64 (tgt := 5) (by decide) ?_
        exact v_sub [1, 2, 3, 4, 0] rfl (ih v8 x10 bey9)
      · refine v_ifb_ne C (b := r6) dX5_shareAbove_23 (tgt := 61) (by decide) ?_ ?_
        · exact v_sub [0, 1, 2, 3, 4] rfl (hk7 v2 bey4)
        · refine v_aload_n C 0 dX5_shareAbove_26 rfl ?_
          refine v_aload_n C 1 dX5_shareAbove_27 rfl ?_
          refine v_iload_n C 2 dX5_shareAbove_28 rfl ?_
          refine v_iload C 4 dX5_shareAbove_29 rfl ?_
          refine v_callV3v C 0 rfl rfl rfl (fun l9 r9 h9 => k_X5_addedBy (l := l9) hq hvj h9) gX5_shareAbove_X5_addedBy rfl nI_X5_addedBy ⟨rfl, rfl, Nat.le_of_ble_eq_true rfl, Nat.le_of_ble_eq_true rfl⟩ dX5_shareAbove_31 (Nat.le_of_ble_eq_true rfl) (fun r11 => ?_)
          refine v_lstore C (lv' := [(6, .long r11.1), (0, .ref (q 0)), (1, .ref (q (22 + vj))), (2, .int a2), (3, .long v2), (5, .int v3)]) dX5_shareAbove_34 (by decide) rfl ?_
          refine v_aload_n C 1 dX5_shareAbove_36 rfl ?_
          refine v_get C (T := TX5) (n := 10) (C9 := RX5) iX5 0 rfl rfl 6 (by decide) (List.mem_of_getElem? (i := 2) rfl) rfl rfl dX5_shareAbove_37 ?_
          refine v_lload_n C 4 dX5_shareAbove_40 rfl ?_
          refine v_aload_n C 1 dX5_shareAbove_41 rfl ?_
          refine v_get C (T := TX5) (n := 10) (C9 := RX5) iX5 0 rfl rfl 6 (by decide) (List.mem_of_getElem? (i := 2) rfl) rfl rfl dX5_shareAbove_42 ?_
          refine v_lload C 0 dX5_shareAbove_45 rfl ?_
          refine v_aload_n C 1 dX5_shareAbove_47 rfl ?_
          refine v_iload C 5 dX5_shareAbove_48 rfl ?_
          refine v_callV1v C 0 rfl rfl rfl (fun l9 r9 h9 => k_X5_ordersAround (l := l9) hq  h9) gX5_shareAbove_X5_ordersAround rfl nI_X5_ordersAround ⟨rfl, rfl, Nat.le_of_ble_eq_true rfl, Nat.le_of_ble_eq_true rfl⟩ dX5_shareAbove_50 (Nat.le_of_ble_eq_true rfl) (fun r12 => ?_)
          refine v_i2l C dX5_shareAbove_53 ?_
          refine v_callV2v C 6 rfl rfl rfl (fun l9 r9 h9 => k_X1_product (l := l9) hq  h9) gX5_shareAbove_X1_product rfl nI_X1_product ⟨rfl, rfl, Nat.le_of_ble_eq_true rfl, Nat.le_of_ble_eq_true rfl⟩ dX5_shareAbove_54 (Nat.le_of_ble_eq_true rfl) (fun r13 => ?_)
          refine v_callV2v C 6 rfl rfl rfl (fun l9 r9 h9 => k_X1_plus (l := l9) hq  h9) gX5_shareAbove_X1_plus rfl nI_X1_plus ⟨rfl, rfl, Nat.le_of_ble_eq_true rfl, Nat.le_of_ble_eq_true rfl⟩ dX5_shareAbove_57 (Nat.le_of_ble_eq_true rfl) (fun r14 => ?_)
          refine v_lstore_n C (lv' := [(3, .long r14.1), (6, .long r11.1), (0, .ref (q 0)), (1, .ref (q (22 + vj))), (2, .int a2), (5, .int v3)]) dX5_shareAbove_60 rfl (by decide) rfl ?_
          exact v_sub [2, 3, 4, 0, 5] rfl (hk7 r14.1 r14.2)

set_option maxRecDepth 100000 in
set_option maxHeartbeats 4000000 in
theorem k_X5_shareAbove {l : Launch} {a2 : Int32} {vj : Nat} {res : Int64 × Bool} (hq : (xA q).Nodup) (hvj : vj < 4) (hf : f_X5_shareAbove n bey (G vj) a2 = some res) : kMet l yX5_shareAbove wsX5_shareAbove { frames := 2, cells := 0, slots := 0, locals := 49 } D vwCl (xT cs) (xN tF) (xA q) [.ref (q 0), .ref (q (22 + vj)), .int a2] (xW q cs n nd es kn knd kes img tl ta tn sl bey wt un ed kwt kun ked tb sb sz sbs G K P wk wh) (some (.long res.1)) (xW q cs n nd es kn knd kes img tl ta tn sl res.2 wt un ed kwt kun ked tb sb sz sbs G K P wk wh) := by
  refine kMet.of (cc := cX5_shareAbove) (nL := 8) (ret := (some .long)) (own := RX5) (lv := [(0, .ref (q 0)), (1, .ref (q (22 + vj))), (2, .int a2)]) (by decide +kernel) rfl rfl xN_ok hq (Nat.le_of_ble_eq_true rfl) rfl (fun X C => ?_)
  refine VF.of hf ?_
  unfold f_X5_shareAbove
  refine v_lconst C dX5_shareAbove_0 (v := 0) (by decide) ?_
  refine v_lstore_n C (lv' := [(3, .long 0), (0, .ref (q 0)), (1, .ref (q (22 + vj))), (2, .int a2)]) dX5_shareAbove_1 rfl (by decide) rfl ?_
  refine v_iconst C dX5_shareAbove_2 (v := 0) (by decide) ?_
  refine v_istore C (lv' := [(5, .int 0), (3, .long 0), (0, .ref (q 0)), (1, .ref (q (22 + vj))), (2, .int a2)]) dX5_shareAbove_3 (by decide) rfl ?_
  refine v_sub [2, 3, 4, 1, 0] rfl (lp_X5_shareAbove_1 hq C hvj  FU 0 0 bey)

def f_X5_share (n : Int32) (bey : Bool) (G : Nat → Nat → Int64) (a1 : Int32) (a2 : Int32) (a3 : Int32) : Option (Int64 × Bool) :=
(f_X5_isGame a1).bind (fun (r1 : Bool) =>
if r1 = true then (
(f_X0_hasPartner n a2).bind (fun (r2 : Bool) =>
if r2 = true then (
(f_X5_isPart a3).bind (fun (r3 : Bool) =>
if r3 = true then (
(f_X1_begin bey).bind (fun (r4 : Bool) =>
ck (inb a1 4) (
(f_X5_shareAbove n r4 (G a1.toNatClampNeg) a2).bind (fun (r6 : Int64 × Bool) =>
if r6.2 = true then (
some ((-9223372036854775808), r6.2)) else (
(f_X5_factorial n).bind (fun (r7 : Int32) =>
(f_X5_lowest r6.1 r7.toInt64 a3).bind (fun (r8 : Int64) =>
some (r8, r6.2)))))))) else (
some ((-9223372036854775808), bey)))) else (
some ((-9223372036854775808), bey)))) else (
some ((-9223372036854775808), bey)))

theorem nI_X5_share : NameIn yX5_share 3 := ⟨by decide +kernel, by decide +kernel, by decide +kernel⟩
set_option maxRecDepth 100000 in
set_option maxHeartbeats 4000000 in
theorem k_X5_share {l : Launch} {a1 : Int32} {a2 : Int32} {a3 : Int32}  {res : Int64 × Bool} (hq : (xA q).Nodup)  (hf : f_X5_share n bey G a1 a2 a3 = some res) : kMet l yX5_share wsX5_share { frames := 3, cells := 0, slots := 0, locals := 79 } D vwCl (xT cs) (xN tF) (xA q) [.ref (q 0), .int a1, .int a2, .int a3] (xW q cs n nd es kn knd kes img tl ta tn sl bey wt un ed kwt kun ked tb sb sz sbs G K P wk wh) (some (.long res.1)) (xW q cs n nd es kn knd kes img tl ta tn sl res.2 wt un ed kwt kun ked tb sb sz sbs G K P wk wh) := by
  have iX0 : ∀ w ∈ wsX00, w ∈ wsX5_share := fun _ h => List.mem_cons_of_mem _ (List.mem_append_left _ (List.mem_append_right _ h))
  have iX1 : ∀ w ∈ wsX10, w ∈ wsX5_share := fun _ h => List.mem_cons_of_mem _ (List.mem_append_right _ h)
  have iX5 : ∀ w ∈ wsX50, w ∈ wsX5_share := fun _ h => List.mem_cons_of_mem _ (List.mem_append_left _ (List.mem_append_left _ (List.mem_append_right _ h)))
  refine kMet.of (cc := cX5_share) (nL := 6) (ret := (some .long)) (own := RX5) (lv := [(0, .ref (q 0)), (1, .int a1), (2, .int a2), (3, .int a3)]) (by decide +kernel) rfl rfl xN_ok hq (Nat.le_of_ble_eq_true rfl) rfl (fun X C => ?_)
  refine VF.of hf ?_
  unfold f_X5_share
  refine v_iload_n C 1 dX5_share_0 rfl ?_
  refine v_callSP1v C (fun l9 r9 h9 => k_X5_isGame (l := l9) h9) gX5_share_X5_isGame rfl nI_X5_isGame ⟨rfl, rfl, Nat.le_of_ble_eq_true rfl, Nat.le_of_ble_eq_true rfl⟩ dX5_share_1 (Nat.le_of_ble_eq_true rfl) (fun r1 => ?_)
  refine v_ifb_eq C (b := r1) dX5_share_4 (tgt := 25) (by decide) ?_ ?_
  · refine v_ldc2 C (v := (-9223372036854775808)) (List.mem_of_getElem? (i := 2) rfl) dX5_share_25 ?_
    exact v_lret (rvf := fun (res : Int64 × Bool) => (some (.long res.1))) (wf := fun (res : Int64 × Bool) => (xW q cs n nd es kn knd kes img tl ta tn sl res.2 wt un ed kwt kun ked tb sb sz sbs G K P wk wh)) C dX5_share_28 rfl rfl
  · refine v_aload_n C 0 dX5_share_7 rfl ?_
    refine v_get C (T := TX5) (n := 10) (C9 := RX5) iX5 0 rfl rfl 0 (by decide) (List.mem_of_getElem? (i := 1) rfl) rfl rfl dX5_share_8 ?_
    refine v_iload_n C 2 dX5_share_11 rfl ?_
    refine v_callV1v C 1 rfl rfl rfl (fun l9 r9 h9 => k_X0_hasPartner (l := l9) hq  h9) gX5_share_X0_hasPartner rfl nI_X0_hasPartner ⟨rfl, rfl, Nat.le_of_ble_eq_true rfl, Nat.le_of_ble_eq_true rfl⟩ dX5_share_12 (Nat.le_of_ble_eq_true rfl) (fun r2 => ?_)
    refine v_ifb_eq C (b := r2) dX5_share_15 (tgt := 25) (by decide) ?_ ?_
    · refine v_ldc2 C (v := (-9223372036854775808)) (List.mem_of_getElem? (i := 2) rfl) dX5_share_25 ?_
      exact v_lret (rvf := fun (res : Int64 × Bool) => (some (.long res.1))) (wf := fun (res : Int64 × Bool) => (xW q cs n nd es kn knd kes img tl ta tn sl res.2 wt un ed kwt kun ked tb sb sz sbs G K P wk wh)) C dX5_share_28 rfl rfl
    · refine v_iload_n C 3 dX5_share_18 rfl ?_
      refine v_callSP1v C (fun l9 r9 h9 => k_X5_isPart (l := l9) h9) gX5_share_X5_isPart rfl nI_X5_isPart ⟨rfl, rfl, Nat.le_of_ble_eq_true rfl, Nat.le_of_ble_eq_true rfl⟩ dX5_share_19 (Nat.le_of_ble_eq_true rfl) (fun r3 => ?_)
      refine v_ifb_ne C (b := r3) dX5_share_22 (tgt := 29) (by decide) ?_ ?_
      · refine v_aload_n C 0 dX5_share_29 rfl ?_
        refine v_get C (T := TX5) (n := 10) (C9 := RX5) iX5 0 rfl rfl 6 (by decide) (List.mem_of_getElem? (i := 3) rfl) rfl rfl dX5_share_30 ?_
        refine v_callV0n C 6 rfl rfl rfl (fun l9 r9 h9 => k_X1_begin (l := l9) hq  h9) gX5_share_X1_begin rfl nI_X1_begin ⟨rfl, rfl, Nat.le_of_ble_eq_true rfl, Nat.le_of_ble_eq_true rfl⟩ dX5_share_33 (Nat.le_of_ble_eq_true rfl) (fun r4 => ?_)
        refine v_aload_n C 0 dX5_share_36 rfl ?_
        refine v_aload_n C 0 dX5_share_37 rfl ?_
        refine v_get C (T := TX5) (n := 10) (C9 := RX5) iX5 0 rfl rfl 0 (by decide) (List.mem_of_getElem? (i := 1) rfl) rfl rfl dX5_share_38 ?_
        refine v_get C (T := TX0) (n := 7) (C9 := RX0) iX0 1 rfl rfl 6 (by decide) (List.mem_of_getElem? (i := 4) rfl) rfl rfl dX5_share_41 ?_
        refine v_iload_n C 1 dX5_share_44 rfl ?_
        refine v_aalda C (ad := fun j9 => q (22 + j9)) 10 3 rfl rfl (fun _ h9 => if_pos h9) dX5_share_45 (fun hb5 => ?_)
        have hj5 := inb_lt hb5
        refine v_iload_n C 2 dX5_share_46 rfl ?_
        refine v_callV2v C 0 rfl rfl rfl (fun l9 r9 h9 => k_X5_shareAbove (l := l9) hq hj5 h9) gX5_share_X5_shareAbove rfl nI_X5_shareAbove ⟨rfl, rfl, Nat.le_of_ble_eq_true rfl, Nat.le_of_ble_eq_true rfl⟩ dX5_share_47 (Nat.le_of_ble_eq_true rfl) (fun r6 => ?_)
        refine v_lstore C (lv' := [(4, .long r6.1), (0, .ref (q 0)), (1, .int a1), (2, .int a2), (3, .int a3)]) dX5_share_50 (by decide) rfl ?_
        refine v_aload_n C 1 dX5_share_52 rfl ?_
        refine v_get C (T := TX5) (n := 10) (C9 := RX5) iX5 0 rfl rfl 6 (by decide) (List.mem_of_getElem? (i := 3) rfl) rfl rfl dX5_share_53 ?_
        refine v_get C (T := TX1) (n := 1) (C9 := RX1) iX1 6 rfl rfl 0 (by decide) (List.mem_of_getElem? (i := 5) rfl) rfl rfl dX5_share_56 ?_
        refine v_ifb_eq C (b := r6.2) dX5_share_59 (tgt := 68) (by decide) ?_ ?_
        · refine v_lload C 0 dX5_share_68 rfl ?_
          refine v_aload_n C 1 dX5_share_70 rfl ?_
          refine v_get C (T := TX5) (n := 10) (C9 := RX5) iX5 0 rfl rfl 0 (by decide) (List.mem_of_getElem? (i := 1) rfl) rfl rfl dX5_share_71 ?_
          refine v_get C (T := TX0) (n := 7) (C9 := RX0) iX0 1 rfl rfl 0 (by decide) (List.mem_of_getElem? (i := 6) rfl) rfl rfl dX5_share_74 ?_
          refine v_callS1v C (fun l9 r9 h9 => k_X5_factorial (l := l9) hq  h9) gX5_share_X5_factorial rfl nI_X5_factorial ⟨rfl, rfl, Nat.le_of_ble_eq_true rfl, Nat.le_of_ble_eq_true rfl⟩ dX5_share_77 (Nat.le_of_ble_eq_true rfl) (fun r7 => ?_)
          refine v_i2l C dX5_share_80 ?_
          refine v_iload_n C 4 dX5_share_81 rfl ?_
          refine v_callSP3v C (fun l9 r9 h9 => k_X5_lowest (l := l9) h9) gX5_share_X5_lowest rfl nI_X5_lowest ⟨rfl, rfl, Nat.le_of_ble_eq_true rfl, Nat.le_of_ble_eq_true rfl⟩ dX5_share_82 (Nat.le_of_ble_eq_true rfl) (fun r8 => ?_)
          exact v_lret (rvf := fun (res : Int64 × Bool) => (some (.long res.1))) (wf := fun (res : Int64 × Bool) => (xW q cs n nd es kn knd kes img tl ta tn sl res.2 wt un ed kwt kun ked tb sb sz sbs G K P wk wh)) C dX5_share_85 rfl rfl
        · refine v_ldc2 C (v := (-9223372036854775808)) (List.mem_of_getElem? (i := 2) rfl) dX5_share_62 ?_
          refine v_goto C dX5_share_65 (tgt := 85) (by decide) ?_
          exact v_lret (rvf := fun (res : Int64 × Bool) => (some (.long res.1))) (wf := fun (res : Int64 × Bool) => (xW q cs n nd es kn knd kes img tl ta tn sl res.2 wt un ed kwt kun ked tb sb sz sbs G K P wk wh)) C dX5_share_85 rfl rfl
      · refine v_ldc2 C (v := (-9223372036854775808)) (List.mem_of_getElem? (i := 2) rfl) dX5_share_25 ?_
        exact v_lret (rvf := fun (res : Int64 × Bool) => (some (.long res.1))) (wf := fun (res : Int64 × Bool) => (xW q cs n nd es kn knd kes img tl ta tn sl res.2 wt un ed kwt kun ked tb sb sz sbs G K P wk wh)) C dX5_share_28 rfl rfl

def B_X5_power_1 (n : Int32) (G : Nat → Nat → Int64) (a1 : Int32) (a2 : Int32) (rec5 : Int64 → Int32 → Bool → Option (Int64 × Bool)) (kx6 : Int64 → Bool → Option (Int64 × Bool)) (v7 : Int64) (v8 : Int32) (bey9 : Bool) : Option (Int64 × Bool) :=
(f_X0_sets n).bind (fun (r10 : Int32) =>
if (v8 : Int32) < r10 then (
(f_X5_has v8 a2).bind (fun (r11 : Bool) =>
jn2 (fun (v13 : Int64) (bey14 : Bool) =>
nm (v8 + 1) (fun (x15 : Int32) =>
rec5 v13 x15 bey14)) (fun k12 =>
if r11 = true then (
k12 v7 bey9) else (
(f_X5_addedBy bey9 (G a1.toNatClampNeg) a2 v8).bind (fun (r16 : Int64 × Bool) =>
(f_X1_plus r16.2 v7 r16.1).bind (fun (r17 : Int64 × Bool) =>
k12 r17.1 r17.2)))))) else (
kx6 v7 bey9))
def L_X5_power_1 (n : Int32) (G : Nat → Nat → Int64) (a1 : Int32) (a2 : Int32) (kx6 : Int64 → Bool → Option (Int64 × Bool)) : Nat → Int64 → Int32 → Bool → Option (Int64 × Bool)
  | 0, _, _, _ => none
  | m9 + 1, v7, v8, bey9 => B_X5_power_1 n G a1 a2 (L_X5_power_1 n G a1 a2 kx6 m9) kx6 v7 v8 bey9

def f_X5_power (n : Int32) (bey : Bool) (G : Nat → Nat → Int64) (a1 : Int32) (a2 : Int32) : Option (Int64 × Bool) :=
(f_X5_isGame a1).bind (fun (r1 : Bool) =>
if r1 = true then (
(f_X0_hasPartner n a2).bind (fun (r2 : Bool) =>
if r2 = true then (
ck (inb a1 4) (
(f_X1_begin bey).bind (fun (r4 : Bool) =>
L_X5_power_1 n G a1 a2 (fun (v18 : Int64) (bey19 : Bool) =>
if bey19 = true then (
some ((-9223372036854775808), bey19)) else (
some (v18, bey19))) FU 0 0 r4))) else (
some ((-9223372036854775808), bey)))) else (
some ((-9223372036854775808), bey)))

theorem nI_X5_power : NameIn yX5_power 2 := ⟨by decide +kernel, by decide +kernel, by decide +kernel⟩
set_option maxRecDepth 100000 in
set_option maxHeartbeats 4000000 in
theorem lp_X5_power_1 {X : CX} {res : Int64 × Bool} {a1 : Int32} {a2 : Int32}   (hq : (xA q).Nodup) (C : Ok X cX5_power 7 (some .long) wsX5_power RX5 { frames := 2, cells := 0, slots := 0, locals := 49 } D vwCl (xT cs) (xA q) (xN tF) (some (.long res.1)) (xW q cs n nd es kn knd kes img tl ta tn sl res.2 wt un ed kwt kun ked tb sb sz sbs G K P wk wh)) (hj3 : a1.toNatClampNeg < 4) (kx6 : Int64 → Bool → Option (Int64 × Bool)) (Jkx6 : ∀ y4 : Int64, ∀ beyZz : Bool, VF X res (kx6 y4 beyZz) (xW q cs n nd es kn knd kes img tl ta tn sl beyZz wt un ed kwt kun ked tb sb sz sbs G K P wk wh) 91 [(0, .ref (q 0)), (4, .long y4)] []) : ∀ fuel : Nat, ∀ v7 : Int64, ∀ v8 : Int32, ∀ bey9 : Bool, VF X res (L_X5_power_1 n G a1 a2 kx6 fuel v7 v8 bey9) (xW q cs n nd es kn knd kes img tl ta tn sl bey9 wt un ed kwt kun ked tb sb sz sbs G K P wk wh) 45 [(0, .ref (q 0)), (2, .int a2), (3, .ref (q (22 + a1.toNatClampNeg))), (4, .long v7), (6, .int v8)] [] := by
  have iX5 : ∀ w ∈ wsX50, w ∈ wsX5_power := fun _ h => List.mem_cons_of_mem _ (List.mem_append_left _ (List.mem_append_left _ (List.mem_append_right _ h)))
  intro fuel
  induction fuel with
  | zero =>
    intro _ _ _
    exact v_none
  | succ fuel ih =>
    intro v7 v8 bey9
    show VF X res (B_X5_power_1 n G a1 a2 (L_X5_power_1 n G a1 a2 kx6 fuel) kx6 v7 v8 bey9) _ _ _ _
    unfold B_X5_power_1
    refine v_iload C 4 dX5_power_45 rfl ?_
    refine v_aload_n C 0 dX5_power_47 rfl ?_
    refine v_get C (T := TX5) (n := 10) (C9 := RX5) iX5 0 rfl rfl 0 (by decide) (List.mem_of_getElem? (i := 1) rfl) rfl rfl dX5_power_48 ?_
    refine v_callV0v C 1 rfl rfl rfl (fun l9 r9 h9 => k_X0_sets (l := l9) hq  h9) gX5_power_X0_sets rfl nI_X0_sets ⟨rfl, rfl, Nat.le_of_ble_eq_true rfl, Nat.le_of_ble_eq_true rfl⟩ dX5_power_51 (Nat.le_of_ble_eq_true rfl) (fun r10 => ?_)
    refine v_icmp_ge C dX5_power_54 (tgt := 91) (by decide) ?_ ?_
    · exact v_sub [0, 3] rfl (Jkx6 v7 bey9)
    · refine v_iload C 4 dX5_power_57 rfl ?_
      refine v_iload_n C 1 dX5_power_59 rfl ?_
      refine v_callSP2v C (fun l9 r9 h9 => k_X5_has (l := l9) h9) gX5_power_X5_has rfl nI_X5_has ⟨rfl, rfl, Nat.le_of_ble_eq_true rfl, Nat.le_of_ble_eq_true rfl⟩ dX5_power_60 (Nat.le_of_ble_eq_true rfl) (fun r11 => ?_)
      refine v_jn2 (wj := (fun v13 bey14 => (xW q cs n nd es kn knd kes img tl ta tn sl bey14 wt un ed kwt kun ked tb sb sz sbs G K P wk wh))) (pcj := 85) (lvj := (fun v13 bey14 => [(0, .ref (q 0)), (2, .int a2), (3, .ref (q (22 + a1.toNatClampNeg))), (4, .long v13), (6, .int v8)])) (stj := (fun v13 bey14 => [])) (fun v13 bey14 => ?_) (fun k12 hk12 => ?_)
      · refine v_iinc_nm C (lvf := fun x15 => [(6, .int x15), (0, .ref (q 0)), (2, .int a2), (3, .ref (q (22 + a1.toNatClampNeg))), (4, .long v13)]) 4 dX5_power_85 rfl rfl (by decide) (fun _ => rfl) (fun x15 => ?_)
        refine v_goto C dX5_power_88 (tgt := 45) (by decide) ?_
        exact v_sub [1, 2, 3, 4, 0] rfl (ih v13 x15 bey14)
      · refine v_ifb_ne C (b := r11) dX5_power_63 (tgt := 85) (by decide) ?_ ?_
        · exact v_sub [0, 1, 2, 3, 4] rfl (hk12 v7 bey9)
        · refine v_aload_n C 0 dX5_power_66 rfl ?_
          refine v_get C (T := TX5) (n := 10) (C9 := RX5) iX5 0 rfl rfl 6 (by decide) (List.mem_of_getElem? (i := 4) rfl) rfl rfl dX5_power_67 ?_
          refine v_lload C 3 dX5_power_70 rfl ?_
          refine v_aload_n C 0 dX5_power_72 rfl ?_
          refine v_aload_n C 2 dX5_power_73 rfl ?_
          refine v_iload_n C 1 dX5_power_74 rfl ?_
          refine v_iload C 4 dX5_power_75 rfl ?_
          refine v_callV3v C 0 rfl rfl rfl (fun l9 r9 h9 => k_X5_addedBy (l := l9) hq hj3 h9) gX5_power_X5_addedBy rfl nI_X5_addedBy ⟨rfl, rfl, Nat.le_of_ble_eq_true rfl, Nat.le_of_ble_eq_true rfl⟩ dX5_power_77 (Nat.le_of_ble_eq_true rfl) (fun r16 => ?_)
          refine v_callV2v C 6 rfl rfl rfl (fun l9 r9 h9 => k_X1_plus (l := l9) hq  h9) gX5_power_X1_plus rfl nI_X1_plus ⟨rfl, rfl, Nat.le_of_ble_eq_true rfl, Nat.le_of_ble_eq_true rfl⟩ dX5_power_80 (Nat.le_of_ble_eq_true rfl) (fun r17 => ?_)
          refine v_lstore C (lv' := [(4, .long r17.1), (0, .ref (q 0)), (2, .int a2), (3, .ref (q (22 + a1.toNatClampNeg))), (6, .int v8)]) dX5_power_83 (by decide) rfl ?_
          exact v_sub [1, 2, 3, 0, 4] rfl (hk12 r17.1 r17.2)

set_option maxRecDepth 100000 in
set_option maxHeartbeats 4000000 in
theorem k_X5_power {l : Launch} {a1 : Int32} {a2 : Int32}  {res : Int64 × Bool} (hq : (xA q).Nodup)  (hf : f_X5_power n bey G a1 a2 = some res) : kMet l yX5_power wsX5_power { frames := 2, cells := 0, slots := 0, locals := 49 } D vwCl (xT cs) (xN tF) (xA q) [.ref (q 0), .int a1, .int a2] (xW q cs n nd es kn knd kes img tl ta tn sl bey wt un ed kwt kun ked tb sb sz sbs G K P wk wh) (some (.long res.1)) (xW q cs n nd es kn knd kes img tl ta tn sl res.2 wt un ed kwt kun ked tb sb sz sbs G K P wk wh) := by
  have iX0 : ∀ w ∈ wsX00, w ∈ wsX5_power := fun _ h => List.mem_cons_of_mem _ (List.mem_append_left _ (List.mem_append_right _ h))
  have iX1 : ∀ w ∈ wsX10, w ∈ wsX5_power := fun _ h => List.mem_cons_of_mem _ (List.mem_append_right _ h)
  have iX5 : ∀ w ∈ wsX50, w ∈ wsX5_power := fun _ h => List.mem_cons_of_mem _ (List.mem_append_left _ (List.mem_append_left _ (List.mem_append_right _ h)))
  refine kMet.of (cc := cX5_power) (nL := 7) (ret := (some .long)) (own := RX5) (lv := [(0, .ref (q 0)), (1, .int a1), (2, .int a2)]) (by decide +kernel) rfl rfl xN_ok hq (Nat.le_of_ble_eq_true rfl) rfl (fun X C => ?_)
  refine VF.of hf ?_
  unfold f_X5_power
  refine v_iload_n C 1 dX5_power_0 rfl ?_
  refine v_callSP1v C (fun l9 r9 h9 => k_X5_isGame (l := l9) h9) gX5_power_X5_isGame rfl nI_X5_isGame ⟨rfl, rfl, Nat.le_of_ble_eq_true rfl, Nat.le_of_ble_eq_true rfl⟩ dX5_power_1 (Nat.le_of_ble_eq_true rfl) (fun r1 => ?_)
  refine v_ifb_eq C (b := r1) dX5_power_4 (tgt := 18) (by decide) ?_ ?_
  · refine v_ldc2 C (v := (-9223372036854775808)) (List.mem_of_getElem? (i := 2) rfl) dX5_power_18 ?_
    exact v_lret (rvf := fun (res : Int64 × Bool) => (some (.long res.1))) (wf := fun (res : Int64 × Bool) => (xW q cs n nd es kn knd kes img tl ta tn sl res.2 wt un ed kwt kun ked tb sb sz sbs G K P wk wh)) C dX5_power_21 rfl rfl
  · refine v_aload_n C 0 dX5_power_7 rfl ?_
    refine v_get C (T := TX5) (n := 10) (C9 := RX5) iX5 0 rfl rfl 0 (by decide) (List.mem_of_getElem? (i := 1) rfl) rfl rfl dX5_power_8 ?_
    refine v_iload_n C 2 dX5_power_11 rfl ?_
    refine v_callV1v C 1 rfl rfl rfl (fun l9 r9 h9 => k_X0_hasPartner (l := l9) hq  h9) gX5_power_X0_hasPartner rfl nI_X0_hasPartner ⟨rfl, rfl, Nat.le_of_ble_eq_true rfl, Nat.le_of_ble_eq_true rfl⟩ dX5_power_12 (Nat.le_of_ble_eq_true rfl) (fun r2 => ?_)
    refine v_ifb_ne C (b := r2) dX5_power_15 (tgt := 22) (by decide) ?_ ?_
    · refine v_aload_n C 0 dX5_power_22 rfl ?_
      refine v_get C (T := TX5) (n := 10) (C9 := RX5) iX5 0 rfl rfl 0 (by decide) (List.mem_of_getElem? (i := 1) rfl) rfl rfl dX5_power_23 ?_
      refine v_get C (T := TX0) (n := 7) (C9 := RX0) iX0 1 rfl rfl 6 (by decide) (List.mem_of_getElem? (i := 3) rfl) rfl rfl dX5_power_26 ?_
      refine v_iload_n C 1 dX5_power_29 rfl ?_
      refine v_aalda C (ad := fun j9 => q (22 + j9)) 10 3 rfl rfl (fun _ h9 => if_pos h9) dX5_power_30 (fun hb3 => ?_)
      have hj3 := inb_lt hb3
      refine v_astore_n C (lv' := [(3, .ref (q (22 + a1.toNatClampNeg))), (0, .ref (q 0)), (1, .int a1), (2, .int a2)]) dX5_power_31 rfl (by decide) rfl ?_
      refine v_aload_n C 1 dX5_power_32 rfl ?_
      refine v_get C (T := TX5) (n := 10) (C9 := RX5) iX5 0 rfl rfl 6 (by decide) (List.mem_of_getElem? (i := 4) rfl) rfl rfl dX5_power_33 ?_
      refine v_callV0n C 6 rfl rfl rfl (fun l9 r9 h9 => k_X1_begin (l := l9) hq  h9) gX5_power_X1_begin rfl nI_X1_begin ⟨rfl, rfl, Nat.le_of_ble_eq_true rfl, Nat.le_of_ble_eq_true rfl⟩ dX5_power_36 (Nat.le_of_ble_eq_true rfl) (fun r4 => ?_)
      refine v_lconst C dX5_power_39 (v := 0) (by decide) ?_
      refine v_lstore C (lv' := [(4, .long 0), (3, .ref (q (22 + a1.toNatClampNeg))), (0, .ref (q 0)), (1, .int a1), (2, .int a2)]) dX5_power_40 (by decide) rfl ?_
      refine v_iconst C dX5_power_42 (v := 0) (by decide) ?_
      refine v_istore C (lv' := [(6, .int 0), (4, .long 0), (3, .ref (q (22 + a1.toNatClampNeg))), (0, .ref (q 0)), (1, .int a1), (2, .int a2)]) dX5_power_43 (by decide) rfl ?_
      refine v_sub [3, 5, 2, 1, 0] rfl (lp_X5_power_1 hq C hj3 _ (fun v18 bey19 => ?_) FU 0 0 r4)
      refine v_aload_n C 0 dX5_power_91 rfl ?_
      refine v_get C (T := TX5) (n := 10) (C9 := RX5) iX5 0 rfl rfl 6 (by decide) (List.mem_of_getElem? (i := 4) rfl) rfl rfl dX5_power_92 ?_
      refine v_get C (T := TX1) (n := 1) (C9 := RX1) iX1 6 rfl rfl 0 (by decide) (List.mem_of_getElem? (i := 5) rfl) rfl rfl dX5_power_95 ?_
      refine v_ifb_eq C (b := bey19) dX5_power_98 (tgt := 107) (by decide) ?_ ?_
      · refine v_lload C 1 dX5_power_107 rfl ?_
        exact v_lret (rvf := fun (res : Int64 × Bool) => (some (.long res.1))) (wf := fun (res : Int64 × Bool) => (xW q cs n nd es kn knd kes img tl ta tn sl res.2 wt un ed kwt kun ked tb sb sz sbs G K P wk wh)) C dX5_power_109 rfl rfl
      · refine v_ldc2 C (v := (-9223372036854775808)) (List.mem_of_getElem? (i := 2) rfl) dX5_power_101 ?_
        refine v_goto C dX5_power_104 (tgt := 109) (by decide) ?_
        exact v_lret (rvf := fun (res : Int64 × Bool) => (some (.long res.1))) (wf := fun (res : Int64 × Bool) => (xW q cs n nd es kn knd kes img tl ta tn sl res.2 wt un ed kwt kun ked tb sb sz sbs G K P wk wh)) C dX5_power_109 rfl rfl
    · refine v_ldc2 C (v := (-9223372036854775808)) (List.mem_of_getElem? (i := 2) rfl) dX5_power_18 ?_
      exact v_lret (rvf := fun (res : Int64 × Bool) => (some (.long res.1))) (wf := fun (res : Int64 × Bool) => (xW q cs n nd es kn knd kes img tl ta tn sl res.2 wt un ed kwt kun ked tb sb sz sbs G K P wk wh)) C dX5_power_21 rfl rfl

def B_X5_owenAbove_1 (n : Int32) (un : Nat → Int32) (vs : Nat → Int64) (a2 : Int32) (x1 : Int32) (r2 : Int32) (r3 : Int32) (rec4 : Int64 → Int32 → Bool → Option (Int64 × Bool))  (v5 : Int64) (v6 : Int32) (bey7 : Bool) : Option (Int64 × Bool) :=
(f_X0_sets n).bind (fun (r8 : Int32) =>
if (v6 : Int32) < r8 then (
(f_X5_has v6 a2).bind (fun (r9 : Bool) =>
jn1 (fun (v11 : Int32) =>
jn2 (fun (v13 : Int64) (bey14 : Bool) =>
nm (v6 + 1) (fun (x15 : Int32) =>
rec4 v13 x15 bey14)) (fun k12 =>
if (v11 : Int32) = (-1) then (
k12 v5 bey7) else (
(f_J6_bitCount_0f7a4 (v6 &&& x1)).bind (fun (r16 : Int32) =>
(f_X5_factorial v11).bind (fun (r17 : Int32) =>
(f_X5_factorial ((r3 - v11) - 1)).bind (fun (r18 : Int32) =>
(f_X5_factorial r16).bind (fun (r19 : Int32) =>
(f_X5_factorial ((r2 - r16) - 1)).bind (fun (r20 : Int32) =>
nm (((r17 * r18) * r19) * r20) (fun (x21 : Int32) =>
(f_X5_addedBy bey7 vs a2 v6).bind (fun (r22 : Int64 × Bool) =>
(f_X1_product r22.2 r22.1 x21.toInt64).bind (fun (r23 : Int64 × Bool) =>
(f_X1_plus r23.2 v5 r23.1).bind (fun (r24 : Int64 × Bool) =>
k12 r24.1 r24.2)))))))))))) (fun k10 =>
if r9 = true then (
k10 (-1)) else (
(f_X0_wholeUnions n un (v6 &&& (x1 ^^^ (-1)))).bind (fun (r25 : Int32) =>
k10 r25))))) else (
some (v5, bey7)))
def L_X5_owenAbove_1 (n : Int32) (un : Nat → Int32) (vs : Nat → Int64) (a2 : Int32) (x1 : Int32) (r2 : Int32) (r3 : Int32)  : Nat → Int64 → Int32 → Bool → Option (Int64 × Bool)
  | 0, _, _, _ => none
  | m9 + 1, v5, v6, bey7 => B_X5_owenAbove_1 n un vs a2 x1 r2 r3 (L_X5_owenAbove_1 n un vs a2 x1 r2 r3 m9)  v5 v6 bey7

def f_X5_owenAbove (n : Int32) (bey : Bool) (un : Nat → Int32) (vs : Nat → Int64) (a2 : Int32) : Option (Int64 × Bool) :=
ck (inb a2 9) (
nm (un a2.toNatClampNeg) (fun (x1 : Int32) =>
(f_J6_bitCount_0f7a4 x1).bind (fun (r2 : Int32) =>
(f_X0_countUnions n un).bind (fun (r3 : Int32) =>
L_X5_owenAbove_1 n un vs a2 x1 r2 r3  FU 0 0 bey))))

theorem nI_X5_owenAbove : NameIn yX5_owenAbove 2 := ⟨by decide +kernel, by decide +kernel, by decide +kernel⟩
set_option maxRecDepth 100000 in
set_option maxHeartbeats 4000000 in
theorem lp_X5_owenAbove_1 {X : CX} {res : Int64 × Bool} {a2 : Int32} {vj : Nat} {x1 : Int32} {r2 : Int32} {r3 : Int32} (hq : (xA q).Nodup) (C : Ok X cX5_owenAbove 14 (some .long) wsX5_owenAbove RX5 { frames := 3, cells := 0, slots := 0, locals := 65 } D vwCl (xT cs) (xA q) (xN tF) (some (.long res.1)) (xW q cs n nd es kn knd kes img tl ta tn sl res.2 wt un ed kwt kun ked tb sb sz sbs G K P wk wh)) (hvj : vj < 4) : ∀ fuel : Nat, ∀ v5 : Int64, ∀ v6 : Int32, ∀ bey7 : Bool, VF X res (L_X5_owenAbove_1 n un (G vj) a2 x1 r2 r3 fuel v5 v6 bey7) (xW q cs n nd es kn knd kes img tl ta tn sl bey7 wt un ed kwt kun ked tb sb sz sbs G K P wk wh) 31 [(0, .ref (q 0)), (1, .ref (q (22 + vj))), (2, .int a2), (3, .int x1), (4, .int r2), (5, .int r3), (6, .long v5), (8, .int v6)] [] := by
  have iX5 : ∀ w ∈ wsX50, w ∈ wsX5_owenAbove := fun _ h => List.mem_cons_of_mem _ (List.mem_append_left _ (List.mem_append_left _ (List.mem_append_right _ h)))
  intro fuel
  induction fuel with
  | zero =>
    intro _ _ _
    exact v_none
  | succ fuel ih =>
    intro v5 v6 bey7
    show VF X res (B_X5_owenAbove_1 n un (G vj) a2 x1 r2 r3 (L_X5_owenAbove_1 n un (G vj) a2 x1 r2 r3 fuel)  v5 v6 bey7) _ _ _ _
    unfold B_X5_owenAbove_1
    refine v_iload C 7 dX5_owenAbove_31 rfl ?_
    refine v_aload_n C 0 dX5_owenAbove_33 rfl ?_
    refine v_get C (T := TX5) (n := 10) (C9 := RX5) iX5 0 rfl rfl 0 (by decide) (List.mem_of_getElem? (i := 1) rfl) rfl rfl dX5_owenAbove_34 ?_
    refine v_callV0v C 1 rfl rfl rfl (fun l9 r9 h9 => k_X0_sets (l := l9) hq  h9) gX5_owenAbove_X0_sets rfl nI_X0_sets ⟨rfl, rfl, Nat.le_of_ble_eq_true rfl, Nat.le_of_ble_eq_true rfl⟩ dX5_owenAbove_37 (Nat.le_of_ble_eq_true rfl) (fun r8 => ?_)
    refine v_icmp_ge C dX5_owenAbove_40 (tgt := 160) (by decide) ?_ ?_
    · refine v_lload C 6 dX5_owenAbove_160 rfl ?_
      exact v_lret (rvf := fun (res : Int64 × Bool) => (some (.long res.1))) (wf := fun (res : Int64 × Bool) => (xW q cs n nd es kn knd kes img tl ta tn sl res.2 wt un ed kwt kun ked tb sb sz sbs G K P wk wh)) C dX5_owenAbove_162 rfl rfl
    · refine v_iload C 7 dX5_owenAbove_43 rfl ?_
      refine v_iload_n C 2 dX5_owenAbove_45 rfl ?_
      refine v_callSP2v C (fun l9 r9 h9 => k_X5_has (l := l9) h9) gX5_owenAbove_X5_has rfl nI_X5_has ⟨rfl, rfl, Nat.le_of_ble_eq_true rfl, Nat.le_of_ble_eq_true rfl⟩ dX5_owenAbove_46 (Nat.le_of_ble_eq_true rfl) (fun r9 => ?_)
      refine v_jn1 (wj := (fun v11 => (xW q cs n nd es kn knd kes img tl ta tn sl bey7 wt un ed kwt kun ked tb sb sz sbs G K P wk wh))) (pcj := 69) (lvj := (fun v11 => [(0, .ref (q 0)), (1, .ref (q (22 + vj))), (2, .int a2), (3, .int x1), (4, .int r2), (5, .int r3), (6, .long v5), (8, .int v6)])) (stj := (fun v11 => [.int v11])) (fun v11 => ?_) (fun k10 hk10 => ?_)
      · refine v_istore C (lv' := [(9, .int v11), (0, .ref (q 0)), (1, .ref (q (22 + vj))), (2, .int a2), (3, .int x1), (4, .int r2), (5, .int r3), (6, .long v5), (8, .int v6)]) dX5_owenAbove_69 (by decide) rfl ?_
        refine v_iload C 0 dX5_owenAbove_71 rfl ?_
        refine v_iconst C dX5_owenAbove_73 (v := (-1)) (by decide) ?_
        refine v_jn2 (wj := (fun v13 bey14 => (xW q cs n nd es kn knd kes img tl ta tn sl bey14 wt un ed kwt kun ked tb sb sz sbs G K P wk wh))) (pcj := 154) (lvj := (fun v13 bey14 => [(0, .ref (q 0)), (1, .ref (q (22 + vj))), (2, .int a2), (3, .int x1), (4, .int r2), (5, .int r3), (6, .long v13), (8, .int v6)])) (stj := (fun v13 bey14 => [])) (fun v13 bey14 => ?_) (fun k12 hk12 => ?_)
        · refine v_iinc_nm C (lvf := fun x15 => [(8, .int x15), (0, .ref (q 0)), (1, .ref (q (22 + vj))), (2, .int a2), (3, .int x1), (4, .int r2), (5, .int r3), (6, .long v13)]) 7 dX5_owenAbove_154 rfl rfl (by decide) (fun _ => rfl) (fun x15 => ?_)
          refine v_goto C dX5_owenAbove_157 (tgt := 31) (by decide) ?_
          exact v_sub [1, 2, 3, 4, 5, 6, 7, 0] rfl (ih v13 x15 bey14)
        · refine v_icmp_eq C dX5_owenAbove_74 (tgt := 154) (by decide) ?_ ?_
          · exact v_sub [1, 2, 3, 4, 5, 6, 7, 8] rfl (hk12 v5 bey7)
          · refine v_iload C 8 dX5_owenAbove_77 rfl ?_
            refine v_iload_n C 4 dX5_owenAbove_79 rfl ?_
            refine v_iand C dX5_owenAbove_80 ?_
            refine v_callSP1v C (fun l9 r9 h9 => k_J6_bitCount_0f7a4 (l := l9) h9) gX5_owenAbove_J6_bitCount_0f7a4 rfl nI_J6_bitCount_0f7a4 ⟨rfl, rfl, Nat.le_of_ble_eq_true rfl, Nat.le_of_ble_eq_true rfl⟩ dX5_owenAbove_81 (Nat.le_of_ble_eq_true rfl) (fun r16 => ?_)
            refine v_istore C (lv' := [(10, .int r16), (9, .int v11), (0, .ref (q 0)), (1, .ref (q (22 + vj))), (2, .int a2), (3, .int x1), (4, .int r2), (5, .int r3), (6, .long v5), (8, .int v6)]) dX5_owenAbove_84 (by decide) rfl ?_
            refine v_iload C 1 dX5_owenAbove_86 rfl ?_
            refine v_callS1v C (fun l9 r9 h9 => k_X5_factorial (l := l9) hq  h9) gX5_owenAbove_X5_factorial rfl nI_X5_factorial ⟨rfl, rfl, Nat.le_of_ble_eq_true rfl, Nat.le_of_ble_eq_true rfl⟩ dX5_owenAbove_88 (Nat.le_of_ble_eq_true rfl) (fun r17 => ?_)
            refine v_iload C 7 dX5_owenAbove_91 rfl ?_
            refine v_iload C 1 dX5_owenAbove_93 rfl ?_
            refine v_isub C dX5_owenAbove_95 ?_
            refine v_iconst C dX5_owenAbove_96 (v := 1) (by decide) ?_
            refine v_isub C dX5_owenAbove_97 ?_
            refine v_callS1v C (fun l9 r9 h9 => k_X5_factorial (l := l9) hq  h9) gX5_owenAbove_X5_factorial rfl nI_X5_factorial ⟨rfl, rfl, Nat.le_of_ble_eq_true rfl, Nat.le_of_ble_eq_true rfl⟩ dX5_owenAbove_98 (Nat.le_of_ble_eq_true rfl) (fun r18 => ?_)
            refine v_imul C dX5_owenAbove_101 ?_
            refine v_iload C 0 dX5_owenAbove_102 rfl ?_
            refine v_callS1v C (fun l9 r9 h9 => k_X5_factorial (l := l9) hq  h9) gX5_owenAbove_X5_factorial rfl nI_X5_factorial ⟨rfl, rfl, Nat.le_of_ble_eq_true rfl, Nat.le_of_ble_eq_true rfl⟩ dX5_owenAbove_104 (Nat.le_of_ble_eq_true rfl) (fun r19 => ?_)
            refine v_imul C dX5_owenAbove_107 ?_
            refine v_iload C 6 dX5_owenAbove_108 rfl ?_
            refine v_iload C 0 dX5_owenAbove_110 rfl ?_
            refine v_isub C dX5_owenAbove_112 ?_
            refine v_iconst C dX5_owenAbove_113 (v := 1) (by decide) ?_
            refine v_isub C dX5_owenAbove_114 ?_
            refine v_callS1v C (fun l9 r9 h9 => k_X5_factorial (l := l9) hq  h9) gX5_owenAbove_X5_factorial rfl nI_X5_factorial ⟨rfl, rfl, Nat.le_of_ble_eq_true rfl, Nat.le_of_ble_eq_true rfl⟩ dX5_owenAbove_115 (Nat.le_of_ble_eq_true rfl) (fun r20 => ?_)
            refine v_imul C dX5_owenAbove_118 ?_
            refine v_istore_nm C (lvf := fun x21 => [(11, .int x21), (10, .int r16), (9, .int v11), (0, .ref (q 0)), (1, .ref (q (22 + vj))), (2, .int a2), (3, .int x1), (4, .int r2), (5, .int r3), (6, .long v5), (8, .int v6)]) dX5_owenAbove_119 (by decide) (fun _ => rfl) (fun x21 => ?_)
            refine v_aload_n C 3 dX5_owenAbove_121 rfl ?_
            refine v_aload_n C 4 dX5_owenAbove_122 rfl ?_
            refine v_iload_n C 5 dX5_owenAbove_123 rfl ?_
            refine v_iload C 10 dX5_owenAbove_124 rfl ?_
            refine v_callV3v C 0 rfl rfl rfl (fun l9 r9 h9 => k_X5_addedBy (l := l9) hq hvj h9) gX5_owenAbove_X5_addedBy rfl nI_X5_addedBy ⟨rfl, rfl, Nat.le_of_ble_eq_true rfl, Nat.le_of_ble_eq_true rfl⟩ dX5_owenAbove_126 (Nat.le_of_ble_eq_true rfl) (fun r22 => ?_)
            refine v_lstore C (lv' := [(12, .long r22.1), (11, .int x21), (10, .int r16), (9, .int v11), (0, .ref (q 0)), (1, .ref (q (22 + vj))), (2, .int a2), (3, .int x1), (4, .int r2), (5, .int r3), (6, .long v5), (8, .int v6)]) dX5_owenAbove_129 (by decide) rfl ?_
            refine v_aload_n C 4 dX5_owenAbove_131 rfl ?_
            refine v_get C (T := TX5) (n := 10) (C9 := RX5) iX5 0 rfl rfl 6 (by decide) (List.mem_of_getElem? (i := 3) rfl) rfl rfl dX5_owenAbove_132 ?_
            refine v_lload C 10 dX5_owenAbove_135 rfl ?_
            refine v_aload_n C 4 dX5_owenAbove_137 rfl ?_
            refine v_get C (T := TX5) (n := 10) (C9 := RX5) iX5 0 rfl rfl 6 (by decide) (List.mem_of_getElem? (i := 3) rfl) rfl rfl dX5_owenAbove_138 ?_
            refine v_lload C 0 dX5_owenAbove_141 rfl ?_
            refine v_iload C 1 dX5_owenAbove_143 rfl ?_
            refine v_i2l C dX5_owenAbove_145 ?_
            refine v_callV2v C 6 rfl rfl rfl (fun l9 r9 h9 => k_X1_product (l := l9) hq  h9) gX5_owenAbove_X1_product rfl nI_X1_product ⟨rfl, rfl, Nat.le_of_ble_eq_true rfl, Nat.le_of_ble_eq_true rfl⟩ dX5_owenAbove_146 (Nat.le_of_ble_eq_true rfl) (fun r23 => ?_)
            refine v_callV2v C 6 rfl rfl rfl (fun l9 r9 h9 => k_X1_plus (l := l9) hq  h9) gX5_owenAbove_X1_plus rfl nI_X1_plus ⟨rfl, rfl, Nat.le_of_ble_eq_true rfl, Nat.le_of_ble_eq_true rfl⟩ dX5_owenAbove_149 (Nat.le_of_ble_eq_true rfl) (fun r24 => ?_)
            refine v_lstore C (lv' := [(6, .long r24.1), (12, .long r22.1), (11, .int x21), (10, .int r16), (9, .int v11), (0, .ref (q 0)), (1, .ref (q (22 + vj))), (2, .int a2), (3, .int x1), (4, .int r2), (5, .int r3), (8, .int v6)]) dX5_owenAbove_152 (by decide) rfl ?_
            exact v_sub [5, 6, 7, 8, 9, 10, 0, 11] rfl (hk12 r24.1 r24.2)
      · refine v_ifb_eq C (b := r9) dX5_owenAbove_49 (tgt := 56) (by decide) ?_ ?_
        · refine v_aload_n C 0 dX5_owenAbove_56 rfl ?_
          refine v_get C (T := TX5) (n := 10) (C9 := RX5) iX5 0 rfl rfl 0 (by decide) (List.mem_of_getElem? (i := 1) rfl) rfl rfl dX5_owenAbove_57 ?_
          refine v_iload C 7 dX5_owenAbove_60 rfl ?_
          refine v_iload_n C 3 dX5_owenAbove_62 rfl ?_
          refine v_iconst C dX5_owenAbove_63 (v := (-1)) (by decide) ?_
          refine v_ixor C dX5_owenAbove_64 ?_
          refine v_iand C dX5_owenAbove_65 ?_
          refine v_callV1v C 1 rfl rfl rfl (fun l9 r9 h9 => k_X0_wholeUnions (l := l9) hq  h9) gX5_owenAbove_X0_wholeUnions rfl nI_X0_wholeUnions ⟨rfl, rfl, Nat.le_of_ble_eq_true rfl, Nat.le_of_ble_eq_true rfl⟩ dX5_owenAbove_66 (Nat.le_of_ble_eq_true rfl) (fun r25 => ?_)
          exact v_sub [0, 1, 2, 3, 4, 5, 6, 7] rfl (hk10 r25)
        · refine v_iconst C dX5_owenAbove_52 (v := (-1)) (by decide) ?_
          refine v_goto C dX5_owenAbove_53 (tgt := 69) (by decide) ?_
          exact v_sub [0, 1, 2, 3, 4, 5, 6, 7] rfl (hk10 (-1))

set_option maxRecDepth 100000 in
set_option maxHeartbeats 4000000 in
theorem k_X5_owenAbove {l : Launch} {a2 : Int32} {vj : Nat} {res : Int64 × Bool} (hq : (xA q).Nodup) (hvj : vj < 4) (hf : f_X5_owenAbove n bey un (G vj) a2 = some res) : kMet l yX5_owenAbove wsX5_owenAbove { frames := 3, cells := 0, slots := 0, locals := 65 } D vwCl (xT cs) (xN tF) (xA q) [.ref (q 0), .ref (q (22 + vj)), .int a2] (xW q cs n nd es kn knd kes img tl ta tn sl bey wt un ed kwt kun ked tb sb sz sbs G K P wk wh) (some (.long res.1)) (xW q cs n nd es kn knd kes img tl ta tn sl res.2 wt un ed kwt kun ked tb sb sz sbs G K P wk wh) := by
  have iX0 : ∀ w ∈ wsX00, w ∈ wsX5_owenAbove := fun _ h => List.mem_cons_of_mem _ (List.mem_append_left _ (List.mem_append_right _ h))
  have iX5 : ∀ w ∈ wsX50, w ∈ wsX5_owenAbove := fun _ h => List.mem_cons_of_mem _ (List.mem_append_left _ (List.mem_append_left _ (List.mem_append_right _ h)))
  refine kMet.of (cc := cX5_owenAbove) (nL := 14) (ret := (some .long)) (own := RX5) (lv := [(0, .ref (q 0)), (1, .ref (q (22 + vj))), (2, .int a2)]) (by decide +kernel) rfl rfl xN_ok hq (Nat.le_of_ble_eq_true rfl) rfl (fun X C => ?_)
  refine VF.of hf ?_
  unfold f_X5_owenAbove
  refine v_aload_n C 0 dX5_owenAbove_0 rfl ?_
  refine v_get C (T := TX5) (n := 10) (C9 := RX5) iX5 0 rfl rfl 0 (by decide) (List.mem_of_getElem? (i := 1) rfl) rfl rfl dX5_owenAbove_1 ?_
  refine v_get C (T := TX0) (n := 7) (C9 := RX0) iX0 1 rfl rfl 4 (by decide) (List.mem_of_getElem? (i := 2) rfl) rfl rfl dX5_owenAbove_4 ?_
  refine v_iload_n C 2 dX5_owenAbove_7 rfl ?_
  refine v_iald C 8 0 rfl rfl dX5_owenAbove_8 ?_
  refine v_istore_n_nm C (lvf := fun x1 => [(3, .int x1), (0, .ref (q 0)), (1, .ref (q (22 + vj))), (2, .int a2)]) dX5_owenAbove_9 rfl (by decide) (fun _ => rfl) (fun x1 => ?_)
  refine v_iload_n C 0 dX5_owenAbove_10 rfl ?_
  refine v_callSP1v C (fun l9 r9 h9 => k_J6_bitCount_0f7a4 (l := l9) h9) gX5_owenAbove_J6_bitCount_0f7a4 rfl nI_J6_bitCount_0f7a4 ⟨rfl, rfl, Nat.le_of_ble_eq_true rfl, Nat.le_of_ble_eq_true rfl⟩ dX5_owenAbove_11 (Nat.le_of_ble_eq_true rfl) (fun r2 => ?_)
  refine v_istore C (lv' := [(4, .int r2), (3, .int x1), (0, .ref (q 0)), (1, .ref (q (22 + vj))), (2, .int a2)]) dX5_owenAbove_14 (by decide) rfl ?_
  refine v_aload_n C 2 dX5_owenAbove_16 rfl ?_
  refine v_get C (T := TX5) (n := 10) (C9 := RX5) iX5 0 rfl rfl 0 (by decide) (List.mem_of_getElem? (i := 1) rfl) rfl rfl dX5_owenAbove_17 ?_
  refine v_callV0v C 1 rfl rfl rfl (fun l9 r9 h9 => k_X0_countUnions (l := l9) hq  h9) gX5_owenAbove_X0_countUnions rfl nI_X0_countUnions ⟨rfl, rfl, Nat.le_of_ble_eq_true rfl, Nat.le_of_ble_eq_true rfl⟩ dX5_owenAbove_20 (Nat.le_of_ble_eq_true rfl) (fun r3 => ?_)
  refine v_istore C (lv' := [(5, .int r3), (4, .int r2), (3, .int x1), (0, .ref (q 0)), (1, .ref (q (22 + vj))), (2, .int a2)]) dX5_owenAbove_23 (by decide) rfl ?_
  refine v_lconst C dX5_owenAbove_25 (v := 0) (by decide) ?_
  refine v_lstore C (lv' := [(6, .long 0), (5, .int r3), (4, .int r2), (3, .int x1), (0, .ref (q 0)), (1, .ref (q (22 + vj))), (2, .int a2)]) dX5_owenAbove_26 (by decide) rfl ?_
  refine v_iconst C dX5_owenAbove_28 (v := 0) (by decide) ?_
  refine v_istore C (lv' := [(8, .int 0), (6, .long 0), (5, .int r3), (4, .int r2), (3, .int x1), (0, .ref (q 0)), (1, .ref (q (22 + vj))), (2, .int a2)]) dX5_owenAbove_29 (by decide) rfl ?_
  refine v_sub [5, 6, 7, 4, 3, 2, 1, 0] rfl (lp_X5_owenAbove_1 hq C hvj  FU 0 0 bey)

end WK
