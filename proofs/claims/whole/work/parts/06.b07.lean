section WK
variable {q : Nat → Nat} {cs : Nat → ClassId} {D : va_G} {tF : Nat} {n : Int32} {nd : Int32} {es : Int32} {kn : Int32} {knd : Int32} {kes : Int32} {img : Bool} {tl : Int32} {ta : Int32} {tn : Int64} {sl : Int32} {bey : Bool} {wt : Nat → Int32} {un : Nat → Int32} {ed : Nat → Int32} {kwt : Nat → Int32} {kun : Nat → Int32} {ked : Nat → Int32} {tb : Nat → Int32} {sb : Nat → Int32} {sz : Nat → Int32} {sbs : Nat → Int32} {G : Nat → Nat → Int64} {K : Nat → Nat → Int64} {P : Nat → Nat → Int64} {wk : Nat → Int64} {wh : Nat → Int64}
def B_X5_differ_1 (n : Int32) (G : Nat → Nat → Int64) (a1 : Int32) (a2 : Int32) (rec3 : Int32 → Option (Int32))  (v4 : Int32) : Option (Int32) :=
(f_X0_sets n).bind (fun (r5 : Int32) =>
if (v4 : Int32) < r5 then (
ck (inb a1 4) (
ck (inb v4 512) (
ck (inb a2 4) (
ck (inb v4 512) (
if ((G a1.toNatClampNeg) v4.toNatClampNeg : Int64) = ((G a2.toNatClampNeg) v4.toNatClampNeg) then (
nm (v4 + 1) (fun (x8 : Int32) =>
rec3 x8)) else (
some v4)))))) else (
some (-5)))
def L_X5_differ_1 (n : Int32) (G : Nat → Nat → Int64) (a1 : Int32) (a2 : Int32)  : Nat → Int32 → Option (Int32)
  | 0, _ => none
  | m9 + 1, v4 => B_X5_differ_1 n G a1 a2 (L_X5_differ_1 n G a1 a2 m9)  v4

def f_X5_differ (n : Int32) (G : Nat → Nat → Int64) (a1 : Int32) (a2 : Int32) : Option (Int32) :=
(f_X5_isGame a1).bind (fun (r1 : Bool) =>
if r1 = true then (
(f_X5_isGame a2).bind (fun (r2 : Bool) =>
if r2 = true then (
L_X5_differ_1 n G a1 a2  FU 0) else (
some (-1)))) else (
some (-1)))

theorem nI_X5_differ : NameIn yX5_differ 2 := ⟨by decide +kernel, by decide +kernel, by decide +kernel⟩
set_option maxRecDepth 100000 in
set_option maxHeartbeats 4000000 in
theorem lp_X5_differ_1 {X : CX} {res : Int32} {a1 : Int32} {a2 : Int32}   (hq : (xA q).Nodup) (C : Ok X cX5_differ 4 (some .int) wsX5_differ RX5 { frames := 1, cells := 0, slots := 0, locals := 20 } D vwCl (xT cs) (xA q) (xN tF) (some (.int res)) (xW q cs n nd es kn knd kes img tl ta tn sl bey wt un ed kwt kun ked tb sb sz sbs G K P wk wh))  : ∀ fuel : Nat, ∀ v4 : Int32, VF X res (L_X5_differ_1 n G a1 a2 fuel v4) (xW q cs n nd es kn knd kes img tl ta tn sl bey wt un ed kwt kun ked tb sb sz sbs G K P wk wh) 18 [(0, .ref (q 0)), (1, .int a1), (2, .int a2), (3, .int v4)] [] := by
  have iX0 : ∀ w ∈ wsX00, w ∈ wsX5_differ := fun _ h => List.mem_cons_of_mem _ (List.mem_append_right _ h)
  have iX5 : ∀ w ∈ wsX50, w ∈ wsX5_differ := fun _ h => List.mem_cons_of_mem _ (List.mem_append_left _ (List.mem_append_right _ h))
  intro fuel
  induction fuel with
  | zero =>
    intro _
    exact v_none
  | succ fuel ih =>
    intro v4
    show VF X res (B_X5_differ_1 n G a1 a2 (L_X5_differ_1 n G a1 a2 fuel)  v4) _ _ _ _
    unfold B_X5_differ_1
    refine v_iload_n C 3 dX5_differ_18 rfl ?_
    refine v_aload_n C 0 dX5_differ_19 rfl ?_
    refine v_get C (T := TX5) (n := 10) (C9 := RX5) iX5 0 rfl rfl 0 (by decide) (List.mem_of_getElem? (i := 1) rfl) rfl rfl dX5_differ_20 ?_
    refine v_callV0v C 1 rfl rfl rfl (fun l9 r9 h9 => k_X0_sets (l := l9) hq  h9) gX5_differ_X0_sets rfl nI_X0_sets ⟨rfl, rfl, Nat.le_of_ble_eq_true rfl, Nat.le_of_ble_eq_true rfl⟩ dX5_differ_23 (Nat.le_of_ble_eq_true rfl) (fun r5 => ?_)
    refine v_icmp_ge C dX5_differ_26 (tgt := 63) (by decide) ?_ ?_
    · refine v_bipush C dX5_differ_63 (v := (-5)) (by decide) ?_
      exact v_iret (rvf := fun (res : Int32) => (some (.int res))) (wf := fun (res : Int32) => (xW q cs n nd es kn knd kes img tl ta tn sl bey wt un ed kwt kun ked tb sb sz sbs G K P wk wh)) C dX5_differ_65 rfl rfl
    · refine v_aload_n C 0 dX5_differ_29 rfl ?_
      refine v_get C (T := TX5) (n := 10) (C9 := RX5) iX5 0 rfl rfl 0 (by decide) (List.mem_of_getElem? (i := 1) rfl) rfl rfl dX5_differ_30 ?_
      refine v_get C (T := TX0) (n := 7) (C9 := RX0) iX0 1 rfl rfl 6 (by decide) (List.mem_of_getElem? (i := 2) rfl) rfl rfl dX5_differ_33 ?_
      refine v_iload_n C 1 dX5_differ_36 rfl ?_
      refine v_aalda C (ad := fun j9 => q (22 + j9)) 10 3 rfl rfl (fun _ h9 => if_pos h9) dX5_differ_37 (fun hb6 => ?_)
      have hj6 := inb_lt hb6
      refine v_iload_n C 3 dX5_differ_38 rfl ?_
      refine v_lald C (22 + a1.toNatClampNeg) 1 (xW_G hj6) rfl dX5_differ_39 ?_
      refine v_aload_n C 0 dX5_differ_40 rfl ?_
      refine v_get C (T := TX5) (n := 10) (C9 := RX5) iX5 0 rfl rfl 0 (by decide) (List.mem_of_getElem? (i := 1) rfl) rfl rfl dX5_differ_41 ?_
      refine v_get C (T := TX0) (n := 7) (C9 := RX0) iX0 1 rfl rfl 6 (by decide) (List.mem_of_getElem? (i := 2) rfl) rfl rfl dX5_differ_44 ?_
      refine v_iload_n C 2 dX5_differ_47 rfl ?_
      refine v_aalda C (ad := fun j9 => q (22 + j9)) 10 3 rfl rfl (fun _ h9 => if_pos h9) dX5_differ_48 (fun hb7 => ?_)
      have hj7 := inb_lt hb7
      refine v_iload_n C 3 dX5_differ_49 rfl ?_
      refine v_lald C (22 + a2.toNatClampNeg) 1 (xW_G hj7) rfl dX5_differ_50 ?_
      refine v_lcmp_eq C dX5_differ_51 dX5_differ_52 (tgt := 57) (by decide) ?_ ?_
      · refine v_iinc_nm C (lvf := fun x8 => [(3, .int x8), (0, .ref (q 0)), (1, .int a1), (2, .int a2)]) 3 dX5_differ_57 rfl rfl (by decide) (fun _ => rfl) (fun x8 => ?_)
        refine v_goto C dX5_differ_60 (tgt := 18) (by decide) ?_
        exact v_sub [1, 2, 3, 0] rfl (ih x8)
      · refine v_iload_n C 3 dX5_differ_55 rfl ?_
        exact v_iret (rvf := fun (res : Int32) => (some (.int res))) (wf := fun (res : Int32) => (xW q cs n nd es kn knd kes img tl ta tn sl bey wt un ed kwt kun ked tb sb sz sbs G K P wk wh)) C dX5_differ_56 rfl rfl

set_option maxRecDepth 100000 in
set_option maxHeartbeats 4000000 in
theorem k_X5_differ {l : Launch} {a1 : Int32} {a2 : Int32}  {res : Int32} (hq : (xA q).Nodup)  (hf : f_X5_differ n G a1 a2 = some res) : kMet l yX5_differ wsX5_differ { frames := 1, cells := 0, slots := 0, locals := 20 } D vwCl (xT cs) (xN tF) (xA q) [.ref (q 0), .int a1, .int a2] (xW q cs n nd es kn knd kes img tl ta tn sl bey wt un ed kwt kun ked tb sb sz sbs G K P wk wh) (some (.int res)) (xW q cs n nd es kn knd kes img tl ta tn sl bey wt un ed kwt kun ked tb sb sz sbs G K P wk wh) := by
  refine kMet.of (cc := cX5_differ) (nL := 4) (ret := (some .int)) (own := RX5) (lv := [(0, .ref (q 0)), (1, .int a1), (2, .int a2)]) (by decide +kernel) rfl rfl xN_ok hq (Nat.le_of_ble_eq_true rfl) rfl (fun X C => ?_)
  refine VF.of hf ?_
  unfold f_X5_differ
  refine v_iload_n C 1 dX5_differ_0 rfl ?_
  refine v_callSP1v C (fun l9 r9 h9 => k_X5_isGame (l := l9) h9) gX5_differ_X5_isGame rfl nI_X5_isGame ⟨rfl, rfl, Nat.le_of_ble_eq_true rfl, Nat.le_of_ble_eq_true rfl⟩ dX5_differ_1 (Nat.le_of_ble_eq_true rfl) (fun r1 => ?_)
  refine v_ifb_eq C (b := r1) dX5_differ_4 (tgt := 14) (by decide) ?_ ?_
  · refine v_iconst C dX5_differ_14 (v := (-1)) (by decide) ?_
    exact v_iret (rvf := fun (res : Int32) => (some (.int res))) (wf := fun (res : Int32) => (xW q cs n nd es kn knd kes img tl ta tn sl bey wt un ed kwt kun ked tb sb sz sbs G K P wk wh)) C dX5_differ_15 rfl rfl
  · refine v_iload_n C 2 dX5_differ_7 rfl ?_
    refine v_callSP1v C (fun l9 r9 h9 => k_X5_isGame (l := l9) h9) gX5_differ_X5_isGame rfl nI_X5_isGame ⟨rfl, rfl, Nat.le_of_ble_eq_true rfl, Nat.le_of_ble_eq_true rfl⟩ dX5_differ_8 (Nat.le_of_ble_eq_true rfl) (fun r2 => ?_)
    refine v_ifb_ne C (b := r2) dX5_differ_11 (tgt := 16) (by decide) ?_ ?_
    · refine v_iconst C dX5_differ_16 (v := 0) (by decide) ?_
      refine v_istore_n C (lv' := [(3, .int 0), (0, .ref (q 0)), (1, .int a1), (2, .int a2)]) dX5_differ_17 rfl (by decide) rfl ?_
      refine v_sub [1, 2, 3, 0] rfl (lp_X5_differ_1 hq C   FU 0)
    · refine v_iconst C dX5_differ_14 (v := (-1)) (by decide) ?_
      exact v_iret (rvf := fun (res : Int32) => (some (.int res))) (wf := fun (res : Int32) => (xW q cs n nd es kn knd kes img tl ta tn sl bey wt un ed kwt kun ked tb sb sz sbs G K P wk wh)) C dX5_differ_15 rfl rfl

def B_X5_isMetBefore_1 (vs : Nat → Int64) (a2 : Int32) (rec1 : Int32 → Option (Bool))  (v2 : Int32) : Option (Bool) :=
if (v2 : Int32) < a2 then (
ck (inb v2 512) (
ck (inb a2 512) (
if (vs v2.toNatClampNeg : Int64) = (vs a2.toNatClampNeg) then (
some true) else (
nm (v2 + 1) (fun (x3 : Int32) =>
rec1 x3))))) else (
some false)
def L_X5_isMetBefore_1 (vs : Nat → Int64) (a2 : Int32)  : Nat → Int32 → Option (Bool)
  | 0, _ => none
  | m9 + 1, v2 => B_X5_isMetBefore_1 vs a2 (L_X5_isMetBefore_1 vs a2 m9)  v2

def f_X5_isMetBefore (vs : Nat → Int64) (a2 : Int32) : Option (Bool) :=
L_X5_isMetBefore_1 vs a2  FU 0

theorem nI_X5_isMetBefore : NameIn yX5_isMetBefore 2 := ⟨by decide +kernel, by decide +kernel, by decide +kernel⟩
set_option maxRecDepth 100000 in
set_option maxHeartbeats 4000000 in
theorem lp_X5_isMetBefore_1 {X : CX} {res : Bool} {a2 : Int32} {vj : Nat}  (hq : (xA q).Nodup) (C : Ok X cX5_isMetBefore 3 (some .boolean) wsX5_isMetBefore RX5 { frames := 0, cells := 0, slots := 0, locals := 0 } D vwCl (xT cs) (xA q) (xN tF) (some (.int (bI res))) (xW q cs n nd es kn knd kes img tl ta tn sl bey wt un ed kwt kun ked tb sb sz sbs G K P wk wh)) (hvj : vj < 4) : ∀ fuel : Nat, ∀ v2 : Int32, VF X res (L_X5_isMetBefore_1 (G vj) a2 fuel v2) (xW q cs n nd es kn knd kes img tl ta tn sl bey wt un ed kwt kun ked tb sb sz sbs G K P wk wh) 2 [(0, .ref (q (22 + vj))), (1, .int a2), (2, .int v2)] [] := by
  intro fuel
  induction fuel with
  | zero =>
    intro _
    exact v_none
  | succ fuel ih =>
    intro v2
    show VF X res (B_X5_isMetBefore_1 (G vj) a2 (L_X5_isMetBefore_1 (G vj) a2 fuel)  v2) _ _ _ _
    unfold B_X5_isMetBefore_1
    refine v_iload_n C 2 dX5_isMetBefore_2 rfl ?_
    refine v_iload_n C 1 dX5_isMetBefore_3 rfl ?_
    refine v_icmp_ge C dX5_isMetBefore_4 (tgt := 25) (by decide) ?_ ?_
    · refine v_iconst C dX5_isMetBefore_25 (v := 0) (by decide) ?_
      exact v_zret (rvf := fun (res : Bool) => (some (.int (bI res)))) (wf := fun (res : Bool) => (xW q cs n nd es kn knd kes img tl ta tn sl bey wt un ed kwt kun ked tb sb sz sbs G K P wk wh)) C dX5_isMetBefore_26 rfl rfl
    · refine v_aload_n C 0 dX5_isMetBefore_7 rfl ?_
      refine v_iload_n C 2 dX5_isMetBefore_8 rfl ?_
      refine v_lald C (22 + vj) 1 (xW_G hvj) rfl dX5_isMetBefore_9 ?_
      refine v_aload_n C 0 dX5_isMetBefore_10 rfl ?_
      refine v_iload_n C 1 dX5_isMetBefore_11 rfl ?_
      refine v_lald C (22 + vj) 1 (xW_G hvj) rfl dX5_isMetBefore_12 ?_
      refine v_lcmp_ne C dX5_isMetBefore_13 dX5_isMetBefore_14 (tgt := 19) (by decide) ?_ ?_
      · refine v_iinc_nm C (lvf := fun x3 => [(2, .int x3), (0, .ref (q (22 + vj))), (1, .int a2)]) 2 dX5_isMetBefore_19 rfl rfl (by decide) (fun _ => rfl) (fun x3 => ?_)
        refine v_goto C dX5_isMetBefore_22 (tgt := 2) (by decide) ?_
        exact v_sub [1, 2, 0] rfl (ih x3)
      · refine v_iconst C dX5_isMetBefore_17 (v := 1) (by decide) ?_
        exact v_zret (rvf := fun (res : Bool) => (some (.int (bI res)))) (wf := fun (res : Bool) => (xW q cs n nd es kn knd kes img tl ta tn sl bey wt un ed kwt kun ked tb sb sz sbs G K P wk wh)) C dX5_isMetBefore_18 rfl rfl

set_option maxRecDepth 100000 in
set_option maxHeartbeats 4000000 in
theorem k_X5_isMetBefore {l : Launch} {a2 : Int32} {vj : Nat} {res : Bool} (hq : (xA q).Nodup) (hvj : vj < 4) (hf : f_X5_isMetBefore (G vj) a2 = some res) : kMet l yX5_isMetBefore wsX5_isMetBefore { frames := 0, cells := 0, slots := 0, locals := 0 } D vwCl (xT cs) (xN tF) (xA q) [.ref (q (22 + vj)), .int a2] (xW q cs n nd es kn knd kes img tl ta tn sl bey wt un ed kwt kun ked tb sb sz sbs G K P wk wh) (some (.int (bI res))) (xW q cs n nd es kn knd kes img tl ta tn sl bey wt un ed kwt kun ked tb sb sz sbs G K P wk wh) := by
  refine kMet.of (cc := cX5_isMetBefore) (nL := 3) (ret := (some .boolean)) (own := RX5) (lv := [(0, .ref (q (22 + vj))), (1, .int a2)]) (by decide +kernel) rfl rfl xN_ok hq (Nat.le_of_ble_eq_true rfl) rfl (fun X C => ?_)
  refine VF.of hf ?_
  unfold f_X5_isMetBefore
  refine v_iconst C dX5_isMetBefore_0 (v := 0) (by decide) ?_
  refine v_istore_n C (lv' := [(2, .int 0), (0, .ref (q (22 + vj))), (1, .int a2)]) dX5_isMetBefore_1 rfl (by decide) rfl ?_
  refine v_sub [1, 2, 0] rfl (lp_X5_isMetBefore_1 hq C hvj  FU 0)

def B_X5_unlike_1 (n : Int32) (G : Nat → Nat → Int64) (a1 : Int32) (rec2 : Int32 → Int32 → Option (Int32))  (v3 : Int32) (v4 : Int32) : Option (Int32) :=
(f_X0_sets n).bind (fun (r5 : Int32) =>
if (v4 : Int32) < r5 then (
ck (inb a1 4) (
(f_X5_isMetBefore (G a1.toNatClampNeg) v4).bind (fun (r7 : Bool) =>
jn1 (fun (v9 : Int32) =>
nm (v4 + 1) (fun (x10 : Int32) =>
rec2 v9 x10)) (fun k8 =>
if r7 = true then (
k8 v3) else (
nm (v3 + 1) (fun (x11 : Int32) =>
k8 x11)))))) else (
some v3))
def L_X5_unlike_1 (n : Int32) (G : Nat → Nat → Int64) (a1 : Int32)  : Nat → Int32 → Int32 → Option (Int32)
  | 0, _, _ => none
  | m9 + 1, v3, v4 => B_X5_unlike_1 n G a1 (L_X5_unlike_1 n G a1 m9)  v3 v4

def f_X5_unlike (n : Int32) (G : Nat → Nat → Int64) (a1 : Int32) : Option (Int32) :=
(f_X5_isGame a1).bind (fun (r1 : Bool) =>
if r1 = true then (
L_X5_unlike_1 n G a1  FU 0 0) else (
some (-1)))

theorem nI_X5_unlike : NameIn yX5_unlike 1 := ⟨by decide +kernel, by decide +kernel, by decide +kernel⟩
set_option maxRecDepth 100000 in
set_option maxHeartbeats 4000000 in
theorem lp_X5_unlike_1 {X : CX} {res : Int32} {a1 : Int32}   (hq : (xA q).Nodup) (C : Ok X cX5_unlike 4 (some .int) wsX5_unlike RX5 { frames := 1, cells := 0, slots := 0, locals := 22 } D vwCl (xT cs) (xA q) (xN tF) (some (.int res)) (xW q cs n nd es kn knd kes img tl ta tn sl bey wt un ed kwt kun ked tb sb sz sbs G K P wk wh))  : ∀ fuel : Nat, ∀ v3 : Int32, ∀ v4 : Int32, VF X res (L_X5_unlike_1 n G a1 fuel v3 v4) (xW q cs n nd es kn knd kes img tl ta tn sl bey wt un ed kwt kun ked tb sb sz sbs G K P wk wh) 13 [(0, .ref (q 0)), (1, .int a1), (2, .int v3), (3, .int v4)] [] := by
  have iX0 : ∀ w ∈ wsX00, w ∈ wsX5_unlike := fun _ h => List.mem_cons_of_mem _ (List.mem_append_right _ h)
  have iX5 : ∀ w ∈ wsX50, w ∈ wsX5_unlike := fun _ h => List.mem_cons_of_mem _ (List.mem_append_left _ (List.mem_append_right _ h))
  intro fuel
  induction fuel with
  | zero =>
    intro _ _
    exact v_none
  | succ fuel ih =>
    intro v3 v4
    show VF X res (B_X5_unlike_1 n G a1 (L_X5_unlike_1 n G a1 fuel)  v3 v4) _ _ _ _
    unfold B_X5_unlike_1
    refine v_iload_n C 3 dX5_unlike_13 rfl ?_
    refine v_aload_n C 0 dX5_unlike_14 rfl ?_
    refine v_get C (T := TX5) (n := 10) (C9 := RX5) iX5 0 rfl rfl 0 (by decide) (List.mem_of_getElem? (i := 1) rfl) rfl rfl dX5_unlike_15 ?_
    refine v_callV0v C 1 rfl rfl rfl (fun l9 r9 h9 => k_X0_sets (l := l9) hq  h9) gX5_unlike_X0_sets rfl nI_X0_sets ⟨rfl, rfl, Nat.le_of_ble_eq_true rfl, Nat.le_of_ble_eq_true rfl⟩ dX5_unlike_18 (Nat.le_of_ble_eq_true rfl) (fun r5 => ?_)
    refine v_icmp_ge C dX5_unlike_21 (tgt := 49) (by decide) ?_ ?_
    · refine v_iload_n C 2 dX5_unlike_49 rfl ?_
      exact v_iret (rvf := fun (res : Int32) => (some (.int res))) (wf := fun (res : Int32) => (xW q cs n nd es kn knd kes img tl ta tn sl bey wt un ed kwt kun ked tb sb sz sbs G K P wk wh)) C dX5_unlike_50 rfl rfl
    · refine v_aload_n C 0 dX5_unlike_24 rfl ?_
      refine v_get C (T := TX5) (n := 10) (C9 := RX5) iX5 0 rfl rfl 0 (by decide) (List.mem_of_getElem? (i := 1) rfl) rfl rfl dX5_unlike_25 ?_
      refine v_get C (T := TX0) (n := 7) (C9 := RX0) iX0 1 rfl rfl 6 (by decide) (List.mem_of_getElem? (i := 2) rfl) rfl rfl dX5_unlike_28 ?_
      refine v_iload_n C 1 dX5_unlike_31 rfl ?_
      refine v_aalda C (ad := fun j9 => q (22 + j9)) 10 3 rfl rfl (fun _ h9 => if_pos h9) dX5_unlike_32 (fun hb6 => ?_)
      have hj6 := inb_lt hb6
      refine v_iload_n C 3 dX5_unlike_33 rfl ?_
      refine v_callS2v C (fun l9 r9 h9 => k_X5_isMetBefore (l := l9) hq hj6 h9) gX5_unlike_X5_isMetBefore rfl nI_X5_isMetBefore ⟨rfl, rfl, Nat.le_of_ble_eq_true rfl, Nat.le_of_ble_eq_true rfl⟩ dX5_unlike_34 (Nat.le_of_ble_eq_true rfl) (fun r7 => ?_)
      refine v_jn1 (wj := (fun v9 => (xW q cs n nd es kn knd kes img tl ta tn sl bey wt un ed kwt kun ked tb sb sz sbs G K P wk wh))) (pcj := 43) (lvj := (fun v9 => [(0, .ref (q 0)), (1, .int a1), (2, .int v9), (3, .int v4)])) (stj := (fun v9 => [])) (fun v9 => ?_) (fun k8 hk8 => ?_)
      · refine v_iinc_nm C (lvf := fun x10 => [(3, .int x10), (0, .ref (q 0)), (1, .int a1), (2, .int v9)]) 3 dX5_unlike_43 rfl rfl (by decide) (fun _ => rfl) (fun x10 => ?_)
        refine v_goto C dX5_unlike_46 (tgt := 13) (by decide) ?_
        exact v_sub [1, 2, 3, 0] rfl (ih v9 x10)
      · refine v_ifb_ne C (b := r7) dX5_unlike_37 (tgt := 43) (by decide) ?_ ?_
        · exact v_sub [0, 1, 2, 3] rfl (hk8 v3)
        · refine v_iinc_nm C (lvf := fun x11 => [(2, .int x11), (0, .ref (q 0)), (1, .int a1), (3, .int v4)]) 2 dX5_unlike_40 rfl rfl (by decide) (fun _ => rfl) (fun x11 => ?_)
          exact v_sub [1, 2, 0, 3] rfl (hk8 x11)

set_option maxRecDepth 100000 in
set_option maxHeartbeats 4000000 in
theorem k_X5_unlike {l : Launch} {a1 : Int32}  {res : Int32} (hq : (xA q).Nodup)  (hf : f_X5_unlike n G a1 = some res) : kMet l yX5_unlike wsX5_unlike { frames := 1, cells := 0, slots := 0, locals := 22 } D vwCl (xT cs) (xN tF) (xA q) [.ref (q 0), .int a1] (xW q cs n nd es kn knd kes img tl ta tn sl bey wt un ed kwt kun ked tb sb sz sbs G K P wk wh) (some (.int res)) (xW q cs n nd es kn knd kes img tl ta tn sl bey wt un ed kwt kun ked tb sb sz sbs G K P wk wh) := by
  refine kMet.of (cc := cX5_unlike) (nL := 4) (ret := (some .int)) (own := RX5) (lv := [(0, .ref (q 0)), (1, .int a1)]) (by decide +kernel) rfl rfl xN_ok hq (Nat.le_of_ble_eq_true rfl) rfl (fun X C => ?_)
  refine VF.of hf ?_
  unfold f_X5_unlike
  refine v_iload_n C 1 dX5_unlike_0 rfl ?_
  refine v_callSP1v C (fun l9 r9 h9 => k_X5_isGame (l := l9) h9) gX5_unlike_X5_isGame rfl nI_X5_isGame ⟨rfl, rfl, Nat.le_of_ble_eq_true rfl, Nat.le_of_ble_eq_true rfl⟩ dX5_unlike_1 (Nat.le_of_ble_eq_true rfl) (fun r1 => ?_)
  refine v_ifb_ne C (b := r1) dX5_unlike_4 (tgt := 9) (by decide) ?_ ?_
  · refine v_iconst C dX5_unlike_9 (v := 0) (by decide) ?_
    refine v_istore_n C (lv' := [(2, .int 0), (0, .ref (q 0)), (1, .int a1)]) dX5_unlike_10 rfl (by decide) rfl ?_
    refine v_iconst C dX5_unlike_11 (v := 0) (by decide) ?_
    refine v_istore_n C (lv' := [(3, .int 0), (2, .int 0), (0, .ref (q 0)), (1, .int a1)]) dX5_unlike_12 rfl (by decide) rfl ?_
    refine v_sub [2, 3, 1, 0] rfl (lp_X5_unlike_1 hq C   FU 0 0)
  · refine v_iconst C dX5_unlike_7 (v := (-1)) (by decide) ?_
    exact v_iret (rvf := fun (res : Int32) => (some (.int res))) (wf := fun (res : Int32) => (xW q cs n nd es kn knd kes img tl ta tn sl bey wt un ed kwt kun ked tb sb sz sbs G K P wk wh)) C dX5_unlike_8 rfl rfl

def f_X5_partnerAt (n : Int32) (sz : Nat → Int32) (P : Nat → Nat → Int64) (a1 : Int32) (a2 : Int32) : Option (Int32) :=
(f_X3_holds sz a1 a2 1).bind (fun (r1 : Bool) =>
jn1 (fun (v3 : Int64) =>
jn0 (some (-1)) (fun k4 =>
if (v3 : Int64) < 0 then (
k4) else (
if (v3 : Int64) < n.toInt64 then (
some v3.toInt32) else (
k4)))) (fun k2 =>
if r1 = true then (
ck (inb a1 4) (
ck (inb a2 20) (
k2 ((P a1.toNatClampNeg) a2.toNatClampNeg)))) else (
k2 (-1))))

theorem nI_X5_partnerAt : NameIn yX5_partnerAt 2 := ⟨by decide +kernel, by decide +kernel, by decide +kernel⟩
set_option maxRecDepth 100000 in
set_option maxHeartbeats 4000000 in
theorem k_X5_partnerAt {l : Launch} {a1 : Int32} {a2 : Int32}  {res : Int32} (hq : (xA q).Nodup)  (hf : f_X5_partnerAt n sz P a1 a2 = some res) : kMet l yX5_partnerAt wsX5_partnerAt { frames := 2, cells := 0, slots := 0, locals := 43 } D vwCl (xT cs) (xN tF) (xA q) [.ref (q 0), .int a1, .int a2] (xW q cs n nd es kn knd kes img tl ta tn sl bey wt un ed kwt kun ked tb sb sz sbs G K P wk wh) (some (.int res)) (xW q cs n nd es kn knd kes img tl ta tn sl bey wt un ed kwt kun ked tb sb sz sbs G K P wk wh) := by
  have iX0 : ∀ w ∈ wsX00, w ∈ wsX5_partnerAt := fun _ h => List.mem_cons_of_mem _ (List.mem_append_right _ h)
  have iX3 : ∀ w ∈ wsX30, w ∈ wsX5_partnerAt := fun _ h => List.mem_cons_of_mem _ (List.mem_append_left _ (List.mem_append_right _ h))
  have iX5 : ∀ w ∈ wsX50, w ∈ wsX5_partnerAt := fun _ h => List.mem_cons_of_mem _ (List.mem_append_left _ (List.mem_append_left _ (List.mem_append_right _ h)))
  refine kMet.of (cc := cX5_partnerAt) (nL := 5) (ret := (some .int)) (own := RX5) (lv := [(0, .ref (q 0)), (1, .int a1), (2, .int a2)]) (by decide +kernel) rfl rfl xN_ok hq (Nat.le_of_ble_eq_true rfl) rfl (fun X C => ?_)
  refine VF.of hf ?_
  unfold f_X5_partnerAt
  refine v_aload_n C 0 dX5_partnerAt_0 rfl ?_
  refine v_get C (T := TX5) (n := 10) (C9 := RX5) iX5 0 rfl rfl 5 (by decide) (List.mem_of_getElem? (i := 1) rfl) rfl rfl dX5_partnerAt_1 ?_
  refine v_iload_n C 1 dX5_partnerAt_4 rfl ?_
  refine v_iload_n C 2 dX5_partnerAt_5 rfl ?_
  refine v_iconst C dX5_partnerAt_6 (v := 1) (by decide) ?_
  refine v_callV3v C 5 rfl rfl rfl (fun l9 r9 h9 => k_X3_holds (l := l9) hq  h9) gX5_partnerAt_X3_holds rfl nI_X3_holds ⟨rfl, rfl, Nat.le_of_ble_eq_true rfl, Nat.le_of_ble_eq_true rfl⟩ dX5_partnerAt_7 (Nat.le_of_ble_eq_true rfl) (fun r1 => ?_)
  refine v_jn1 (wj := (fun v3 => (xW q cs n nd es kn knd kes img tl ta tn sl bey wt un ed kwt kun ked tb sb sz sbs G K P wk wh))) (pcj := 30) (lvj := (fun v3 => [(0, .ref (q 0))])) (stj := (fun v3 => [.long v3])) (fun v3 => ?_) (fun k2 hk2 => ?_)
  · refine v_lstore_n C (lv' := [(3, .long v3), (0, .ref (q 0))]) dX5_partnerAt_30 rfl (by decide) rfl ?_
    refine v_lload_n C 0 dX5_partnerAt_31 rfl ?_
    refine v_lconst C dX5_partnerAt_32 (v := 0) (by decide) ?_
    refine v_jn0 (wj := ((xW q cs n nd es kn knd kes img tl ta tn sl bey wt un ed kwt kun ked tb sb sz sbs G K P wk wh))) (pcj := 55) (lvj := ([])) (stj := ([])) ?_ (fun k4 hk4 => ?_)
    · refine v_iconst C dX5_partnerAt_55 (v := (-1)) (by decide) ?_
      exact v_iret (rvf := fun (res : Int32) => (some (.int res))) (wf := fun (res : Int32) => (xW q cs n nd es kn knd kes img tl ta tn sl bey wt un ed kwt kun ked tb sb sz sbs G K P wk wh)) C dX5_partnerAt_56 rfl rfl
    · refine v_lcmp_lt C dX5_partnerAt_33 dX5_partnerAt_34 (tgt := 55) (by decide) ?_ ?_
      · exact v_sub [] rfl (hk4)
      · refine v_lload_n C 0 dX5_partnerAt_37 rfl ?_
        refine v_aload_n C 1 dX5_partnerAt_38 rfl ?_
        refine v_get C (T := TX5) (n := 10) (C9 := RX5) iX5 0 rfl rfl 0 (by decide) (List.mem_of_getElem? (i := 4) rfl) rfl rfl dX5_partnerAt_39 ?_
        refine v_get C (T := TX0) (n := 7) (C9 := RX0) iX0 1 rfl rfl 0 (by decide) (List.mem_of_getElem? (i := 5) rfl) rfl rfl dX5_partnerAt_42 ?_
        refine v_i2l C dX5_partnerAt_45 ?_
        refine v_lcmp_ge C dX5_partnerAt_46 dX5_partnerAt_47 (tgt := 55) (by decide) ?_ ?_
        · exact v_sub [] rfl (hk4)
        · refine v_lload_n C 0 dX5_partnerAt_50 rfl ?_
          refine v_l2i C dX5_partnerAt_51 ?_
          refine v_goto C dX5_partnerAt_52 (tgt := 56) (by decide) ?_
          exact v_iret (rvf := fun (res : Int32) => (some (.int res))) (wf := fun (res : Int32) => (xW q cs n nd es kn knd kes img tl ta tn sl bey wt un ed kwt kun ked tb sb sz sbs G K P wk wh)) C dX5_partnerAt_56 rfl rfl
  · refine v_ifb_eq C (b := r1) dX5_partnerAt_10 (tgt := 27) (by decide) ?_ ?_
    · refine v_ldc2 C (v := (-1)) (List.mem_of_getElem? (i := 3) rfl) dX5_partnerAt_27 ?_
      exact v_sub [0] rfl (hk2 (-1))
    · refine v_aload_n C 0 dX5_partnerAt_13 rfl ?_
      refine v_get C (T := TX5) (n := 10) (C9 := RX5) iX5 0 rfl rfl 5 (by decide) (List.mem_of_getElem? (i := 1) rfl) rfl rfl dX5_partnerAt_14 ?_
      refine v_get C (T := TX3) (n := 2) (C9 := RX3) iX3 5 rfl rfl 0 (by decide) (List.mem_of_getElem? (i := 2) rfl) rfl rfl dX5_partnerAt_17 ?_
      refine v_iload_n C 1 dX5_partnerAt_20 rfl ?_
      refine v_aalda C (ad := fun j9 => q (30 + j9)) 17 3 rfl rfl (fun _ h9 => if_pos h9) dX5_partnerAt_21 (fun hb5 => ?_)
      have hj5 := inb_lt hb5
      refine v_iload_n C 2 dX5_partnerAt_22 rfl ?_
      refine v_lald C (30 + a1.toNatClampNeg) 1 (xW_P hj5) rfl dX5_partnerAt_23 ?_
      refine v_goto C dX5_partnerAt_24 (tgt := 30) (by decide) ?_
      exact v_sub [0] rfl (hk2 ((P a1.toNatClampNeg) a2.toNatClampNeg))

def B_X5_isOrder_1 (n : Int32) (sz : Nat → Int32) (P : Nat → Nat → Int64) (a1 : Int32) (a2 : Int32) (rec2 : Int32 → Int32 → Option (Bool)) (kx3 : Int32 → Option (Bool)) (v4 : Int32) (v5 : Int32) : Option (Bool) :=
if (v5 : Int32) < n then (
(f_X5_partnerAt n sz P a1 (a2 + v5)).bind (fun (r6 : Int32) =>
if (r6 : Int32) = (-1) then (
some false) else (
nm (v4 ||| (1 <<< (r6 &&& 31))) (fun (x7 : Int32) =>
nm (v5 + 1) (fun (x8 : Int32) =>
rec2 x7 x8))))) else (
kx3 v4)
def L_X5_isOrder_1 (n : Int32) (sz : Nat → Int32) (P : Nat → Nat → Int64) (a1 : Int32) (a2 : Int32) (kx3 : Int32 → Option (Bool)) : Nat → Int32 → Int32 → Option (Bool)
  | 0, _, _ => none
  | m9 + 1, v4, v5 => B_X5_isOrder_1 n sz P a1 a2 (L_X5_isOrder_1 n sz P a1 a2 kx3 m9) kx3 v4 v5

def f_X5_isOrder (n : Int32) (sz : Nat → Int32) (P : Nat → Nat → Int64) (a1 : Int32) (a2 : Int32) : Option (Bool) :=
(f_X3_holds sz a1 a2 n).bind (fun (r1 : Bool) =>
if r1 = true then (
L_X5_isOrder_1 n sz P a1 a2 (fun (v9 : Int32) =>
(f_X0_everyone n).bind (fun (r10 : Int32) =>
if (v9 : Int32) = r10 then (
some true) else (
some false))) FU 0 0) else (
some false))

theorem nI_X5_isOrder : NameIn yX5_isOrder 2 := ⟨by decide +kernel, by decide +kernel, by decide +kernel⟩
set_option maxRecDepth 100000 in
set_option maxHeartbeats 4000000 in
theorem lp_X5_isOrder_1 {X : CX} {res : Bool} {a1 : Int32} {a2 : Int32}   (hq : (xA q).Nodup) (C : Ok X cX5_isOrder 6 (some .boolean) wsX5_isOrder RX5 { frames := 3, cells := 0, slots := 0, locals := 67 } D vwCl (xT cs) (xA q) (xN tF) (some (.int (bI res))) (xW q cs n nd es kn knd kes img tl ta tn sl bey wt un ed kwt kun ked tb sb sz sbs G K P wk wh))  (kx3 : Int32 → Option (Bool)) (Jkx3 : ∀ y3 : Int32, VF X res (kx3 y3) (xW q cs n nd es kn knd kes img tl ta tn sl bey wt un ed kwt kun ked tb sb sz sbs G K P wk wh) 70 [(0, .ref (q 0)), (3, .int y3)] []) : ∀ fuel : Nat, ∀ v4 : Int32, ∀ v5 : Int32, VF X res (L_X5_isOrder_1 n sz P a1 a2 kx3 fuel v4 v5) (xW q cs n nd es kn knd kes img tl ta tn sl bey wt un ed kwt kun ked tb sb sz sbs G K P wk wh) 26 [(0, .ref (q 0)), (1, .int a1), (2, .int a2), (3, .int v4), (4, .int v5)] [] := by
  have iX0 : ∀ w ∈ wsX00, w ∈ wsX5_isOrder := fun _ h => List.mem_cons_of_mem _ (List.mem_append_left _ (List.mem_append_right _ h))
  have iX5 : ∀ w ∈ wsX50, w ∈ wsX5_isOrder := fun _ h => List.mem_cons_of_mem _ (List.mem_append_left _ (List.mem_append_left _ (List.mem_append_right _ h)))
  intro fuel
  induction fuel with
  | zero =>
    intro _ _
    exact v_none
  | succ fuel ih =>
    intro v4 v5
    show VF X res (B_X5_isOrder_1 n sz P a1 a2 (L_X5_isOrder_1 n sz P a1 a2 kx3 fuel) kx3 v4 v5) _ _ _ _
    unfold B_X5_isOrder_1
    refine v_iload C 4 dX5_isOrder_26 rfl ?_
    refine v_aload_n C 0 dX5_isOrder_28 rfl ?_
    refine v_get C (T := TX5) (n := 10) (C9 := RX5) iX5 0 rfl rfl 0 (by decide) (List.mem_of_getElem? (i := 2) rfl) rfl rfl dX5_isOrder_29 ?_
    refine v_get C (T := TX0) (n := 7) (C9 := RX0) iX0 1 rfl rfl 0 (by decide) (List.mem_of_getElem? (i := 3) rfl) rfl rfl dX5_isOrder_32 ?_
    refine v_icmp_ge C dX5_isOrder_35 (tgt := 70) (by decide) ?_ ?_
    · exact v_sub [0, 3] rfl (Jkx3 v4)
    · refine v_aload_n C 0 dX5_isOrder_38 rfl ?_
      refine v_iload_n C 1 dX5_isOrder_39 rfl ?_
      refine v_iload_n C 2 dX5_isOrder_40 rfl ?_
      refine v_iload C 4 dX5_isOrder_41 rfl ?_
      refine v_iadd C dX5_isOrder_43 ?_
      refine v_callV2v C 0 rfl rfl rfl (fun l9 r9 h9 => k_X5_partnerAt (l := l9) hq  h9) gX5_isOrder_X5_partnerAt rfl nI_X5_partnerAt ⟨rfl, rfl, Nat.le_of_ble_eq_true rfl, Nat.le_of_ble_eq_true rfl⟩ dX5_isOrder_44 (Nat.le_of_ble_eq_true rfl) (fun r6 => ?_)
      refine v_istore C (lv' := [(5, .int r6), (0, .ref (q 0)), (1, .int a1), (2, .int a2), (3, .int v4), (4, .int v5)]) dX5_isOrder_47 (by decide) rfl ?_
      refine v_iload C 0 dX5_isOrder_49 rfl ?_
      refine v_iconst C dX5_isOrder_51 (v := (-1)) (by decide) ?_
      refine v_icmp_ne C dX5_isOrder_52 (tgt := 57) (by decide) ?_ ?_
      · refine v_iload_n C 4 dX5_isOrder_57 rfl ?_
        refine v_iconst C dX5_isOrder_58 (v := 1) (by decide) ?_
        refine v_iload C 0 dX5_isOrder_59 rfl ?_
        refine v_ishl C dX5_isOrder_61 ?_
        refine v_ior C dX5_isOrder_62 ?_
        refine v_istore_n_nm C (lvf := fun x7 => [(3, .int x7), (5, .int r6), (0, .ref (q 0)), (1, .int a1), (2, .int a2), (4, .int v5)]) dX5_isOrder_63 rfl (by decide) (fun _ => rfl) (fun x7 => ?_)
        refine v_iinc_nm C (lvf := fun x8 => [(4, .int x8), (3, .int x7), (5, .int r6), (0, .ref (q 0)), (1, .int a1), (2, .int a2)]) 5 dX5_isOrder_64 rfl rfl (by decide) (fun _ => rfl) (fun x8 => ?_)
        refine v_goto C dX5_isOrder_67 (tgt := 26) (by decide) ?_
        exact v_sub [3, 4, 5, 1, 0] rfl (ih x7 x8)
      · refine v_iconst C dX5_isOrder_55 (v := 0) (by decide) ?_
        exact v_zret (rvf := fun (res : Bool) => (some (.int (bI res)))) (wf := fun (res : Bool) => (xW q cs n nd es kn knd kes img tl ta tn sl bey wt un ed kwt kun ked tb sb sz sbs G K P wk wh)) C dX5_isOrder_56 rfl rfl

set_option maxRecDepth 100000 in
set_option maxHeartbeats 4000000 in
theorem k_X5_isOrder {l : Launch} {a1 : Int32} {a2 : Int32}  {res : Bool} (hq : (xA q).Nodup)  (hf : f_X5_isOrder n sz P a1 a2 = some res) : kMet l yX5_isOrder wsX5_isOrder { frames := 3, cells := 0, slots := 0, locals := 67 } D vwCl (xT cs) (xN tF) (xA q) [.ref (q 0), .int a1, .int a2] (xW q cs n nd es kn knd kes img tl ta tn sl bey wt un ed kwt kun ked tb sb sz sbs G K P wk wh) (some (.int (bI res))) (xW q cs n nd es kn knd kes img tl ta tn sl bey wt un ed kwt kun ked tb sb sz sbs G K P wk wh) := by
  have iX0 : ∀ w ∈ wsX00, w ∈ wsX5_isOrder := fun _ h => List.mem_cons_of_mem _ (List.mem_append_left _ (List.mem_append_right _ h))
  have iX5 : ∀ w ∈ wsX50, w ∈ wsX5_isOrder := fun _ h => List.mem_cons_of_mem _ (List.mem_append_left _ (List.mem_append_left _ (List.mem_append_right _ h)))
  refine kMet.of (cc := cX5_isOrder) (nL := 6) (ret := (some .boolean)) (own := RX5) (lv := [(0, .ref (q 0)), (1, .int a1), (2, .int a2)]) (by decide +kernel) rfl rfl xN_ok hq (Nat.le_of_ble_eq_true rfl) rfl (fun X C => ?_)
  refine VF.of hf ?_
  unfold f_X5_isOrder
  refine v_aload_n C 0 dX5_isOrder_0 rfl ?_
  refine v_get C (T := TX5) (n := 10) (C9 := RX5) iX5 0 rfl rfl 5 (by decide) (List.mem_of_getElem? (i := 1) rfl) rfl rfl dX5_isOrder_1 ?_
  refine v_iload_n C 1 dX5_isOrder_4 rfl ?_
  refine v_iload_n C 2 dX5_isOrder_5 rfl ?_
  refine v_aload_n C 0 dX5_isOrder_6 rfl ?_
  refine v_get C (T := TX5) (n := 10) (C9 := RX5) iX5 0 rfl rfl 0 (by decide) (List.mem_of_getElem? (i := 2) rfl) rfl rfl dX5_isOrder_7 ?_
  refine v_get C (T := TX0) (n := 7) (C9 := RX0) iX0 1 rfl rfl 0 (by decide) (List.mem_of_getElem? (i := 3) rfl) rfl rfl dX5_isOrder_10 ?_
  refine v_callV3v C 5 rfl rfl rfl (fun l9 r9 h9 => k_X3_holds (l := l9) hq  h9) gX5_isOrder_X3_holds rfl nI_X3_holds ⟨rfl, rfl, Nat.le_of_ble_eq_true rfl, Nat.le_of_ble_eq_true rfl⟩ dX5_isOrder_13 (Nat.le_of_ble_eq_true rfl) (fun r1 => ?_)
  refine v_ifb_ne C (b := r1) dX5_isOrder_16 (tgt := 21) (by decide) ?_ ?_
  · refine v_iconst C dX5_isOrder_21 (v := 0) (by decide) ?_
    refine v_istore_n C (lv' := [(3, .int 0), (0, .ref (q 0)), (1, .int a1), (2, .int a2)]) dX5_isOrder_22 rfl (by decide) rfl ?_
    refine v_iconst C dX5_isOrder_23 (v := 0) (by decide) ?_
    refine v_istore C (lv' := [(4, .int 0), (3, .int 0), (0, .ref (q 0)), (1, .int a1), (2, .int a2)]) dX5_isOrder_24 (by decide) rfl ?_
    refine v_sub [2, 3, 4, 1, 0] rfl (lp_X5_isOrder_1 hq C  _ (fun v9 => ?_) FU 0 0)
    refine v_iload_n C 1 dX5_isOrder_70 rfl ?_
    refine v_aload_n C 0 dX5_isOrder_71 rfl ?_
    refine v_get C (T := TX5) (n := 10) (C9 := RX5) iX5 0 rfl rfl 0 (by decide) (List.mem_of_getElem? (i := 2) rfl) rfl rfl dX5_isOrder_72 ?_
    refine v_callV0v C 1 rfl rfl rfl (fun l9 r9 h9 => k_X0_everyone (l := l9) hq  h9) gX5_isOrder_X0_everyone rfl nI_X0_everyone ⟨rfl, rfl, Nat.le_of_ble_eq_true rfl, Nat.le_of_ble_eq_true rfl⟩ dX5_isOrder_75 (Nat.le_of_ble_eq_true rfl) (fun r10 => ?_)
    refine v_icmp_ne C dX5_isOrder_78 (tgt := 85) (by decide) ?_ ?_
    · refine v_iconst C dX5_isOrder_85 (v := 0) (by decide) ?_
      exact v_zret (rvf := fun (res : Bool) => (some (.int (bI res)))) (wf := fun (res : Bool) => (xW q cs n nd es kn knd kes img tl ta tn sl bey wt un ed kwt kun ked tb sb sz sbs G K P wk wh)) C dX5_isOrder_86 rfl rfl
    · refine v_iconst C dX5_isOrder_81 (v := 1) (by decide) ?_
      refine v_goto C dX5_isOrder_82 (tgt := 86) (by decide) ?_
      exact v_zret (rvf := fun (res : Bool) => (some (.int (bI res)))) (wf := fun (res : Bool) => (xW q cs n nd es kn knd kes img tl ta tn sl bey wt un ed kwt kun ked tb sb sz sbs G K P wk wh)) C dX5_isOrder_86 rfl rfl
  · refine v_iconst C dX5_isOrder_19 (v := 0) (by decide) ?_
    exact v_zret (rvf := fun (res : Bool) => (some (.int (bI res)))) (wf := fun (res : Bool) => (xW q cs n nd es kn knd kes img tl ta tn sl bey wt un ed kwt kun ked tb sb sz sbs G K P wk wh)) C dX5_isOrder_20 rfl rfl

def B_X5_adds_1 (n : Int32) (sz : Nat → Int32) (P : Nat → Nat → Int64) (a2 : Int32) (a3 : Int32) (a4 : Int32) (rec4 : Int32 → Int32 → Option (Int64 × Bool)) (kx5 : Int32 → Option (Int64 × Bool)) (v6 : Int32) (v7 : Int32) : Option (Int64 × Bool) :=
if (v7 : Int32) < a4 then (
(f_X5_partnerAt n sz P a2 (a3 + v7)).bind (fun (r8 : Int32) =>
nm (v6 ||| (1 <<< (r8 &&& 31))) (fun (x9 : Int32) =>
nm (v7 + 1) (fun (x10 : Int32) =>
rec4 x9 x10)))) else (
kx5 v6)
def L_X5_adds_1 (n : Int32) (sz : Nat → Int32) (P : Nat → Nat → Int64) (a2 : Int32) (a3 : Int32) (a4 : Int32) (kx5 : Int32 → Option (Int64 × Bool)) : Nat → Int32 → Int32 → Option (Int64 × Bool)
  | 0, _, _ => none
  | m9 + 1, v6, v7 => B_X5_adds_1 n sz P a2 a3 a4 (L_X5_adds_1 n sz P a2 a3 a4 kx5 m9) kx5 v6 v7

def f_X5_adds (n : Int32) (bey : Bool) (sz : Nat → Int32) (G : Nat → Nat → Int64) (P : Nat → Nat → Int64) (a1 : Int32) (a2 : Int32) (a3 : Int32) (a4 : Int32) : Option (Int64 × Bool) :=
(f_X5_isGame a1).bind (fun (r1 : Bool) =>
if r1 = true then (
(f_X5_isOrder n sz P a2 a3).bind (fun (r2 : Bool) =>
if r2 = true then (
(f_X0_hasPartner n a4).bind (fun (r3 : Bool) =>
if r3 = true then (
L_X5_adds_1 n sz P a2 a3 a4 (fun (v11 : Int32) =>
(f_X5_partnerAt n sz P a2 (a3 + a4)).bind (fun (r12 : Int32) =>
nm (v11 ||| (1 <<< (r12 &&& 31))) (fun (x13 : Int32) =>
(f_X1_begin bey).bind (fun (r14 : Bool) =>
ck (inb a1 4) (
ck (inb x13 512) (
ck (inb a1 4) (
ck (inb v11 512) (
(f_X1_less r14 ((G a1.toNatClampNeg) x13.toNatClampNeg) ((G a1.toNatClampNeg) v11.toNatClampNeg)).bind (fun (r17 : Int64 × Bool) =>
if r17.2 = true then (
some ((-9223372036854775808), r17.2)) else (
some (r17.1, r17.2))))))))))) FU 0 0) else (
some ((-9223372036854775808), bey)))) else (
some ((-9223372036854775808), bey)))) else (
some ((-9223372036854775808), bey)))

theorem nI_X5_adds : NameIn yX5_adds 4 := ⟨by decide +kernel, by decide +kernel, by decide +kernel⟩
set_option maxRecDepth 100000 in
set_option maxHeartbeats 4000000 in
theorem lp_X5_adds_1 {X : CX} {res : Int64 × Bool} {a1 : Int32} {a2 : Int32} {a3 : Int32} {a4 : Int32}   (hq : (xA q).Nodup) (C : Ok X cX5_adds 9 (some .long) wsX5_adds RX5 { frames := 4, cells := 0, slots := 0, locals := 92 } D vwCl (xT cs) (xA q) (xN tF) (some (.long res.1)) (xW q cs n nd es kn knd kes img tl ta tn sl res.2 wt un ed kwt kun ked tb sb sz sbs G K P wk wh))  (kx5 : Int32 → Option (Int64 × Bool)) (Jkx5 : ∀ y5 : Int32, VF X res (kx5 y5) (xW q cs n nd es kn knd kes img tl ta tn sl bey wt un ed kwt kun ked tb sb sz sbs G K P wk wh) 67 [(0, .ref (q 0)), (1, .int a1), (2, .int a2), (3, .int a3), (4, .int a4), (5, .int y5)] []) : ∀ fuel : Nat, ∀ v6 : Int32, ∀ v7 : Int32, VF X res (L_X5_adds_1 n sz P a2 a3 a4 kx5 fuel v6 v7) (xW q cs n nd es kn knd kes img tl ta tn sl bey wt un ed kwt kun ked tb sb sz sbs G K P wk wh) 38 [(0, .ref (q 0)), (1, .int a1), (2, .int a2), (3, .int a3), (4, .int a4), (5, .int v6), (6, .int v7)] [] := by
  intro fuel
  induction fuel with
  | zero =>
    intro _ _
    exact v_none
  | succ fuel ih =>
    intro v6 v7
    show VF X res (B_X5_adds_1 n sz P a2 a3 a4 (L_X5_adds_1 n sz P a2 a3 a4 kx5 fuel) kx5 v6 v7) _ _ _ _
    unfold B_X5_adds_1
    refine v_iload C 6 dX5_adds_38 rfl ?_
    refine v_iload C 4 dX5_adds_40 rfl ?_
    refine v_icmp_ge C dX5_adds_42 (tgt := 67) (by decide) ?_ ?_
    · exact v_sub [0, 1, 2, 3, 4, 5] rfl (Jkx5 v6)
    · refine v_iload C 5 dX5_adds_45 rfl ?_
      refine v_iconst C dX5_adds_47 (v := 1) (by decide) ?_
      refine v_aload_n C 0 dX5_adds_48 rfl ?_
      refine v_iload_n C 2 dX5_adds_49 rfl ?_
      refine v_iload_n C 3 dX5_adds_50 rfl ?_
      refine v_iload C 6 dX5_adds_51 rfl ?_
      refine v_iadd C dX5_adds_53 ?_
      refine v_callV2v C 0 rfl rfl rfl (fun l9 r9 h9 => k_X5_partnerAt (l := l9) hq  h9) gX5_adds_X5_partnerAt rfl nI_X5_partnerAt ⟨rfl, rfl, Nat.le_of_ble_eq_true rfl, Nat.le_of_ble_eq_true rfl⟩ dX5_adds_54 (Nat.le_of_ble_eq_true rfl) (fun r8 => ?_)
      refine v_ishl C dX5_adds_57 ?_
      refine v_ior C dX5_adds_58 ?_
      refine v_istore_nm C (lvf := fun x9 => [(5, .int x9), (0, .ref (q 0)), (1, .int a1), (2, .int a2), (3, .int a3), (4, .int a4), (6, .int v7)]) dX5_adds_59 (by decide) (fun _ => rfl) (fun x9 => ?_)
      refine v_iinc_nm C (lvf := fun x10 => [(6, .int x10), (5, .int x9), (0, .ref (q 0)), (1, .int a1), (2, .int a2), (3, .int a3), (4, .int a4)]) 6 dX5_adds_61 rfl rfl (by decide) (fun _ => rfl) (fun x10 => ?_)
      refine v_goto C dX5_adds_64 (tgt := 38) (by decide) ?_
      exact v_sub [2, 3, 4, 5, 6, 1, 0] rfl (ih x9 x10)

set_option maxRecDepth 100000 in
set_option maxHeartbeats 4000000 in
theorem k_X5_adds {l : Launch} {a1 : Int32} {a2 : Int32} {a3 : Int32} {a4 : Int32}  {res : Int64 × Bool} (hq : (xA q).Nodup)  (hf : f_X5_adds n bey sz G P a1 a2 a3 a4 = some res) : kMet l yX5_adds wsX5_adds { frames := 4, cells := 0, slots := 0, locals := 92 } D vwCl (xT cs) (xN tF) (xA q) [.ref (q 0), .int a1, .int a2, .int a3, .int a4] (xW q cs n nd es kn knd kes img tl ta tn sl bey wt un ed kwt kun ked tb sb sz sbs G K P wk wh) (some (.long res.1)) (xW q cs n nd es kn knd kes img tl ta tn sl res.2 wt un ed kwt kun ked tb sb sz sbs G K P wk wh) := by
  have iX0 : ∀ w ∈ wsX00, w ∈ wsX5_adds := fun _ h => List.mem_cons_of_mem _ (List.mem_append_left _ (List.mem_append_left _ (List.mem_append_right _ h)))
  have iX1 : ∀ w ∈ wsX10, w ∈ wsX5_adds := fun _ h => List.mem_cons_of_mem _ (List.mem_append_left _ (List.mem_append_right _ h))
  have iX5 : ∀ w ∈ wsX50, w ∈ wsX5_adds := fun _ h => List.mem_cons_of_mem _ (List.mem_append_left _ (List.mem_append_left _ (List.mem_append_left _ (List.mem_append_right _ h))))
  refine kMet.of (cc := cX5_adds) (nL := 9) (ret := (some .long)) (own := RX5) (lv := [(0, .ref (q 0)), (1, .int a1), (2, .int a2), (3, .int a3), (4, .int a4)]) (by decide +kernel) rfl rfl xN_ok hq (Nat.le_of_ble_eq_true rfl) rfl (fun X C => ?_)
  refine VF.of hf ?_
  unfold f_X5_adds
  refine v_iload_n C 1 dX5_adds_0 rfl ?_
  refine v_callSP1v C (fun l9 r9 h9 => k_X5_isGame (l := l9) h9) gX5_adds_X5_isGame rfl nI_X5_isGame ⟨rfl, rfl, Nat.le_of_ble_eq_true rfl, Nat.le_of_ble_eq_true rfl⟩ dX5_adds_1 (Nat.le_of_ble_eq_true rfl) (fun r1 => ?_)
  refine v_ifb_eq C (b := r1) dX5_adds_4 (tgt := 28) (by decide) ?_ ?_
  · refine v_ldc2 C (v := (-9223372036854775808)) (List.mem_of_getElem? (i := 2) rfl) dX5_adds_28 ?_
    exact v_lret (rvf := fun (res : Int64 × Bool) => (some (.long res.1))) (wf := fun (res : Int64 × Bool) => (xW q cs n nd es kn knd kes img tl ta tn sl res.2 wt un ed kwt kun ked tb sb sz sbs G K P wk wh)) C dX5_adds_31 rfl rfl
  · refine v_aload_n C 0 dX5_adds_7 rfl ?_
    refine v_iload_n C 2 dX5_adds_8 rfl ?_
    refine v_iload_n C 3 dX5_adds_9 rfl ?_
    refine v_callV2v C 0 rfl rfl rfl (fun l9 r9 h9 => k_X5_isOrder (l := l9) hq  h9) gX5_adds_X5_isOrder rfl nI_X5_isOrder ⟨rfl, rfl, Nat.le_of_ble_eq_true rfl, Nat.le_of_ble_eq_true rfl⟩ dX5_adds_10 (Nat.le_of_ble_eq_true rfl) (fun r2 => ?_)
    refine v_ifb_eq C (b := r2) dX5_adds_13 (tgt := 28) (by decide) ?_ ?_
    · refine v_ldc2 C (v := (-9223372036854775808)) (List.mem_of_getElem? (i := 2) rfl) dX5_adds_28 ?_
      exact v_lret (rvf := fun (res : Int64 × Bool) => (some (.long res.1))) (wf := fun (res : Int64 × Bool) => (xW q cs n nd es kn knd kes img tl ta tn sl res.2 wt un ed kwt kun ked tb sb sz sbs G K P wk wh)) C dX5_adds_31 rfl rfl
    · refine v_aload_n C 0 dX5_adds_16 rfl ?_
      refine v_get C (T := TX5) (n := 10) (C9 := RX5) iX5 0 rfl rfl 0 (by decide) (List.mem_of_getElem? (i := 1) rfl) rfl rfl dX5_adds_17 ?_
      refine v_iload C 4 dX5_adds_20 rfl ?_
      refine v_callV1v C 1 rfl rfl rfl (fun l9 r9 h9 => k_X0_hasPartner (l := l9) hq  h9) gX5_adds_X0_hasPartner rfl nI_X0_hasPartner ⟨rfl, rfl, Nat.le_of_ble_eq_true rfl, Nat.le_of_ble_eq_true rfl⟩ dX5_adds_22 (Nat.le_of_ble_eq_true rfl) (fun r3 => ?_)
      refine v_ifb_ne C (b := r3) dX5_adds_25 (tgt := 32) (by decide) ?_ ?_
      · refine v_iconst C dX5_adds_32 (v := 0) (by decide) ?_
        refine v_istore C (lv' := [(5, .int 0), (0, .ref (q 0)), (1, .int a1), (2, .int a2), (3, .int a3), (4, .int a4)]) dX5_adds_33 (by decide) rfl ?_
        refine v_iconst C dX5_adds_35 (v := 0) (by decide) ?_
        refine v_istore C (lv' := [(6, .int 0), (5, .int 0), (0, .ref (q 0)), (1, .int a1), (2, .int a2), (3, .int a3), (4, .int a4)]) dX5_adds_36 (by decide) rfl ?_
        refine v_sub [2, 3, 4, 5, 6, 1, 0] rfl (lp_X5_adds_1 hq C  _ (fun v11 => ?_) FU 0 0)
        refine v_iload C 5 dX5_adds_67 rfl ?_
        refine v_iconst C dX5_adds_69 (v := 1) (by decide) ?_
        refine v_aload_n C 0 dX5_adds_70 rfl ?_
        refine v_iload_n C 2 dX5_adds_71 rfl ?_
        refine v_iload_n C 3 dX5_adds_72 rfl ?_
        refine v_iload C 4 dX5_adds_73 rfl ?_
        refine v_iadd C dX5_adds_75 ?_
        refine v_callV2v C 0 rfl rfl rfl (fun l9 r9 h9 => k_X5_partnerAt (l := l9) hq  h9) gX5_adds_X5_partnerAt rfl nI_X5_partnerAt ⟨rfl, rfl, Nat.le_of_ble_eq_true rfl, Nat.le_of_ble_eq_true rfl⟩ dX5_adds_76 (Nat.le_of_ble_eq_true rfl) (fun r12 => ?_)
        refine v_ishl C dX5_adds_79 ?_
        refine v_ior C dX5_adds_80 ?_
        refine v_istore_nm C (lvf := fun x13 => [(6, .int x13), (0, .ref (q 0)), (1, .int a1), (2, .int a2), (3, .int a3), (4, .int a4), (5, .int v11)]) dX5_adds_81 (by decide) (fun _ => rfl) (fun x13 => ?_)
        refine v_aload_n C 1 dX5_adds_83 rfl ?_
        refine v_get C (T := TX5) (n := 10) (C9 := RX5) iX5 0 rfl rfl 6 (by decide) (List.mem_of_getElem? (i := 3) rfl) rfl rfl dX5_adds_84 ?_
        refine v_callV0n C 6 rfl rfl rfl (fun l9 r9 h9 => k_X1_begin (l := l9) hq  h9) gX5_adds_X1_begin rfl nI_X1_begin ⟨rfl, rfl, Nat.le_of_ble_eq_true rfl, Nat.le_of_ble_eq_true rfl⟩ dX5_adds_87 (Nat.le_of_ble_eq_true rfl) (fun r14 => ?_)
        refine v_aload_n C 1 dX5_adds_90 rfl ?_
        refine v_get C (T := TX5) (n := 10) (C9 := RX5) iX5 0 rfl rfl 6 (by decide) (List.mem_of_getElem? (i := 3) rfl) rfl rfl dX5_adds_91 ?_
        refine v_aload_n C 1 dX5_adds_94 rfl ?_
        refine v_get C (T := TX5) (n := 10) (C9 := RX5) iX5 0 rfl rfl 0 (by decide) (List.mem_of_getElem? (i := 1) rfl) rfl rfl dX5_adds_95 ?_
        refine v_get C (T := TX0) (n := 7) (C9 := RX0) iX0 1 rfl rfl 6 (by decide) (List.mem_of_getElem? (i := 4) rfl) rfl rfl dX5_adds_98 ?_
        refine v_iload_n C 2 dX5_adds_101 rfl ?_
        refine v_aalda C (ad := fun j9 => q (22 + j9)) 10 3 rfl rfl (fun _ h9 => if_pos h9) dX5_adds_102 (fun hb15 => ?_)
        have hj15 := inb_lt hb15
        refine v_iload C 0 dX5_adds_103 rfl ?_
        refine v_lald C (22 + a1.toNatClampNeg) 1 (xW_G hj15) rfl dX5_adds_105 ?_
        refine v_aload_n C 1 dX5_adds_106 rfl ?_
        refine v_get C (T := TX5) (n := 10) (C9 := RX5) iX5 0 rfl rfl 0 (by decide) (List.mem_of_getElem? (i := 1) rfl) rfl rfl dX5_adds_107 ?_
        refine v_get C (T := TX0) (n := 7) (C9 := RX0) iX0 1 rfl rfl 6 (by decide) (List.mem_of_getElem? (i := 4) rfl) rfl rfl dX5_adds_110 ?_
        refine v_iload_n C 2 dX5_adds_113 rfl ?_
        refine v_aalda C (ad := fun j9 => q (22 + j9)) 10 3 rfl rfl (fun _ h9 => if_pos h9) dX5_adds_114 (fun hb16 => ?_)
        have hj16 := inb_lt hb16
        refine v_iload C 6 dX5_adds_115 rfl ?_
        refine v_lald C (22 + a1.toNatClampNeg) 1 (xW_G hj16) rfl dX5_adds_117 ?_
        refine v_callV2v C 6 rfl rfl rfl (fun l9 r9 h9 => k_X1_less (l := l9) hq  h9) gX5_adds_X1_less rfl nI_X1_less ⟨rfl, rfl, Nat.le_of_ble_eq_true rfl, Nat.le_of_ble_eq_true rfl⟩ dX5_adds_118 (Nat.le_of_ble_eq_true rfl) (fun r17 => ?_)
        refine v_lstore C (lv' := [(7, .long r17.1), (6, .int x13), (0, .ref (q 0)), (1, .int a1), (2, .int a2), (3, .int a3), (4, .int a4), (5, .int v11)]) dX5_adds_121 (by decide) rfl ?_
        refine v_aload_n C 2 dX5_adds_123 rfl ?_
        refine v_get C (T := TX5) (n := 10) (C9 := RX5) iX5 0 rfl rfl 6 (by decide) (List.mem_of_getElem? (i := 3) rfl) rfl rfl dX5_adds_124 ?_
        refine v_get C (T := TX1) (n := 1) (C9 := RX1) iX1 6 rfl rfl 0 (by decide) (List.mem_of_getElem? (i := 5) rfl) rfl rfl dX5_adds_127 ?_
        refine v_ifb_eq C (b := r17.2) dX5_adds_130 (tgt := 139) (by decide) ?_ ?_
        · refine v_lload C 0 dX5_adds_139 rfl ?_
          exact v_lret (rvf := fun (res : Int64 × Bool) => (some (.long res.1))) (wf := fun (res : Int64 × Bool) => (xW q cs n nd es kn knd kes img tl ta tn sl res.2 wt un ed kwt kun ked tb sb sz sbs G K P wk wh)) C dX5_adds_141 rfl rfl
        · refine v_ldc2 C (v := (-9223372036854775808)) (List.mem_of_getElem? (i := 2) rfl) dX5_adds_133 ?_
          refine v_goto C dX5_adds_136 (tgt := 141) (by decide) ?_
          exact v_lret (rvf := fun (res : Int64 × Bool) => (some (.long res.1))) (wf := fun (res : Int64 × Bool) => (xW q cs n nd es kn knd kes img tl ta tn sl res.2 wt un ed kwt kun ked tb sb sz sbs G K P wk wh)) C dX5_adds_141 rfl rfl
      · refine v_ldc2 C (v := (-9223372036854775808)) (List.mem_of_getElem? (i := 2) rfl) dX5_adds_28 ?_
        exact v_lret (rvf := fun (res : Int64 × Bool) => (some (.long res.1))) (wf := fun (res : Int64 × Bool) => (xW q cs n nd es kn knd kes img tl ta tn sl res.2 wt un ed kwt kun ked tb sb sz sbs G K P wk wh)) C dX5_adds_31 rfl rfl

def B_X5_pivot_1 (n : Int32) (nd : Int32) (wt : Nat → Int32) (sz : Nat → Int32) (P : Nat → Nat → Int64) (a1 : Int32) (a2 : Int32) (rec3 : Int32 → Int32 → Option (Int32))  (v4 : Int32) (v5 : Int32) : Option (Int32) :=
if (v5 : Int32) < n then (
(f_X5_partnerAt n sz P a1 (a2 + v5)).bind (fun (r6 : Int32) =>
(f_X0_isSwing n nd wt v4 r6).bind (fun (r7 : Bool) =>
if r7 = true then (
some r6) else (
nm (v4 ||| (1 <<< (r6 &&& 31))) (fun (x8 : Int32) =>
nm (v5 + 1) (fun (x9 : Int32) =>
rec3 x8 x9)))))) else (
some (-5))
def L_X5_pivot_1 (n : Int32) (nd : Int32) (wt : Nat → Int32) (sz : Nat → Int32) (P : Nat → Nat → Int64) (a1 : Int32) (a2 : Int32)  : Nat → Int32 → Int32 → Option (Int32)
  | 0, _, _ => none
  | m9 + 1, v4, v5 => B_X5_pivot_1 n nd wt sz P a1 a2 (L_X5_pivot_1 n nd wt sz P a1 a2 m9)  v4 v5

def f_X5_pivot (n : Int32) (nd : Int32) (wt : Nat → Int32) (sz : Nat → Int32) (P : Nat → Nat → Int64) (a1 : Int32) (a2 : Int32) : Option (Int32) :=
(f_X5_isRow a1).bind (fun (r1 : Bool) =>
if r1 = true then (
(f_X5_isOrder n sz P a1 a2).bind (fun (r2 : Bool) =>
if r2 = true then (
L_X5_pivot_1 n nd wt sz P a1 a2  FU 0 0) else (
some (-3)))) else (
some (-1)))

theorem nI_X5_pivot : NameIn yX5_pivot 2 := ⟨by decide +kernel, by decide +kernel, by decide +kernel⟩
set_option maxRecDepth 100000 in
set_option maxHeartbeats 4000000 in
theorem lp_X5_pivot_1 {X : CX} {res : Int32} {a1 : Int32} {a2 : Int32}   (hq : (xA q).Nodup) (C : Ok X cX5_pivot 6 (some .int) wsX5_pivot RX5 { frames := 4, cells := 0, slots := 0, locals := 92 } D vwCl (xT cs) (xA q) (xN tF) (some (.int res)) (xW q cs n nd es kn knd kes img tl ta tn sl bey wt un ed kwt kun ked tb sb sz sbs G K P wk wh))  : ∀ fuel : Nat, ∀ v4 : Int32, ∀ v5 : Int32, VF X res (L_X5_pivot_1 n nd wt sz P a1 a2 fuel v4 v5) (xW q cs n nd es kn knd kes img tl ta tn sl bey wt un ed kwt kun ked tb sb sz sbs G K P wk wh) 26 [(0, .ref (q 0)), (1, .int a1), (2, .int a2), (3, .int v4), (4, .int v5)] [] := by
  have iX0 : ∀ w ∈ wsX00, w ∈ wsX5_pivot := fun _ h => List.mem_cons_of_mem _ (List.mem_append_left _ (List.mem_append_right _ h))
  have iX5 : ∀ w ∈ wsX50, w ∈ wsX5_pivot := fun _ h => List.mem_cons_of_mem _ (List.mem_append_left _ (List.mem_append_left _ (List.mem_append_right _ h)))
  intro fuel
  induction fuel with
  | zero =>
    intro _ _
    exact v_none
  | succ fuel ih =>
    intro v4 v5
    show VF X res (B_X5_pivot_1 n nd wt sz P a1 a2 (L_X5_pivot_1 n nd wt sz P a1 a2 fuel)  v4 v5) _ _ _ _
    unfold B_X5_pivot_1
    refine v_iload C 4 dX5_pivot_26 rfl ?_
    refine v_aload_n C 0 dX5_pivot_28 rfl ?_
    refine v_get C (T := TX5) (n := 10) (C9 := RX5) iX5 0 rfl rfl 0 (by decide) (List.mem_of_getElem? (i := 1) rfl) rfl rfl dX5_pivot_29 ?_
    refine v_get C (T := TX0) (n := 7) (C9 := RX0) iX0 1 rfl rfl 0 (by decide) (List.mem_of_getElem? (i := 2) rfl) rfl rfl dX5_pivot_32 ?_
    refine v_icmp_ge C dX5_pivot_35 (tgt := 78) (by decide) ?_ ?_
    · refine v_bipush C dX5_pivot_78 (v := (-5)) (by decide) ?_
      exact v_iret (rvf := fun (res : Int32) => (some (.int res))) (wf := fun (res : Int32) => (xW q cs n nd es kn knd kes img tl ta tn sl bey wt un ed kwt kun ked tb sb sz sbs G K P wk wh)) C dX5_pivot_80 rfl rfl
    · refine v_aload_n C 0 dX5_pivot_38 rfl ?_
      refine v_iload_n C 1 dX5_pivot_39 rfl ?_
      refine v_iload_n C 2 dX5_pivot_40 rfl ?_
      refine v_iload C 4 dX5_pivot_41 rfl ?_
      refine v_iadd C dX5_pivot_43 ?_
      refine v_callV2v C 0 rfl rfl rfl (fun l9 r9 h9 => k_X5_partnerAt (l := l9) hq  h9) gX5_pivot_X5_partnerAt rfl nI_X5_partnerAt ⟨rfl, rfl, Nat.le_of_ble_eq_true rfl, Nat.le_of_ble_eq_true rfl⟩ dX5_pivot_44 (Nat.le_of_ble_eq_true rfl) (fun r6 => ?_)
      refine v_istore C (lv' := [(5, .int r6), (0, .ref (q 0)), (1, .int a1), (2, .int a2), (3, .int v4), (4, .int v5)]) dX5_pivot_47 (by decide) rfl ?_
      refine v_aload_n C 1 dX5_pivot_49 rfl ?_
      refine v_get C (T := TX5) (n := 10) (C9 := RX5) iX5 0 rfl rfl 0 (by decide) (List.mem_of_getElem? (i := 1) rfl) rfl rfl dX5_pivot_50 ?_
      refine v_iload_n C 4 dX5_pivot_53 rfl ?_
      refine v_iload C 0 dX5_pivot_54 rfl ?_
      refine v_callV2v C 1 rfl rfl rfl (fun l9 r9 h9 => k_X0_isSwing (l := l9) hq  h9) gX5_pivot_X0_isSwing rfl nI_X0_isSwing ⟨rfl, rfl, Nat.le_of_ble_eq_true rfl, Nat.le_of_ble_eq_true rfl⟩ dX5_pivot_56 (Nat.le_of_ble_eq_true rfl) (fun r7 => ?_)
      refine v_ifb_eq C (b := r7) dX5_pivot_59 (tgt := 65) (by decide) ?_ ?_
      · refine v_iload_n C 4 dX5_pivot_65 rfl ?_
        refine v_iconst C dX5_pivot_66 (v := 1) (by decide) ?_
        refine v_iload C 0 dX5_pivot_67 rfl ?_
        refine v_ishl C dX5_pivot_69 ?_
        refine v_ior C dX5_pivot_70 ?_
        refine v_istore_n_nm C (lvf := fun x8 => [(3, .int x8), (5, .int r6), (0, .ref (q 0)), (1, .int a1), (2, .int a2), (4, .int v5)]) dX5_pivot_71 rfl (by decide) (fun _ => rfl) (fun x8 => ?_)
        refine v_iinc_nm C (lvf := fun x9 => [(4, .int x9), (3, .int x8), (5, .int r6), (0, .ref (q 0)), (1, .int a1), (2, .int a2)]) 5 dX5_pivot_72 rfl rfl (by decide) (fun _ => rfl) (fun x9 => ?_)
        refine v_goto C dX5_pivot_75 (tgt := 26) (by decide) ?_
        exact v_sub [3, 4, 5, 1, 0] rfl (ih x8 x9)
      · refine v_iload C 0 dX5_pivot_62 rfl ?_
        exact v_iret (rvf := fun (res : Int32) => (some (.int res))) (wf := fun (res : Int32) => (xW q cs n nd es kn knd kes img tl ta tn sl bey wt un ed kwt kun ked tb sb sz sbs G K P wk wh)) C dX5_pivot_64 rfl rfl

set_option maxRecDepth 100000 in
set_option maxHeartbeats 4000000 in
theorem k_X5_pivot {l : Launch} {a1 : Int32} {a2 : Int32}  {res : Int32} (hq : (xA q).Nodup)  (hf : f_X5_pivot n nd wt sz P a1 a2 = some res) : kMet l yX5_pivot wsX5_pivot { frames := 4, cells := 0, slots := 0, locals := 92 } D vwCl (xT cs) (xN tF) (xA q) [.ref (q 0), .int a1, .int a2] (xW q cs n nd es kn knd kes img tl ta tn sl bey wt un ed kwt kun ked tb sb sz sbs G K P wk wh) (some (.int res)) (xW q cs n nd es kn knd kes img tl ta tn sl bey wt un ed kwt kun ked tb sb sz sbs G K P wk wh) := by
  refine kMet.of (cc := cX5_pivot) (nL := 6) (ret := (some .int)) (own := RX5) (lv := [(0, .ref (q 0)), (1, .int a1), (2, .int a2)]) (by decide +kernel) rfl rfl xN_ok hq (Nat.le_of_ble_eq_true rfl) rfl (fun X C => ?_)
  refine VF.of hf ?_
  unfold f_X5_pivot
  refine v_iload_n C 1 dX5_pivot_0 rfl ?_
  refine v_callSP1v C (fun l9 r9 h9 => k_X5_isRow (l := l9) h9) gX5_pivot_X5_isRow rfl nI_X5_isRow ⟨rfl, rfl, Nat.le_of_ble_eq_true rfl, Nat.le_of_ble_eq_true rfl⟩ dX5_pivot_1 (Nat.le_of_ble_eq_true rfl) (fun r1 => ?_)
  refine v_ifb_ne C (b := r1) dX5_pivot_4 (tgt := 9) (by decide) ?_ ?_
  · refine v_aload_n C 0 dX5_pivot_9 rfl ?_
    refine v_iload_n C 1 dX5_pivot_10 rfl ?_
    refine v_iload_n C 2 dX5_pivot_11 rfl ?_
    refine v_callV2v C 0 rfl rfl rfl (fun l9 r9 h9 => k_X5_isOrder (l := l9) hq  h9) gX5_pivot_X5_isOrder rfl nI_X5_isOrder ⟨rfl, rfl, Nat.le_of_ble_eq_true rfl, Nat.le_of_ble_eq_true rfl⟩ dX5_pivot_12 (Nat.le_of_ble_eq_true rfl) (fun r2 => ?_)
    refine v_ifb_ne C (b := r2) dX5_pivot_15 (tgt := 21) (by decide) ?_ ?_
    · refine v_iconst C dX5_pivot_21 (v := 0) (by decide) ?_
      refine v_istore_n C (lv' := [(3, .int 0), (0, .ref (q 0)), (1, .int a1), (2, .int a2)]) dX5_pivot_22 rfl (by decide) rfl ?_
      refine v_iconst C dX5_pivot_23 (v := 0) (by decide) ?_
      refine v_istore C (lv' := [(4, .int 0), (3, .int 0), (0, .ref (q 0)), (1, .int a1), (2, .int a2)]) dX5_pivot_24 (by decide) rfl ?_
      refine v_sub [2, 3, 4, 1, 0] rfl (lp_X5_pivot_1 hq C   FU 0 0)
    · refine v_bipush C dX5_pivot_18 (v := (-3)) (by decide) ?_
      exact v_iret (rvf := fun (res : Int32) => (some (.int res))) (wf := fun (res : Int32) => (xW q cs n nd es kn knd kes img tl ta tn sl bey wt un ed kwt kun ked tb sb sz sbs G K P wk wh)) C dX5_pivot_20 rfl rfl
  · refine v_iconst C dX5_pivot_7 (v := (-1)) (by decide) ?_
    exact v_iret (rvf := fun (res : Int32) => (some (.int res))) (wf := fun (res : Int32) => (xW q cs n nd es kn knd kes img tl ta tn sl bey wt un ed kwt kun ked tb sb sz sbs G K P wk wh)) C dX5_pivot_8 rfl rfl

end WK
