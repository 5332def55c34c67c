section WK
variable {q : Nat → Nat} {cs : Nat → ClassId} {D : va_G} {tF : Nat} {n : Int32} {nd : Int32} {es : Int32} {kn : Int32} {knd : Int32} {kes : Int32} {img : Bool} {tl : Int32} {ta : Int32} {tn : Int64} {sl : Int32} {bey : Bool} {wt : Nat → Int32} {un : Nat → Int32} {ed : Nat → Int32} {kwt : Nat → Int32} {kun : Nat → Int32} {ked : Nat → Int32} {tb : Nat → Int32} {sb : Nat → Int32} {sz : Nat → Int32} {sbs : Nat → Int32} {G : Nat → Nat → Int64} {K : Nat → Nat → Int64} {P : Nat → Nat → Int64} {wk : Nat → Int64} {wh : Nat → Int64}
def B_X0_countUnions_1 (n : Int32) (un : Nat → Int32) (rec1 : Int32 → Int32 → Option (Int32))  (v2 : Int32) (v3 : Int32) : Option (Int32) :=
if (v3 : Int32) < n then (
ck (inb v3 9) (
(f_X5_leastOf (un v3.toNatClampNeg)).bind (fun (r4 : Int32) =>
jn1 (fun (v6 : Int32) =>
nm (v3 + 1) (fun (x7 : Int32) =>
rec1 v6 x7)) (fun k5 =>
if (r4 : Int32) = v3 then (
nm (v2 + 1) (fun (x8 : Int32) =>
k5 x8)) else (
k5 v2))))) else (
some v2)
def L_X0_countUnions_1 (n : Int32) (un : Nat → Int32)  : Nat → Int32 → Int32 → Option (Int32)
  | 0, _, _ => none
  | m9 + 1, v2, v3 => B_X0_countUnions_1 n un (L_X0_countUnions_1 n un m9)  v2 v3

def f_X0_countUnions (n : Int32) (un : Nat → Int32) : Option (Int32) :=
L_X0_countUnions_1 n un  FU 0 0

theorem nI_X0_countUnions : NameIn yX0_countUnions 0 := ⟨by decide +kernel, by decide +kernel, by decide +kernel⟩
set_option maxRecDepth 100000 in
set_option maxHeartbeats 4000000 in
theorem lp_X0_countUnions_1 {X : CX} {res : Int32}    (hq : (xA q).Nodup) (C : Ok X cX0_countUnions 3 (some .int) wsX0_countUnions RX0 { frames := 2, cells := 0, slots := 0, locals := 42 } D vwCl (xT cs) (xA q) (xN tF) (some (.int res)) (xW q cs n nd es kn knd kes img tl ta tn sl bey wt un ed kwt kun ked tb sb sz sbs G K P wk wh))  : ∀ fuel : Nat, ∀ v2 : Int32, ∀ v3 : Int32, VF X res (L_X0_countUnions_1 n un fuel v2 v3) (xW q cs n nd es kn knd kes img tl ta tn sl bey wt un ed kwt kun ked tb sb sz sbs G K P wk wh) 4 [(0, .ref (q 1)), (1, .int v2), (2, .int v3)] [] := by
  have iX0 : ∀ w ∈ wsX00, w ∈ wsX0_countUnions := fun _ h => List.mem_cons_of_mem _ (List.mem_append_right _ h)
  intro fuel
  induction fuel with
  | zero =>
    intro _ _
    exact v_none
  | succ fuel ih =>
    intro v2 v3
    show VF X res (B_X0_countUnions_1 n un (L_X0_countUnions_1 n un fuel)  v2 v3) _ _ _ _
    unfold B_X0_countUnions_1
    refine v_iload_n C 2 dX0_countUnions_4 rfl ?_
    refine v_aload_n C 0 dX0_countUnions_5 rfl ?_
    refine v_get C (T := TX0) (n := 7) (C9 := RX0) iX0 1 rfl rfl 0 (by decide) (List.mem_of_getElem? (i := 1) rfl) rfl rfl dX0_countUnions_6 ?_
    refine v_icmp_ge C dX0_countUnions_9 (tgt := 34) (by decide) ?_ ?_
    · refine v_iload_n C 1 dX0_countUnions_34 rfl ?_
      exact v_iret (rvf := fun (res : Int32) => (some (.int res))) (wf := fun (res : Int32) => (xW q cs n nd es kn knd kes img tl ta tn sl bey wt un ed kwt kun ked tb sb sz sbs G K P wk wh)) C dX0_countUnions_35 rfl rfl
    · refine v_aload_n C 0 dX0_countUnions_12 rfl ?_
      refine v_get C (T := TX0) (n := 7) (C9 := RX0) iX0 1 rfl rfl 4 (by decide) (List.mem_of_getElem? (i := 2) rfl) rfl rfl dX0_countUnions_13 ?_
      refine v_iload_n C 2 dX0_countUnions_16 rfl ?_
      refine v_iald C 8 0 rfl rfl dX0_countUnions_17 ?_
      refine v_callNP1v C (fun l9 r9 h9 => k_X5_leastOf (l := l9) h9) gX0_countUnions_X5_leastOf_n63 (List.mem_of_getElem? (i := 3) rfl) (List.mem_of_getElem? (i := 4) rfl) (fun _ _ h9 => xN_X0_63 h9) rfl nI_X5_leastOf ⟨rfl, rfl, Nat.le_of_ble_eq_true rfl, Nat.le_of_ble_eq_true rfl⟩ dX0_countUnions_18 (Nat.le_of_ble_eq_true rfl) (fun r4 => ?_)
      refine v_iload_n C 2 dX0_countUnions_21 rfl ?_
      refine v_jn1 (wj := (fun v6 => (xW q cs n nd es kn knd kes img tl ta tn sl bey wt un ed kwt kun ked tb sb sz sbs G K P wk wh))) (pcj := 28) (lvj := (fun v6 => [(0, .ref (q 1)), (1, .int v6), (2, .int v3)])) (stj := (fun v6 => [])) (fun v6 => ?_) (fun k5 hk5 => ?_)
      · refine v_iinc_nm C (lvf := fun x7 => [(2, .int x7), (0, .ref (q 1)), (1, .int v6)]) 2 dX0_countUnions_28 rfl rfl (by decide) (fun _ => rfl) (fun x7 => ?_)
        refine v_goto C dX0_countUnions_31 (tgt := 4) (by decide) ?_
        exact v_sub [1, 2, 0] rfl (ih v6 x7)
      · refine v_icmp_ne C dX0_countUnions_22 (tgt := 28) (by decide) ?_ ?_
        · exact v_sub [0, 1, 2] rfl (hk5 v2)
        · refine v_iinc_nm C (lvf := fun x8 => [(1, .int x8), (0, .ref (q 1)), (2, .int v3)]) 1 dX0_countUnions_25 rfl rfl (by decide) (fun _ => rfl) (fun x8 => ?_)
          exact v_sub [1, 0, 2] rfl (hk5 x8)

set_option maxRecDepth 100000 in
set_option maxHeartbeats 4000000 in
theorem k_X0_countUnions {l : Launch}   {res : Int32} (hq : (xA q).Nodup)  (hf : f_X0_countUnions n un = some res) : kMet l yX0_countUnions wsX0_countUnions { frames := 2, cells := 0, slots := 0, locals := 42 } D vwCl (xT cs) (xN tF) (xA q) [.ref (q 1)] (xW q cs n nd es kn knd kes img tl ta tn sl bey wt un ed kwt kun ked tb sb sz sbs G K P wk wh) (some (.int res)) (xW q cs n nd es kn knd kes img tl ta tn sl bey wt un ed kwt kun ked tb sb sz sbs G K P wk wh) := by
  refine kMet.of (cc := cX0_countUnions) (nL := 3) (ret := (some .int)) (own := RX0) (lv := [(0, .ref (q 1))]) (by decide +kernel) rfl rfl xN_ok hq (Nat.le_of_ble_eq_true rfl) rfl (fun X C => ?_)
  refine VF.of hf ?_
  unfold f_X0_countUnions
  refine v_iconst C dX0_countUnions_0 (v := 0) (by decide) ?_
  refine v_istore_n C (lv' := [(1, .int 0), (0, .ref (q 1))]) dX0_countUnions_1 rfl (by decide) rfl ?_
  refine v_iconst C dX0_countUnions_2 (v := 0) (by decide) ?_
  refine v_istore_n C (lv' := [(2, .int 0), (1, .int 0), (0, .ref (q 1))]) dX0_countUnions_3 rfl (by decide) rfl ?_
  refine v_sub [2, 1, 0] rfl (lp_X0_countUnions_1 hq C   FU 0 0)

def B_X0_wholeUnions_1 (n : Int32) (un : Nat → Int32) (a1 : Int32) (rec1 : Int32 → Int32 → Option (Int32))  (v2 : Int32) (v3 : Int32) : Option (Int32) :=
if (v3 : Int32) < n then (
(f_X5_has a1 v3).bind (fun (r4 : Bool) =>
jn1 (fun (v6 : Int32) =>
nm (v3 + 1) (fun (x7 : Int32) =>
rec1 v6 x7)) (fun k5 =>
if r4 = true then (
ck (inb v3 9) (
ck (inb v3 9) (
if (a1 &&& (un v3.toNatClampNeg) : Int32) = (un v3.toNatClampNeg) then (
ck (inb v3 9) (
(f_X5_leastOf (un v3.toNatClampNeg)).bind (fun (r8 : Int32) =>
jn1 (fun (v10 : Int32) =>
nm (v2 + v10) (fun (x11 : Int32) =>
k5 x11)) (fun k9 =>
if (r8 : Int32) = v3 then (
k9 1) else (
k9 0))))) else (
some (-1))))) else (
k5 v2)))) else (
some v2)
def L_X0_wholeUnions_1 (n : Int32) (un : Nat → Int32) (a1 : Int32)  : Nat → Int32 → Int32 → Option (Int32)
  | 0, _, _ => none
  | m9 + 1, v2, v3 => B_X0_wholeUnions_1 n un a1 (L_X0_wholeUnions_1 n un a1 m9)  v2 v3

def f_X0_wholeUnions (n : Int32) (un : Nat → Int32) (a1 : Int32) : Option (Int32) :=
L_X0_wholeUnions_1 n un a1  FU 0 0

theorem nI_X0_wholeUnions : NameIn yX0_wholeUnions 1 := ⟨by decide +kernel, by decide +kernel, by decide +kernel⟩
set_option maxRecDepth 100000 in
set_option maxHeartbeats 4000000 in
theorem lp_X0_wholeUnions_1 {X : CX} {res : Int32} {a1 : Int32}   (hq : (xA q).Nodup) (C : Ok X cX0_wholeUnions 4 (some .int) wsX0_wholeUnions RX0 { frames := 2, cells := 0, slots := 0, locals := 42 } D vwCl (xT cs) (xA q) (xN tF) (some (.int res)) (xW q cs n nd es kn knd kes img tl ta tn sl bey wt un ed kwt kun ked tb sb sz sbs G K P wk wh))  : ∀ fuel : Nat, ∀ v2 : Int32, ∀ v3 : Int32, VF X res (L_X0_wholeUnions_1 n un a1 fuel v2 v3) (xW q cs n nd es kn knd kes img tl ta tn sl bey wt un ed kwt kun ked tb sb sz sbs G K P wk wh) 4 [(0, .ref (q 1)), (1, .int a1), (2, .int v2), (3, .int v3)] [] := by
  have iX0 : ∀ w ∈ wsX00, w ∈ wsX0_wholeUnions := fun _ h => List.mem_cons_of_mem _ (List.mem_append_right _ h)
  intro fuel
  induction fuel with
  | zero =>
    intro _ _
    exact v_none
  | succ fuel ih =>
    intro v2 v3
    show VF X res (B_X0_wholeUnions_1 n un a1 (L_X0_wholeUnions_1 n un a1 fuel)  v2 v3) _ _ _ _
    unfold B_X0_wholeUnions_1
    refine v_iload_n C 3 dX0_wholeUnions_4 rfl ?_
    refine v_aload_n C 0 dX0_wholeUnions_5 rfl ?_
    refine v_get C (T := TX0) (n := 7) (C9 := RX0) iX0 1 rfl rfl 0 (by decide) (List.mem_of_getElem? (i := 1) rfl) rfl rfl dX0_wholeUnions_6 ?_
    refine v_icmp_ge C dX0_wholeUnions_9 (tgt := 66) (by decide) ?_ ?_
    · refine v_iload_n C 2 dX0_wholeUnions_66 rfl ?_
      exact v_iret (rvf := fun (res : Int32) => (some (.int res))) (wf := fun (res : Int32) => (xW q cs n nd es kn knd kes img tl ta tn sl bey wt un ed kwt kun ked tb sb sz sbs G K P wk wh)) C dX0_wholeUnions_67 rfl rfl
    · refine v_iload_n C 1 dX0_wholeUnions_12 rfl ?_
      refine v_iload_n C 3 dX0_wholeUnions_13 rfl ?_
      refine v_callNP2v C (fun l9 r9 h9 => k_X5_has (l := l9) h9) gX0_wholeUnions_X5_has_n59 (List.mem_of_getElem? (i := 3) rfl) (List.mem_of_getElem? (i := 4) rfl) (fun _ _ h9 => xN_X0_59 h9) rfl nI_X5_has ⟨rfl, rfl, Nat.le_of_ble_eq_true rfl, Nat.le_of_ble_eq_true rfl⟩ dX0_wholeUnions_14 (Nat.le_of_ble_eq_true rfl) (fun r4 => ?_)
      refine v_jn1 (wj := (fun v6 => (xW q cs n nd es kn knd kes img tl ta tn sl bey wt un ed kwt kun ked tb sb sz sbs G K P wk wh))) (pcj := 60) (lvj := (fun v6 => [(0, .ref (q 1)), (1, .int a1), (2, .int v6), (3, .int v3)])) (stj := (fun v6 => [])) (fun v6 => ?_) (fun k5 hk5 => ?_)
      · refine v_iinc_nm C (lvf := fun x7 => [(3, .int x7), (0, .ref (q 1)), (1, .int a1), (2, .int v6)]) 3 dX0_wholeUnions_60 rfl rfl (by decide) (fun _ => rfl) (fun x7 => ?_)
        refine v_goto C dX0_wholeUnions_63 (tgt := 4) (by decide) ?_
        exact v_sub [1, 2, 3, 0] rfl (ih v6 x7)
      · refine v_ifb_eq C (b := r4) dX0_wholeUnions_17 (tgt := 60) (by decide) ?_ ?_
        · exact v_sub [0, 1, 2, 3] rfl (hk5 v2)
        · refine v_iload_n C 1 dX0_wholeUnions_20 rfl ?_
          refine v_aload_n C 0 dX0_wholeUnions_21 rfl ?_
          refine v_get C (T := TX0) (n := 7) (C9 := RX0) iX0 1 rfl rfl 4 (by decide) (List.mem_of_getElem? (i := 2) rfl) rfl rfl dX0_wholeUnions_22 ?_
          refine v_iload_n C 3 dX0_wholeUnions_25 rfl ?_
          refine v_iald C 8 0 rfl rfl dX0_wholeUnions_26 ?_
          refine v_iand C dX0_wholeUnions_27 ?_
          refine v_aload_n C 0 dX0_wholeUnions_28 rfl ?_
          refine v_get C (T := TX0) (n := 7) (C9 := RX0) iX0 1 rfl rfl 4 (by decide) (List.mem_of_getElem? (i := 2) rfl) rfl rfl dX0_wholeUnions_29 ?_
          refine v_iload_n C 3 dX0_wholeUnions_32 rfl ?_
          refine v_iald C 8 0 rfl rfl dX0_wholeUnions_33 ?_
          refine v_icmp_eq C dX0_wholeUnions_34 (tgt := 39) (by decide) ?_ ?_
          · refine v_iload_n C 2 dX0_wholeUnions_39 rfl ?_
            refine v_aload_n C 0 dX0_wholeUnions_40 rfl ?_
            refine v_get C (T := TX0) (n := 7) (C9 := RX0) iX0 1 rfl rfl 4 (by decide) (List.mem_of_getElem? (i := 2) rfl) rfl rfl dX0_wholeUnions_41 ?_
            refine v_iload_n C 3 dX0_wholeUnions_44 rfl ?_
            refine v_iald C 8 0 rfl rfl dX0_wholeUnions_45 ?_
            refine v_callNP1v C (fun l9 r9 h9 => k_X5_leastOf (l := l9) h9) gX0_wholeUnions_X5_leastOf_n63 (List.mem_of_getElem? (i := 6) rfl) (List.mem_of_getElem? (i := 4) rfl) (fun _ _ h9 => xN_X0_63 h9) rfl nI_X5_leastOf ⟨rfl, rfl, Nat.le_of_ble_eq_true rfl, Nat.le_of_ble_eq_true rfl⟩ dX0_wholeUnions_46 (Nat.le_of_ble_eq_true rfl) (fun r8 => ?_)
            refine v_iload_n C 3 dX0_wholeUnions_49 rfl ?_
            refine v_jn1 (wj := (fun v10 => (xW q cs n nd es kn knd kes img tl ta tn sl bey wt un ed kwt kun ked tb sb sz sbs G K P wk wh))) (pcj := 58) (lvj := (fun v10 => [(0, .ref (q 1)), (1, .int a1), (3, .int v3)])) (stj := (fun v10 => [.int v10, .int v2])) (fun v10 => ?_) (fun k9 hk9 => ?_)
            · refine v_iadd C dX0_wholeUnions_58 ?_
              refine v_istore_n_nm C (lvf := fun x11 => [(2, .int x11), (0, .ref (q 1)), (1, .int a1), (3, .int v3)]) dX0_wholeUnions_59 rfl (by decide) (fun _ => rfl) (fun x11 => ?_)
              exact v_sub [1, 2, 0, 3] rfl (hk5 x11)
            · refine v_icmp_ne C dX0_wholeUnions_50 (tgt := 57) (by decide) ?_ ?_
              · refine v_iconst C dX0_wholeUnions_57 (v := 0) (by decide) ?_
                exact v_sub [0, 1, 3] rfl (hk9 0)
              · refine v_iconst C dX0_wholeUnions_53 (v := 1) (by decide) ?_
                refine v_goto C dX0_wholeUnions_54 (tgt := 58) (by decide) ?_
                exact v_sub [0, 1, 3] rfl (hk9 1)
          · refine v_iconst C dX0_wholeUnions_37 (v := (-1)) (by decide) ?_
            exact v_iret (rvf := fun (res : Int32) => (some (.int res))) (wf := fun (res : Int32) => (xW q cs n nd es kn knd kes img tl ta tn sl bey wt un ed kwt kun ked tb sb sz sbs G K P wk wh)) C dX0_wholeUnions_38 rfl rfl

set_option maxRecDepth 100000 in
set_option maxHeartbeats 4000000 in
theorem k_X0_wholeUnions {l : Launch} {a1 : Int32}  {res : Int32} (hq : (xA q).Nodup)  (hf : f_X0_wholeUnions n un a1 = some res) : kMet l yX0_wholeUnions wsX0_wholeUnions { frames := 2, cells := 0, slots := 0, locals := 42 } D vwCl (xT cs) (xN tF) (xA q) [.ref (q 1), .int a1] (xW q cs n nd es kn knd kes img tl ta tn sl bey wt un ed kwt kun ked tb sb sz sbs G K P wk wh) (some (.int res)) (xW q cs n nd es kn knd kes img tl ta tn sl bey wt un ed kwt kun ked tb sb sz sbs G K P wk wh) := by
  refine kMet.of (cc := cX0_wholeUnions) (nL := 4) (ret := (some .int)) (own := RX0) (lv := [(0, .ref (q 1)), (1, .int a1)]) (by decide +kernel) rfl rfl xN_ok hq (Nat.le_of_ble_eq_true rfl) rfl (fun X C => ?_)
  refine VF.of hf ?_
  unfold f_X0_wholeUnions
  refine v_iconst C dX0_wholeUnions_0 (v := 0) (by decide) ?_
  refine v_istore_n C (lv' := [(2, .int 0), (0, .ref (q 1)), (1, .int a1)]) dX0_wholeUnions_1 rfl (by decide) rfl ?_
  refine v_iconst C dX0_wholeUnions_2 (v := 0) (by decide) ?_
  refine v_istore_n C (lv' := [(3, .int 0), (2, .int 0), (0, .ref (q 1)), (1, .int a1)]) dX0_wholeUnions_3 rfl (by decide) rfl ?_
  refine v_sub [2, 3, 1, 0] rfl (lp_X0_wholeUnions_1 hq C   FU 0 0)

def B_X0_countEdges_1 (ed : Nat → Int32) (rec1 : Int32 → Int32 → Option (Int32))  (v2 : Int32) (v3 : Int32) : Option (Int32) :=
if (v3 : Int32) < 81 then (
ck (inb v3 81) (
jn1 (fun (v5 : Int32) =>
nm (v3 + 1) (fun (x6 : Int32) =>
rec1 v5 x6)) (fun k4 =>
if (ed v3.toNatClampNeg : Int32) = 10000 then (
k4 v2) else (
nm (v2 + 1) (fun (x7 : Int32) =>
k4 x7))))) else (
some v2)
def L_X0_countEdges_1 (ed : Nat → Int32)  : Nat → Int32 → Int32 → Option (Int32)
  | 0, _, _ => none
  | m9 + 1, v2, v3 => B_X0_countEdges_1 ed (L_X0_countEdges_1 ed m9)  v2 v3

def f_X0_countEdges (ed : Nat → Int32) : Option (Int32) :=
L_X0_countEdges_1 ed  FU 0 0

theorem nI_X0_countEdges : NameIn yX0_countEdges 0 := ⟨by decide +kernel, by decide +kernel, by decide +kernel⟩
set_option maxRecDepth 100000 in
set_option maxHeartbeats 4000000 in
theorem lp_X0_countEdges_1 {X : CX} {res : Int32}    (hq : (xA q).Nodup) (C : Ok X cX0_countEdges 3 (some .int) wsX0_countEdges RX0 { frames := 0, cells := 0, slots := 0, locals := 0 } D vwCl (xT cs) (xA q) (xN tF) (some (.int res)) (xW q cs n nd es kn knd kes img tl ta tn sl bey wt un ed kwt kun ked tb sb sz sbs G K P wk wh))  : ∀ fuel : Nat, ∀ v2 : Int32, ∀ v3 : Int32, VF X res (L_X0_countEdges_1 ed fuel v2 v3) (xW q cs n nd es kn knd kes img tl ta tn sl bey wt un ed kwt kun ked tb sb sz sbs G K P wk wh) 4 [(0, .ref (q 1)), (1, .int v2), (2, .int v3)] [] := by
  have iX0 : ∀ w ∈ wsX00, w ∈ wsX0_countEdges := fun _ h => List.mem_cons_of_mem _ (List.mem_append_right _ h)
  intro fuel
  induction fuel with
  | zero =>
    intro _ _
    exact v_none
  | succ fuel ih =>
    intro v2 v3
    show VF X res (B_X0_countEdges_1 ed (L_X0_countEdges_1 ed fuel)  v2 v3) _ _ _ _
    unfold B_X0_countEdges_1
    refine v_iload_n C 2 dX0_countEdges_4 rfl ?_
    refine v_aload_n C 0 dX0_countEdges_5 rfl ?_
    refine v_get C (T := TX0) (n := 7) (C9 := RX0) iX0 1 rfl rfl 5 (by decide) (List.mem_of_getElem? (i := 1) rfl) rfl rfl dX0_countEdges_6 ?_
    refine v_alen C (v := 81) 9 0 rfl rfl rfl dX0_countEdges_9 ?_
    refine v_icmp_ge C dX0_countEdges_10 (tgt := 34) (by decide) ?_ ?_
    · refine v_iload_n C 1 dX0_countEdges_34 rfl ?_
      exact v_iret (rvf := fun (res : Int32) => (some (.int res))) (wf := fun (res : Int32) => (xW q cs n nd es kn knd kes img tl ta tn sl bey wt un ed kwt kun ked tb sb sz sbs G K P wk wh)) C dX0_countEdges_35 rfl rfl
    · refine v_aload_n C 0 dX0_countEdges_13 rfl ?_
      refine v_get C (T := TX0) (n := 7) (C9 := RX0) iX0 1 rfl rfl 5 (by decide) (List.mem_of_getElem? (i := 1) rfl) rfl rfl dX0_countEdges_14 ?_
      refine v_iload_n C 2 dX0_countEdges_17 rfl ?_
      refine v_iald C 9 0 rfl rfl dX0_countEdges_18 ?_
      refine v_sipush C dX0_countEdges_19 (v := 10000) (by decide) ?_
      refine v_jn1 (wj := (fun v5 => (xW q cs n nd es kn knd kes img tl ta tn sl bey wt un ed kwt kun ked tb sb sz sbs G K P wk wh))) (pcj := 28) (lvj := (fun v5 => [(0, .ref (q 1)), (1, .int v5), (2, .int v3)])) (stj := (fun v5 => [])) (fun v5 => ?_) (fun k4 hk4 => ?_)
      · refine v_iinc_nm C (lvf := fun x6 => [(2, .int x6), (0, .ref (q 1)), (1, .int v5)]) 2 dX0_countEdges_28 rfl rfl (by decide) (fun _ => rfl) (fun x6 => ?_)
        refine v_goto C dX0_countEdges_31 (tgt := 4) (by decide) ?_
        exact v_sub [1, 2, 0] rfl (ih v5 x6)
      · refine v_icmp_eq C dX0_countEdges_22 (tgt := 28) (by decide) ?_ ?_
        · exact v_sub [0, 1, 2] rfl (hk4 v2)
        · refine v_iinc_nm C (lvf := fun x7 => [(1, .int x7), (0, .ref (q 1)), (2, .int v3)]) 1 dX0_countEdges_25 rfl rfl (by decide) (fun _ => rfl) (fun x7 => ?_)
          exact v_sub [1, 0, 2] rfl (hk4 x7)

set_option maxRecDepth 100000 in
set_option maxHeartbeats 4000000 in
theorem k_X0_countEdges {l : Launch}   {res : Int32} (hq : (xA q).Nodup)  (hf : f_X0_countEdges ed = some res) : kMet l yX0_countEdges wsX0_countEdges { frames := 0, cells := 0, slots := 0, locals := 0 } D vwCl (xT cs) (xN tF) (xA q) [.ref (q 1)] (xW q cs n nd es kn knd kes img tl ta tn sl bey wt un ed kwt kun ked tb sb sz sbs G K P wk wh) (some (.int res)) (xW q cs n nd es kn knd kes img tl ta tn sl bey wt un ed kwt kun ked tb sb sz sbs G K P wk wh) := by
  refine kMet.of (cc := cX0_countEdges) (nL := 3) (ret := (some .int)) (own := RX0) (lv := [(0, .ref (q 1))]) (by decide +kernel) rfl rfl xN_ok hq (Nat.le_of_ble_eq_true rfl) rfl (fun X C => ?_)
  refine VF.of hf ?_
  unfold f_X0_countEdges
  refine v_iconst C dX0_countEdges_0 (v := 0) (by decide) ?_
  refine v_istore_n C (lv' := [(1, .int 0), (0, .ref (q 1))]) dX0_countEdges_1 rfl (by decide) rfl ?_
  refine v_iconst C dX0_countEdges_2 (v := 0) (by decide) ?_
  refine v_istore_n C (lv' := [(2, .int 0), (1, .int 0), (0, .ref (q 1))]) dX0_countEdges_3 rfl (by decide) rfl ?_
  refine v_sub [2, 1, 0] rfl (lp_X0_countEdges_1 hq C   FU 0 0)

def B_X0_weigh_1 (n : Int32) (wt : Nat → Int32) (a1 : Int32) (rec1 : Int32 → Int32 → Option (Int32))  (v2 : Int32) (v3 : Int32) : Option (Int32) :=
if (v3 : Int32) < n then (
(f_X5_has a1 v3).bind (fun (r4 : Bool) =>
jn1 (fun (v6 : Int32) =>
nm (v2 + v6) (fun (x7 : Int32) =>
nm (v3 + 1) (fun (x8 : Int32) =>
rec1 x7 x8))) (fun k5 =>
if r4 = true then (
ck (inb v3 9) (
k5 (wt v3.toNatClampNeg))) else (
k5 0)))) else (
some v2)
def L_X0_weigh_1 (n : Int32) (wt : Nat → Int32) (a1 : Int32)  : Nat → Int32 → Int32 → Option (Int32)
  | 0, _, _ => none
  | m9 + 1, v2, v3 => B_X0_weigh_1 n wt a1 (L_X0_weigh_1 n wt a1 m9)  v2 v3

def f_X0_weigh (n : Int32) (wt : Nat → Int32) (a1 : Int32) : Option (Int32) :=
L_X0_weigh_1 n wt a1  FU 0 0

theorem nI_X0_weigh : NameIn yX0_weigh 1 := ⟨by decide +kernel, by decide +kernel, by decide +kernel⟩
set_option maxRecDepth 100000 in
set_option maxHeartbeats 4000000 in
theorem lp_X0_weigh_1 {X : CX} {res : Int32} {a1 : Int32}   (hq : (xA q).Nodup) (C : Ok X cX0_weigh 4 (some .int) wsX0_weigh RX0 { frames := 1, cells := 0, slots := 0, locals := 21 } D vwCl (xT cs) (xA q) (xN tF) (some (.int res)) (xW q cs n nd es kn knd kes img tl ta tn sl bey wt un ed kwt kun ked tb sb sz sbs G K P wk wh))  : ∀ fuel : Nat, ∀ v2 : Int32, ∀ v3 : Int32, VF X res (L_X0_weigh_1 n wt a1 fuel v2 v3) (xW q cs n nd es kn knd kes img tl ta tn sl bey wt un ed kwt kun ked tb sb sz sbs G K P wk wh) 4 [(0, .ref (q 1)), (1, .int a1), (2, .int v2), (3, .int v3)] [] := by
  have iX0 : ∀ w ∈ wsX00, w ∈ wsX0_weigh := fun _ h => List.mem_cons_of_mem _ (List.mem_append_right _ h)
  intro fuel
  induction fuel with
  | zero =>
    intro _ _
    exact v_none
  | succ fuel ih =>
    intro v2 v3
    show VF X res (B_X0_weigh_1 n wt a1 (L_X0_weigh_1 n wt a1 fuel)  v2 v3) _ _ _ _
    unfold B_X0_weigh_1
    refine v_iload_n C 3 dX0_weigh_4 rfl ?_
    refine v_aload_n C 0 dX0_weigh_5 rfl ?_
    refine v_get C (T := TX0) (n := 7) (C9 := RX0) iX0 1 rfl rfl 0 (by decide) (List.mem_of_getElem? (i := 1) rfl) rfl rfl dX0_weigh_6 ?_
    refine v_icmp_ge C dX0_weigh_9 (tgt := 39) (by decide) ?_ ?_
    · refine v_iload_n C 2 dX0_weigh_39 rfl ?_
      exact v_iret (rvf := fun (res : Int32) => (some (.int res))) (wf := fun (res : Int32) => (xW q cs n nd es kn knd kes img tl ta tn sl bey wt un ed kwt kun ked tb sb sz sbs G K P wk wh)) C dX0_weigh_40 rfl rfl
    · refine v_iload_n C 2 dX0_weigh_12 rfl ?_
      refine v_iload_n C 1 dX0_weigh_13 rfl ?_
      refine v_iload_n C 3 dX0_weigh_14 rfl ?_
      refine v_callNP2v C (fun l9 r9 h9 => k_X5_has (l := l9) h9) gX0_weigh_X5_has_n59 (List.mem_of_getElem? (i := 3) rfl) (List.mem_of_getElem? (i := 4) rfl) (fun _ _ h9 => xN_X0_59 h9) rfl nI_X5_has ⟨rfl, rfl, Nat.le_of_ble_eq_true rfl, Nat.le_of_ble_eq_true rfl⟩ dX0_weigh_15 (Nat.le_of_ble_eq_true rfl) (fun r4 => ?_)
      refine v_jn1 (wj := (fun v6 => (xW q cs n nd es kn knd kes img tl ta tn sl bey wt un ed kwt kun ked tb sb sz sbs G K P wk wh))) (pcj := 31) (lvj := (fun v6 => [(0, .ref (q 1)), (1, .int a1), (3, .int v3)])) (stj := (fun v6 => [.int v6, .int v2])) (fun v6 => ?_) (fun k5 hk5 => ?_)
      · refine v_iadd C dX0_weigh_31 ?_
        refine v_istore_n_nm C (lvf := fun x7 => [(2, .int x7), (0, .ref (q 1)), (1, .int a1), (3, .int v3)]) dX0_weigh_32 rfl (by decide) (fun _ => rfl) (fun x7 => ?_)
        refine v_iinc_nm C (lvf := fun x8 => [(3, .int x8), (2, .int x7), (0, .ref (q 1)), (1, .int a1)]) 3 dX0_weigh_33 rfl rfl (by decide) (fun _ => rfl) (fun x8 => ?_)
        refine v_goto C dX0_weigh_36 (tgt := 4) (by decide) ?_
        exact v_sub [2, 3, 1, 0] rfl (ih x7 x8)
      · refine v_ifb_eq C (b := r4) dX0_weigh_18 (tgt := 30) (by decide) ?_ ?_
        · refine v_iconst C dX0_weigh_30 (v := 0) (by decide) ?_
          exact v_sub [0, 1, 3] rfl (hk5 0)
        · refine v_aload_n C 0 dX0_weigh_21 rfl ?_
          refine v_get C (T := TX0) (n := 7) (C9 := RX0) iX0 1 rfl rfl 3 (by decide) (List.mem_of_getElem? (i := 2) rfl) rfl rfl dX0_weigh_22 ?_
          refine v_iload_n C 3 dX0_weigh_25 rfl ?_
          refine v_iald C 7 0 rfl rfl dX0_weigh_26 ?_
          refine v_goto C dX0_weigh_27 (tgt := 31) (by decide) ?_
          exact v_sub [0, 1, 3] rfl (hk5 (wt v3.toNatClampNeg))

set_option maxRecDepth 100000 in
set_option maxHeartbeats 4000000 in
theorem k_X0_weigh {l : Launch} {a1 : Int32}  {res : Int32} (hq : (xA q).Nodup)  (hf : f_X0_weigh n wt a1 = some res) : kMet l yX0_weigh wsX0_weigh { frames := 1, cells := 0, slots := 0, locals := 21 } D vwCl (xT cs) (xN tF) (xA q) [.ref (q 1), .int a1] (xW q cs n nd es kn knd kes img tl ta tn sl bey wt un ed kwt kun ked tb sb sz sbs G K P wk wh) (some (.int res)) (xW q cs n nd es kn knd kes img tl ta tn sl bey wt un ed kwt kun ked tb sb sz sbs G K P wk wh) := by
  refine kMet.of (cc := cX0_weigh) (nL := 4) (ret := (some .int)) (own := RX0) (lv := [(0, .ref (q 1)), (1, .int a1)]) (by decide +kernel) rfl rfl xN_ok hq (Nat.le_of_ble_eq_true rfl) rfl (fun X C => ?_)
  refine VF.of hf ?_
  unfold f_X0_weigh
  refine v_iconst C dX0_weigh_0 (v := 0) (by decide) ?_
  refine v_istore_n C (lv' := [(2, .int 0), (0, .ref (q 1)), (1, .int a1)]) dX0_weigh_1 rfl (by decide) rfl ?_
  refine v_iconst C dX0_weigh_2 (v := 0) (by decide) ?_
  refine v_istore_n C (lv' := [(3, .int 0), (2, .int 0), (0, .ref (q 1)), (1, .int a1)]) dX0_weigh_3 rfl (by decide) rfl ?_
  refine v_sub [2, 3, 1, 0] rfl (lp_X0_weigh_1 hq C   FU 0 0)

def f_X0_wins (n : Int32) (nd : Int32) (wt : Nat → Int32) (a1 : Int32) : Option (Bool) :=
(f_X0_weigh n wt a1).bind (fun (r1 : Int32) =>
if (r1 : Int32) < nd then (
some false) else (
some true))

theorem nI_X0_wins : NameIn yX0_wins 1 := ⟨by decide +kernel, by decide +kernel, by decide +kernel⟩
set_option maxRecDepth 100000 in
set_option maxHeartbeats 4000000 in
theorem k_X0_wins {l : Launch} {a1 : Int32}  {res : Bool} (hq : (xA q).Nodup)  (hf : f_X0_wins n nd wt a1 = some res) : kMet l yX0_wins wsX0_wins { frames := 2, cells := 0, slots := 0, locals := 44 } D vwCl (xT cs) (xN tF) (xA q) [.ref (q 1), .int a1] (xW q cs n nd es kn knd kes img tl ta tn sl bey wt un ed kwt kun ked tb sb sz sbs G K P wk wh) (some (.int (bI res))) (xW q cs n nd es kn knd kes img tl ta tn sl bey wt un ed kwt kun ked tb sb sz sbs G K P wk wh) := by
  have iX0 : ∀ w ∈ wsX00, w ∈ wsX0_wins := fun _ h => List.mem_cons_of_mem _ (List.mem_append_right _ h)
  refine kMet.of (cc := cX0_wins) (nL := 2) (ret := (some .boolean)) (own := RX0) (lv := [(0, .ref (q 1)), (1, .int a1)]) (by decide +kernel) rfl rfl xN_ok hq (Nat.le_of_ble_eq_true rfl) rfl (fun X C => ?_)
  refine VF.of hf ?_
  unfold f_X0_wins
  refine v_aload_n C 0 dX0_wins_0 rfl ?_
  refine v_iload_n C 1 dX0_wins_1 rfl ?_
  refine v_callV1v C 1 rfl rfl rfl (fun l9 r9 h9 => k_X0_weigh (l := l9) hq  h9) gX0_wins_X0_weigh rfl nI_X0_weigh ⟨rfl, rfl, Nat.le_of_ble_eq_true rfl, Nat.le_of_ble_eq_true rfl⟩ dX0_wins_2 (Nat.le_of_ble_eq_true rfl) (fun r1 => ?_)
  refine v_aload_n C 0 dX0_wins_5 rfl ?_
  refine v_get C (T := TX0) (n := 7) (C9 := RX0) iX0 1 rfl rfl 1 (by decide) (List.mem_of_getElem? (i := 1) rfl) rfl rfl dX0_wins_6 ?_
  refine v_icmp_lt C dX0_wins_9 (tgt := 16) (by decide) ?_ ?_
  · refine v_iconst C dX0_wins_16 (v := 0) (by decide) ?_
    exact v_zret (rvf := fun (res : Bool) => (some (.int (bI res)))) (wf := fun (res : Bool) => (xW q cs n nd es kn knd kes img tl ta tn sl bey wt un ed kwt kun ked tb sb sz sbs G K P wk wh)) C dX0_wins_17 rfl rfl
  · refine v_iconst C dX0_wins_12 (v := 1) (by decide) ?_
    refine v_goto C dX0_wins_13 (tgt := 17) (by decide) ?_
    exact v_zret (rvf := fun (res : Bool) => (some (.int (bI res)))) (wf := fun (res : Bool) => (xW q cs n nd es kn knd kes img tl ta tn sl bey wt un ed kwt kun ked tb sb sz sbs G K P wk wh)) C dX0_wins_17 rfl rfl

def f_X0_isSwing (n : Int32) (nd : Int32) (wt : Nat → Int32) (a1 : Int32) (a2 : Int32) : Option (Bool) :=
(f_X5_has a1 a2).bind (fun (r1 : Bool) =>
jn0 (some false) (fun k2 =>
if r1 = true then (
k2) else (
(f_X0_wins n nd wt a1).bind (fun (r3 : Bool) =>
if r3 = true then (
k2) else (
(f_X0_wins n nd wt (a1 ||| (1 <<< (a2 &&& 31)))).bind (fun (r4 : Bool) =>
if r4 = true then (
some true) else (
k2)))))))

theorem nI_X0_isSwing : NameIn yX0_isSwing 2 := ⟨by decide +kernel, by decide +kernel, by decide +kernel⟩
set_option maxRecDepth 100000 in
set_option maxHeartbeats 4000000 in
theorem k_X0_isSwing {l : Launch} {a1 : Int32} {a2 : Int32}  {res : Bool} (hq : (xA q).Nodup)  (hf : f_X0_isSwing n nd wt a1 a2 = some res) : kMet l yX0_isSwing wsX0_isSwing { frames := 3, cells := 0, slots := 0, locals := 65 } D vwCl (xT cs) (xN tF) (xA q) [.ref (q 1), .int a1, .int a2] (xW q cs n nd es kn knd kes img tl ta tn sl bey wt un ed kwt kun ked tb sb sz sbs G K P wk wh) (some (.int (bI res))) (xW q cs n nd es kn knd kes img tl ta tn sl bey wt un ed kwt kun ked tb sb sz sbs G K P wk wh) := by
  refine kMet.of (cc := cX0_isSwing) (nL := 3) (ret := (some .boolean)) (own := RX0) (lv := [(0, .ref (q 1)), (1, .int a1), (2, .int a2)]) (by decide +kernel) rfl rfl xN_ok hq (Nat.le_of_ble_eq_true rfl) rfl (fun X C => ?_)
  refine VF.of hf ?_
  unfold f_X0_isSwing
  refine v_iload_n C 1 dX0_isSwing_0 rfl ?_
  refine v_iload_n C 2 dX0_isSwing_1 rfl ?_
  refine v_callNP2v C (fun l9 r9 h9 => k_X5_has (l := l9) h9) gX0_isSwing_X5_has_n59 (List.mem_of_getElem? (i := 1) rfl) (List.mem_of_getElem? (i := 2) rfl) (fun _ _ h9 => xN_X0_59 h9) rfl nI_X5_has ⟨rfl, rfl, Nat.le_of_ble_eq_true rfl, Nat.le_of_ble_eq_true rfl⟩ dX0_isSwing_2 (Nat.le_of_ble_eq_true rfl) (fun r1 => ?_)
  refine v_jn0 (wj := ((xW q cs n nd es kn knd kes img tl ta tn sl bey wt un ed kwt kun ked tb sb sz sbs G K P wk wh))) (pcj := 32) (lvj := ([])) (stj := ([])) ?_ (fun k2 hk2 => ?_)
  · refine v_iconst C dX0_isSwing_32 (v := 0) (by decide) ?_
    exact v_zret (rvf := fun (res : Bool) => (some (.int (bI res)))) (wf := fun (res : Bool) => (xW q cs n nd es kn knd kes img tl ta tn sl bey wt un ed kwt kun ked tb sb sz sbs G K P wk wh)) C dX0_isSwing_33 rfl rfl
  · refine v_ifb_ne C (b := r1) dX0_isSwing_5 (tgt := 32) (by decide) ?_ ?_
    · exact v_sub [] rfl (hk2)
    · refine v_aload_n C 0 dX0_isSwing_8 rfl ?_
      refine v_iload_n C 1 dX0_isSwing_9 rfl ?_
      refine v_callV1v C 1 rfl rfl rfl (fun l9 r9 h9 => k_X0_wins (l := l9) hq  h9) gX0_isSwing_X0_wins rfl nI_X0_wins ⟨rfl, rfl, Nat.le_of_ble_eq_true rfl, Nat.le_of_ble_eq_true rfl⟩ dX0_isSwing_10 (Nat.le_of_ble_eq_true rfl) (fun r3 => ?_)
      refine v_ifb_ne C (b := r3) dX0_isSwing_13 (tgt := 32) (by decide) ?_ ?_
      · exact v_sub [] rfl (hk2)
      · refine v_aload_n C 0 dX0_isSwing_16 rfl ?_
        refine v_iload_n C 1 dX0_isSwing_17 rfl ?_
        refine v_iconst C dX0_isSwing_18 (v := 1) (by decide) ?_
        refine v_iload_n C 2 dX0_isSwing_19 rfl ?_
        refine v_ishl C dX0_isSwing_20 ?_
        refine v_ior C dX0_isSwing_21 ?_
        refine v_callV1v C 1 rfl rfl rfl (fun l9 r9 h9 => k_X0_wins (l := l9) hq  h9) gX0_isSwing_X0_wins rfl nI_X0_wins ⟨rfl, rfl, Nat.le_of_ble_eq_true rfl, Nat.le_of_ble_eq_true rfl⟩ dX0_isSwing_22 (Nat.le_of_ble_eq_true rfl) (fun r4 => ?_)
        refine v_ifb_eq C (b := r4) dX0_isSwing_25 (tgt := 32) (by decide) ?_ ?_
        · exact v_sub [] rfl (hk2)
        · refine v_iconst C dX0_isSwing_28 (v := 1) (by decide) ?_
          refine v_goto C dX0_isSwing_29 (tgt := 33) (by decide) ?_
          exact v_zret (rvf := fun (res : Bool) => (some (.int (bI res)))) (wf := fun (res : Bool) => (xW q cs n nd es kn knd kes img tl ta tn sl bey wt un ed kwt kun ked tb sb sz sbs G K P wk wh)) C dX0_isSwing_33 rfl rfl

def B_X0_winsBarely_1 (n : Int32) (nd : Int32) (wt : Nat → Int32) (a1 : Int32) (rec2 : Int32 → Option (Bool))  (v3 : Int32) : Option (Bool) :=
if (v3 : Int32) < n then (
(f_X5_has a1 v3).bind (fun (r4 : Bool) =>
jn0 (nm (v3 + 1) (fun (x6 : Int32) =>
rec2 x6)) (fun k5 =>
if r4 = true then (
(f_X0_wins n nd wt (a1 &&& ((1 <<< (v3 &&& 31)) ^^^ (-1)))).bind (fun (r7 : Bool) =>
if r7 = true then (
some false) else (
k5))) else (
k5)))) else (
some true)
def L_X0_winsBarely_1 (n : Int32) (nd : Int32) (wt : Nat → Int32) (a1 : Int32)  : Nat → Int32 → Option (Bool)
  | 0, _ => none
  | m9 + 1, v3 => B_X0_winsBarely_1 n nd wt a1 (L_X0_winsBarely_1 n nd wt a1 m9)  v3

def f_X0_winsBarely (n : Int32) (nd : Int32) (wt : Nat → Int32) (a1 : Int32) : Option (Bool) :=
(f_X0_wins n nd wt a1).bind (fun (r1 : Bool) =>
if r1 = true then (
L_X0_winsBarely_1 n nd wt a1  FU 0) else (
some false))

theorem nI_X0_winsBarely : NameIn yX0_winsBarely 1 := ⟨by decide +kernel, by decide +kernel, by decide +kernel⟩
set_option maxRecDepth 100000 in
set_option maxHeartbeats 4000000 in
theorem lp_X0_winsBarely_1 {X : CX} {res : Bool} {a1 : Int32}   (hq : (xA q).Nodup) (C : Ok X cX0_winsBarely 3 (some .boolean) wsX0_winsBarely RX0 { frames := 3, cells := 0, slots := 0, locals := 65 } D vwCl (xT cs) (xA q) (xN tF) (some (.int (bI res))) (xW q cs n nd es kn knd kes img tl ta tn sl bey wt un ed kwt kun ked tb sb sz sbs G K P wk wh))  : ∀ fuel : Nat, ∀ v3 : Int32, VF X res (L_X0_winsBarely_1 n nd wt a1 fuel v3) (xW q cs n nd es kn knd kes img tl ta tn sl bey wt un ed kwt kun ked tb sb sz sbs G K P wk wh) 12 [(0, .ref (q 1)), (1, .int a1), (2, .int v3)] [] := by
  have iX0 : ∀ w ∈ wsX00, w ∈ wsX0_winsBarely := fun _ h => List.mem_cons_of_mem _ (List.mem_append_right _ h)
  intro fuel
  induction fuel with
  | zero =>
    intro _
    exact v_none
  | succ fuel ih =>
    intro v3
    show VF X res (B_X0_winsBarely_1 n nd wt a1 (L_X0_winsBarely_1 n nd wt a1 fuel)  v3) _ _ _ _
    unfold B_X0_winsBarely_1
    refine v_iload_n C 2 dX0_winsBarely_12 rfl ?_
    refine v_aload_n C 0 dX0_winsBarely_13 rfl ?_
    refine v_get C (T := TX0) (n := 7) (C9 := RX0) iX0 1 rfl rfl 0 (by decide) (List.mem_of_getElem? (i := 1) rfl) rfl rfl dX0_winsBarely_14 ?_
    refine v_icmp_ge C dX0_winsBarely_17 (tgt := 50) (by decide) ?_ ?_
    · refine v_iconst C dX0_winsBarely_50 (v := 1) (by decide) ?_
      exact v_zret (rvf := fun (res : Bool) => (some (.int (bI res)))) (wf := fun (res : Bool) => (xW q cs n nd es kn knd kes img tl ta tn sl bey wt un ed kwt kun ked tb sb sz sbs G K P wk wh)) C dX0_winsBarely_51 rfl rfl
    · refine v_iload_n C 1 dX0_winsBarely_20 rfl ?_
      refine v_iload_n C 2 dX0_winsBarely_21 rfl ?_
      refine v_callNP2v C (fun l9 r9 h9 => k_X5_has (l := l9) h9) gX0_winsBarely_X5_has_n59 (List.mem_of_getElem? (i := 13) rfl) (List.mem_of_getElem? (i := 14) rfl) (fun _ _ h9 => xN_X0_59 h9) rfl nI_X5_has ⟨rfl, rfl, Nat.le_of_ble_eq_true rfl, Nat.le_of_ble_eq_true rfl⟩ dX0_winsBarely_22 (Nat.le_of_ble_eq_true rfl) (fun r4 => ?_)
      refine v_jn0 (wj := ((xW q cs n nd es kn knd kes img tl ta tn sl bey wt un ed kwt kun ked tb sb sz sbs G K P wk wh))) (pcj := 44) (lvj := ([(0, .ref (q 1)), (1, .int a1), (2, .int v3)])) (stj := ([])) ?_ (fun k5 hk5 => ?_)
      · refine v_iinc_nm C (lvf := fun x6 => [(2, .int x6), (0, .ref (q 1)), (1, .int a1)]) 2 dX0_winsBarely_44 rfl rfl (by decide) (fun _ => rfl) (fun x6 => ?_)
        refine v_goto C dX0_winsBarely_47 (tgt := 12) (by decide) ?_
        exact v_sub [1, 2, 0] rfl (ih x6)
      · refine v_ifb_eq C (b := r4) dX0_winsBarely_25 (tgt := 44) (by decide) ?_ ?_
        · exact v_sub [0, 1, 2] rfl (hk5)
        · refine v_aload_n C 0 dX0_winsBarely_28 rfl ?_
          refine v_iload_n C 1 dX0_winsBarely_29 rfl ?_
          refine v_iconst C dX0_winsBarely_30 (v := 1) (by decide) ?_
          refine v_iload_n C 2 dX0_winsBarely_31 rfl ?_
          refine v_ishl C dX0_winsBarely_32 ?_
          refine v_iconst C dX0_winsBarely_33 (v := (-1)) (by decide) ?_
          refine v_ixor C dX0_winsBarely_34 ?_
          refine v_iand C dX0_winsBarely_35 ?_
          refine v_callV1v C 1 rfl rfl rfl (fun l9 r9 h9 => k_X0_wins (l := l9) hq  h9) gX0_winsBarely_X0_wins rfl nI_X0_wins ⟨rfl, rfl, Nat.le_of_ble_eq_true rfl, Nat.le_of_ble_eq_true rfl⟩ dX0_winsBarely_36 (Nat.le_of_ble_eq_true rfl) (fun r7 => ?_)
          refine v_ifb_eq C (b := r7) dX0_winsBarely_39 (tgt := 44) (by decide) ?_ ?_
          · exact v_sub [0, 1, 2] rfl (hk5)
          · refine v_iconst C dX0_winsBarely_42 (v := 0) (by decide) ?_
            exact v_zret (rvf := fun (res : Bool) => (some (.int (bI res)))) (wf := fun (res : Bool) => (xW q cs n nd es kn knd kes img tl ta tn sl bey wt un ed kwt kun ked tb sb sz sbs G K P wk wh)) C dX0_winsBarely_43 rfl rfl

set_option maxRecDepth 100000 in
set_option maxHeartbeats 4000000 in
theorem k_X0_winsBarely {l : Launch} {a1 : Int32}  {res : Bool} (hq : (xA q).Nodup)  (hf : f_X0_winsBarely n nd wt a1 = some res) : kMet l yX0_winsBarely wsX0_winsBarely { frames := 3, cells := 0, slots := 0, locals := 65 } D vwCl (xT cs) (xN tF) (xA q) [.ref (q 1), .int a1] (xW q cs n nd es kn knd kes img tl ta tn sl bey wt un ed kwt kun ked tb sb sz sbs G K P wk wh) (some (.int (bI res))) (xW q cs n nd es kn knd kes img tl ta tn sl bey wt un ed kwt kun ked tb sb sz sbs G K P wk wh) := by
  refine kMet.of (cc := cX0_winsBarely) (nL := 3) (ret := (some .boolean)) (own := RX0) (lv := [(0, .ref (q 1)), (1, .int a1)]) (by decide +kernel) rfl rfl xN_ok hq (Nat.le_of_ble_eq_true rfl) rfl (fun X C => ?_)
  refine VF.of hf ?_
  unfold f_X0_winsBarely
  refine v_aload_n C 0 dX0_winsBarely_0 rfl ?_
  refine v_iload_n C 1 dX0_winsBarely_1 rfl ?_
  refine v_callV1v C 1 rfl rfl rfl (fun l9 r9 h9 => k_X0_wins (l := l9) hq  h9) gX0_winsBarely_X0_wins rfl nI_X0_wins ⟨rfl, rfl, Nat.le_of_ble_eq_true rfl, Nat.le_of_ble_eq_true rfl⟩ dX0_winsBarely_2 (Nat.le_of_ble_eq_true rfl) (fun r1 => ?_)
  refine v_ifb_ne C (b := r1) dX0_winsBarely_5 (tgt := 10) (by decide) ?_ ?_
  · refine v_iconst C dX0_winsBarely_10 (v := 0) (by decide) ?_
    refine v_istore_n C (lv' := [(2, .int 0), (0, .ref (q 1)), (1, .int a1)]) dX0_winsBarely_11 rfl (by decide) rfl ?_
    refine v_sub [1, 2, 0] rfl (lp_X0_winsBarely_1 hq C   FU 0)
  · refine v_iconst C dX0_winsBarely_8 (v := 0) (by decide) ?_
    exact v_zret (rvf := fun (res : Bool) => (some (.int (bI res)))) (wf := fun (res : Bool) => (xW q cs n nd es kn knd kes img tl ta tn sl bey wt un ed kwt kun ked tb sb sz sbs G K P wk wh)) C dX0_winsBarely_9 rfl rfl

def B_X0_edgesWithin_2 (n : Int32) (ed : Nat → Int32) (a1 : Int32) (v3 : Int32) (rec5 : Int32 → Int32 → Option (Int32)) (kx6 : Int32 → Option (Int32)) (v7 : Int32) (v8 : Int32) : Option (Int32) :=
if (v8 : Int32) < n then (
(f_X5_edgePlace v3 v8).bind (fun (r9 : Int32) =>
ck (inb r9 81) (
nm (ed r9.toNatClampNeg) (fun (x10 : Int32) =>
(f_X5_has a1 v3).bind (fun (r11 : Bool) =>
jn1 (fun (v13 : Int32) =>
nm (v8 + 1) (fun (x14 : Int32) =>
rec5 v13 x14)) (fun k12 =>
if r11 = true then (
(f_X5_has a1 v8).bind (fun (r15 : Bool) =>
if r15 = true then (
if (x10 : Int32) = 10000 then (
k12 v7) else (
nm (v7 + x10) (fun (x16 : Int32) =>
k12 x16))) else (
k12 v7))) else (
k12 v7))))))) else (
kx6 v7)
def L_X0_edgesWithin_2 (n : Int32) (ed : Nat → Int32) (a1 : Int32) (v3 : Int32) (kx6 : Int32 → Option (Int32)) : Nat → Int32 → Int32 → Option (Int32)
  | 0, _, _ => none
  | m9 + 1, v7, v8 => B_X0_edgesWithin_2 n ed a1 v3 (L_X0_edgesWithin_2 n ed a1 v3 kx6 m9) kx6 v7 v8

def B_X0_edgesWithin_1 (n : Int32) (ed : Nat → Int32) (a1 : Int32) (rec1 : Int32 → Int32 → Option (Int32))  (v2 : Int32) (v3 : Int32) : Option (Int32) :=
if (v3 : Int32) < n then (
nm (v3 + 1) (fun (x4 : Int32) =>
L_X0_edgesWithin_2 n ed a1 v3 (fun (v17 : Int32) =>
nm (v3 + 1) (fun (x18 : Int32) =>
rec1 v17 x18)) FU v2 x4)) else (
some v2)
def L_X0_edgesWithin_1 (n : Int32) (ed : Nat → Int32) (a1 : Int32)  : Nat → Int32 → Int32 → Option (Int32)
  | 0, _, _ => none
  | m9 + 1, v2, v3 => B_X0_edgesWithin_1 n ed a1 (L_X0_edgesWithin_1 n ed a1 m9)  v2 v3

def f_X0_edgesWithin (n : Int32) (ed : Nat → Int32) (a1 : Int32) : Option (Int32) :=
L_X0_edgesWithin_1 n ed a1  FU 0 0

theorem nI_X0_edgesWithin : NameIn yX0_edgesWithin 1 := ⟨by decide +kernel, by decide +kernel, by decide +kernel⟩
set_option maxRecDepth 100000 in
set_option maxHeartbeats 4000000 in
theorem lp_X0_edgesWithin_2 {X : CX} {res : Int32} {a1 : Int32}  {v3 : Int32} (hq : (xA q).Nodup) (C : Ok X cX0_edgesWithin 6 (some .int) wsX0_edgesWithin RX0 { frames := 2, cells := 0, slots := 0, locals := 44 } D vwCl (xT cs) (xA q) (xN tF) (some (.int res)) (xW q cs n nd es kn knd kes img tl ta tn sl bey wt un ed kwt kun ked tb sb sz sbs G K P wk wh))  (kx6 : Int32 → Option (Int32)) (Jkx6 : ∀ y2 : Int32, VF X res (kx6 y2) (xW q cs n nd es kn knd kes img tl ta tn sl bey wt un ed kwt kun ked tb sb sz sbs G K P wk wh) 75 [(0, .ref (q 1)), (1, .int a1), (2, .int y2), (3, .int v3)] []) : ∀ fuel : Nat, ∀ v7 : Int32, ∀ v8 : Int32, VF X res (L_X0_edgesWithin_2 n ed a1 v3 kx6 fuel v7 v8) (xW q cs n nd es kn knd kes img tl ta tn sl bey wt un ed kwt kun ked tb sb sz sbs G K P wk wh) 17 [(0, .ref (q 1)), (1, .int a1), (2, .int v7), (3, .int v3), (4, .int v8)] [] := by
  have iX0 : ∀ w ∈ wsX00, w ∈ wsX0_edgesWithin := fun _ h => List.mem_cons_of_mem _ (List.mem_append_right _ h)
  intro fuel
  induction fuel with
  | zero =>
    intro _ _
    exact v_none
  | succ fuel ih =>
    intro v7 v8
    show VF X res (B_X0_edgesWithin_2 n ed a1 v3 (L_X0_edgesWithin_2 n ed a1 v3 kx6 fuel) kx6 v7 v8) _ _ _ _
    unfold B_X0_edgesWithin_2
    refine v_iload C 4 dX0_edgesWithin_17 rfl ?_
    refine v_aload_n C 0 dX0_edgesWithin_19 rfl ?_
    refine v_get C (T := TX0) (n := 7) (C9 := RX0) iX0 1 rfl rfl 0 (by decide) (List.mem_of_getElem? (i := 1) rfl) rfl rfl dX0_edgesWithin_20 ?_
    refine v_icmp_ge C dX0_edgesWithin_23 (tgt := 75) (by decide) ?_ ?_
    · exact v_sub [0, 1, 2, 3] rfl (Jkx6 v7)
    · refine v_aload_n C 0 dX0_edgesWithin_26 rfl ?_
      refine v_get C (T := TX0) (n := 7) (C9 := RX0) iX0 1 rfl rfl 5 (by decide) (List.mem_of_getElem? (i := 2) rfl) rfl rfl dX0_edgesWithin_27 ?_
      refine v_iload_n C 3 dX0_edgesWithin_30 rfl ?_
      refine v_iload C 4 dX0_edgesWithin_31 rfl ?_
      refine v_callNP2v C (fun l9 r9 h9 => k_X5_edgePlace (l := l9) h9) gX0_edgesWithin_X5_edgePlace_n88 (List.mem_of_getElem? (i := 3) rfl) (List.mem_of_getElem? (i := 4) rfl) (fun _ _ h9 => xN_X0_88 h9) rfl nI_X5_edgePlace ⟨rfl, rfl, Nat.le_of_ble_eq_true rfl, Nat.le_of_ble_eq_true rfl⟩ dX0_edgesWithin_33 (Nat.le_of_ble_eq_true rfl) (fun r9 => ?_)
      refine v_iald C 9 0 rfl rfl dX0_edgesWithin_36 ?_
      refine v_istore_nm C (lvf := fun x10 => [(5, .int x10), (0, .ref (q 1)), (1, .int a1), (2, .int v7), (3, .int v3), (4, .int v8)]) dX0_edgesWithin_37 (by decide) (fun _ => rfl) (fun x10 => ?_)
      refine v_iload_n C 2 dX0_edgesWithin_39 rfl ?_
      refine v_iload_n C 4 dX0_edgesWithin_40 rfl ?_
      refine v_callNP2v C (fun l9 r9 h9 => k_X5_has (l := l9) h9) gX0_edgesWithin_X5_has_n59 (List.mem_of_getElem? (i := 13) rfl) (List.mem_of_getElem? (i := 4) rfl) (fun _ _ h9 => xN_X0_59 h9) rfl nI_X5_has ⟨rfl, rfl, Nat.le_of_ble_eq_true rfl, Nat.le_of_ble_eq_true rfl⟩ dX0_edgesWithin_41 (Nat.le_of_ble_eq_true rfl) (fun r11 => ?_)
      refine v_jn1 (wj := (fun v13 => (xW q cs n nd es kn knd kes img tl ta tn sl bey wt un ed kwt kun ked tb sb sz sbs G K P wk wh))) (pcj := 69) (lvj := (fun v13 => [(0, .ref (q 1)), (1, .int a1), (2, .int v13), (3, .int v3), (4, .int v8)])) (stj := (fun v13 => [])) (fun v13 => ?_) (fun k12 hk12 => ?_)
      · refine v_iinc_nm C (lvf := fun x14 => [(4, .int x14), (0, .ref (q 1)), (1, .int a1), (2, .int v13), (3, .int v3)]) 4 dX0_edgesWithin_69 rfl rfl (by decide) (fun _ => rfl) (fun x14 => ?_)
        refine v_goto C dX0_edgesWithin_72 (tgt := 17) (by decide) ?_
        exact v_sub [1, 2, 3, 4, 0] rfl (ih v13 x14)
      · refine v_ifb_eq C (b := r11) dX0_edgesWithin_44 (tgt := 69) (by decide) ?_ ?_
        · exact v_sub [1, 2, 3, 4, 5] rfl (hk12 v7)
        · refine v_iload_n C 2 dX0_edgesWithin_47 rfl ?_
          refine v_iload C 5 dX0_edgesWithin_48 rfl ?_
          refine v_callNP2v C (fun l9 r9 h9 => k_X5_has (l := l9) h9) gX0_edgesWithin_X5_has_n59 (List.mem_of_getElem? (i := 13) rfl) (List.mem_of_getElem? (i := 4) rfl) (fun _ _ h9 => xN_X0_59 h9) rfl nI_X5_has ⟨rfl, rfl, Nat.le_of_ble_eq_true rfl, Nat.le_of_ble_eq_true rfl⟩ dX0_edgesWithin_50 (Nat.le_of_ble_eq_true rfl) (fun r15 => ?_)
          refine v_ifb_eq C (b := r15) dX0_edgesWithin_53 (tgt := 69) (by decide) ?_ ?_
          · exact v_sub [1, 2, 3, 4, 5] rfl (hk12 v7)
          · refine v_iload C 0 dX0_edgesWithin_56 rfl ?_
            refine v_sipush C dX0_edgesWithin_58 (v := 10000) (by decide) ?_
            refine v_icmp_eq C dX0_edgesWithin_61 (tgt := 69) (by decide) ?_ ?_
            · exact v_sub [1, 2, 3, 4, 5] rfl (hk12 v7)
            · refine v_iload_n C 3 dX0_edgesWithin_64 rfl ?_
              refine v_iload C 0 dX0_edgesWithin_65 rfl ?_
              refine v_iadd C dX0_edgesWithin_67 ?_
              refine v_istore_n_nm C (lvf := fun x16 => [(2, .int x16), (5, .int x10), (0, .ref (q 1)), (1, .int a1), (3, .int v3), (4, .int v8)]) dX0_edgesWithin_68 rfl (by decide) (fun _ => rfl) (fun x16 => ?_)
              exact v_sub [2, 3, 0, 4, 5] rfl (hk12 x16)

set_option maxRecDepth 100000 in
set_option maxHeartbeats 4000000 in
theorem lp_X0_edgesWithin_1 {X : CX} {res : Int32} {a1 : Int32}   (hq : (xA q).Nodup) (C : Ok X cX0_edgesWithin 6 (some .int) wsX0_edgesWithin RX0 { frames := 2, cells := 0, slots := 0, locals := 44 } D vwCl (xT cs) (xA q) (xN tF) (some (.int res)) (xW q cs n nd es kn knd kes img tl ta tn sl bey wt un ed kwt kun ked tb sb sz sbs G K P wk wh))  : ∀ fuel : Nat, ∀ v2 : Int32, ∀ v3 : Int32, VF X res (L_X0_edgesWithin_1 n ed a1 fuel v2 v3) (xW q cs n nd es kn knd kes img tl ta tn sl bey wt un ed kwt kun ked tb sb sz sbs G K P wk wh) 4 [(0, .ref (q 1)), (1, .int a1), (2, .int v2), (3, .int v3)] [] := by
  have iX0 : ∀ w ∈ wsX00, w ∈ wsX0_edgesWithin := fun _ h => List.mem_cons_of_mem _ (List.mem_append_right _ h)
  intro fuel
  induction fuel with
  | zero =>
    intro _ _
    exact v_none
  | succ fuel ih =>
    intro v2 v3
    show VF X res (B_X0_edgesWithin_1 n ed a1 (L_X0_edgesWithin_1 n ed a1 fuel)  v2 v3) _ _ _ _
    unfold B_X0_edgesWithin_1
    refine v_iload_n C 3 dX0_edgesWithin_4 rfl ?_
    refine v_aload_n C 0 dX0_edgesWithin_5 rfl ?_
    refine v_get C (T := TX0) (n := 7) (C9 := RX0) iX0 1 rfl rfl 0 (by decide) (List.mem_of_getElem? (i := 1) rfl) rfl rfl dX0_edgesWithin_6 ?_
    refine v_icmp_ge C dX0_edgesWithin_9 (tgt := 81) (by decide) ?_ ?_
    · refine v_iload_n C 2 dX0_edgesWithin_81 rfl ?_
      exact v_iret (rvf := fun (res : Int32) => (some (.int res))) (wf := fun (res : Int32) => (xW q cs n nd es kn knd kes img tl ta tn sl bey wt un ed kwt kun ked tb sb sz sbs G K P wk wh)) C dX0_edgesWithin_82 rfl rfl
    · refine v_iload_n C 3 dX0_edgesWithin_12 rfl ?_
      refine v_iconst C dX0_edgesWithin_13 (v := 1) (by decide) ?_
      refine v_iadd C dX0_edgesWithin_14 ?_
      refine v_istore_nm C (lvf := fun x4 => [(4, .int x4), (0, .ref (q 1)), (1, .int a1), (2, .int v2), (3, .int v3)]) dX0_edgesWithin_15 (by decide) (fun _ => rfl) (fun x4 => ?_)
      refine v_sub [1, 2, 3, 4, 0] rfl (lp_X0_edgesWithin_2 hq C  _ (fun v17 => ?_) FU v2 x4)
      refine v_iinc_nm C (lvf := fun x18 => [(3, .int x18), (0, .ref (q 1)), (1, .int a1), (2, .int v17)]) 3 dX0_edgesWithin_75 rfl rfl (by decide) (fun _ => rfl) (fun x18 => ?_)
      refine v_goto C dX0_edgesWithin_78 (tgt := 4) (by decide) ?_
      exact v_sub [1, 2, 3, 0] rfl (ih v17 x18)

set_option maxRecDepth 100000 in
set_option maxHeartbeats 4000000 in
theorem k_X0_edgesWithin {l : Launch} {a1 : Int32}  {res : Int32} (hq : (xA q).Nodup)  (hf : f_X0_edgesWithin n ed a1 = some res) : kMet l yX0_edgesWithin wsX0_edgesWithin { frames := 2, cells := 0, slots := 0, locals := 44 } D vwCl (xT cs) (xN tF) (xA q) [.ref (q 1), .int a1] (xW q cs n nd es kn knd kes img tl ta tn sl bey wt un ed kwt kun ked tb sb sz sbs G K P wk wh) (some (.int res)) (xW q cs n nd es kn knd kes img tl ta tn sl bey wt un ed kwt kun ked tb sb sz sbs G K P wk wh) := by
  refine kMet.of (cc := cX0_edgesWithin) (nL := 6) (ret := (some .int)) (own := RX0) (lv := [(0, .ref (q 1)), (1, .int a1)]) (by decide +kernel) rfl rfl xN_ok hq (Nat.le_of_ble_eq_true rfl) rfl (fun X C => ?_)
  refine VF.of hf ?_
  unfold f_X0_edgesWithin
  refine v_iconst C dX0_edgesWithin_0 (v := 0) (by decide) ?_
  refine v_istore_n C (lv' := [(2, .int 0), (0, .ref (q 1)), (1, .int a1)]) dX0_edgesWithin_1 rfl (by decide) rfl ?_
  refine v_iconst C dX0_edgesWithin_2 (v := 0) (by decide) ?_
  refine v_istore_n C (lv' := [(3, .int 0), (2, .int 0), (0, .ref (q 1)), (1, .int a1)]) dX0_edgesWithin_3 rfl (by decide) rfl ?_
  refine v_sub [2, 3, 1, 0] rfl (lp_X0_edgesWithin_1 hq C   FU 0 0)

def B_X0_heaviestOf_1 (n : Int32) (wt : Nat → Int32) (a1 : Int32) (rec1 : Int32 → Int32 → Option (Int32))  (v2 : Int32) (v3 : Int32) : Option (Int32) :=
if (v3 : Int32) < n then (
(f_X5_has a1 v3).bind (fun (r4 : Bool) =>
jn1 (fun (v6 : Int32) =>
nm (v3 + 1) (fun (x7 : Int32) =>
rec1 v6 x7)) (fun k5 =>
if r4 = true then (
ck (inb v3 9) (
nm (iMax v2 (wt v3.toNatClampNeg)) (fun (x8 : Int32) =>
k5 x8))) else (
k5 v2)))) else (
some v2)
def L_X0_heaviestOf_1 (n : Int32) (wt : Nat → Int32) (a1 : Int32)  : Nat → Int32 → Int32 → Option (Int32)
  | 0, _, _ => none
  | m9 + 1, v2, v3 => B_X0_heaviestOf_1 n wt a1 (L_X0_heaviestOf_1 n wt a1 m9)  v2 v3

def f_X0_heaviestOf (n : Int32) (wt : Nat → Int32) (a1 : Int32) : Option (Int32) :=
L_X0_heaviestOf_1 n wt a1  FU 0 0

theorem nI_X0_heaviestOf : NameIn yX0_heaviestOf 1 := ⟨by decide +kernel, by decide +kernel, by decide +kernel⟩
set_option maxRecDepth 100000 in
set_option maxHeartbeats 4000000 in
theorem lp_X0_heaviestOf_1 {X : CX} {res : Int32} {a1 : Int32}   (hq : (xA q).Nodup) (C : Ok X cX0_heaviestOf 4 (some .int) wsX0_heaviestOf RX0 { frames := 1, cells := 0, slots := 0, locals := 23 } D vwCl (xT cs) (xA q) (xN tF) (some (.int res)) (xW q cs n nd es kn knd kes img tl ta tn sl bey wt un ed kwt kun ked tb sb sz sbs G K P wk wh))  : ∀ fuel : Nat, ∀ v2 : Int32, ∀ v3 : Int32, VF X res (L_X0_heaviestOf_1 n wt a1 fuel v2 v3) (xW q cs n nd es kn knd kes img tl ta tn sl bey wt un ed kwt kun ked tb sb sz sbs G K P wk wh) 4 [(0, .ref (q 1)), (1, .int a1), (2, .int v2), (3, .int v3)] [] := by
  have iX0 : ∀ w ∈ wsX00, w ∈ wsX0_heaviestOf := fun _ h => List.mem_cons_of_mem _ (List.mem_append_right _ h)
  intro fuel
  induction fuel with
  | zero =>
    intro _ _
    exact v_none
  | succ fuel ih =>
    intro v2 v3
    show VF X res (B_X0_heaviestOf_1 n wt a1 (L_X0_heaviestOf_1 n wt a1 fuel)  v2 v3) _ _ _ _
    unfold B_X0_heaviestOf_1
    refine v_iload_n C 3 dX0_heaviestOf_4 rfl ?_
    refine v_aload_n C 0 dX0_heaviestOf_5 rfl ?_
    refine v_get C (T := TX0) (n := 7) (C9 := RX0) iX0 1 rfl rfl 0 (by decide) (List.mem_of_getElem? (i := 1) rfl) rfl rfl dX0_heaviestOf_6 ?_
    refine v_icmp_ge C dX0_heaviestOf_9 (tgt := 37) (by decide) ?_ ?_
    · refine v_iload_n C 2 dX0_heaviestOf_37 rfl ?_
      exact v_iret (rvf := fun (res : Int32) => (some (.int res))) (wf := fun (res : Int32) => (xW q cs n nd es kn knd kes img tl ta tn sl bey wt un ed kwt kun ked tb sb sz sbs G K P wk wh)) C dX0_heaviestOf_38 rfl rfl
    · refine v_iload_n C 1 dX0_heaviestOf_12 rfl ?_
      refine v_iload_n C 3 dX0_heaviestOf_13 rfl ?_
      refine v_callNP2v C (fun l9 r9 h9 => k_X5_has (l := l9) h9) gX0_heaviestOf_X5_has_n59 (List.mem_of_getElem? (i := 7) rfl) (List.mem_of_getElem? (i := 8) rfl) (fun _ _ h9 => xN_X0_59 h9) rfl nI_X5_has ⟨rfl, rfl, Nat.le_of_ble_eq_true rfl, Nat.le_of_ble_eq_true rfl⟩ dX0_heaviestOf_14 (Nat.le_of_ble_eq_true rfl) (fun r4 => ?_)
      refine v_jn1 (wj := (fun v6 => (xW q cs n nd es kn knd kes img tl ta tn sl bey wt un ed kwt kun ked tb sb sz sbs G K P wk wh))) (pcj := 31) (lvj := (fun v6 => [(0, .ref (q 1)), (1, .int a1), (2, .int v6), (3, .int v3)])) (stj := (fun v6 => [])) (fun v6 => ?_) (fun k5 hk5 => ?_)
      · refine v_iinc_nm C (lvf := fun x7 => [(3, .int x7), (0, .ref (q 1)), (1, .int a1), (2, .int v6)]) 3 dX0_heaviestOf_31 rfl rfl (by decide) (fun _ => rfl) (fun x7 => ?_)
        refine v_goto C dX0_heaviestOf_34 (tgt := 4) (by decide) ?_
        exact v_sub [1, 2, 3, 0] rfl (ih v6 x7)
      · refine v_ifb_eq C (b := r4) dX0_heaviestOf_17 (tgt := 31) (by decide) ?_ ?_
        · exact v_sub [0, 1, 2, 3] rfl (hk5 v2)
        · refine v_iload_n C 2 dX0_heaviestOf_20 rfl ?_
          refine v_aload_n C 0 dX0_heaviestOf_21 rfl ?_
          refine v_get C (T := TX0) (n := 7) (C9 := RX0) iX0 1 rfl rfl 3 (by decide) (List.mem_of_getElem? (i := 2) rfl) rfl rfl dX0_heaviestOf_22 ?_
          refine v_iload_n C 3 dX0_heaviestOf_25 rfl ?_
          refine v_iald C 7 0 rfl rfl dX0_heaviestOf_26 ?_
          refine v_mmax C (List.mem_of_getElem? (i := 3) rfl) (List.mem_of_getElem? (i := 4) rfl) (List.mem_of_getElem? (i := 5) rfl) (List.mem_of_getElem? (i := 6) rfl) (Nat.le_of_ble_eq_true rfl) (Nat.le_of_ble_eq_true rfl) dX0_heaviestOf_27 ?_
          refine v_istore_n_nm C (lvf := fun x8 => [(2, .int x8), (0, .ref (q 1)), (1, .int a1), (3, .int v3)]) dX0_heaviestOf_30 rfl (by decide) (fun _ => rfl) (fun x8 => ?_)
          exact v_sub [1, 2, 0, 3] rfl (hk5 x8)

set_option maxRecDepth 100000 in
set_option maxHeartbeats 4000000 in
theorem k_X0_heaviestOf {l : Launch} {a1 : Int32}  {res : Int32} (hq : (xA q).Nodup)  (hf : f_X0_heaviestOf n wt a1 = some res) : kMet l yX0_heaviestOf wsX0_heaviestOf { frames := 1, cells := 0, slots := 0, locals := 23 } D vwCl (xT cs) (xN tF) (xA q) [.ref (q 1), .int a1] (xW q cs n nd es kn knd kes img tl ta tn sl bey wt un ed kwt kun ked tb sb sz sbs G K P wk wh) (some (.int res)) (xW q cs n nd es kn knd kes img tl ta tn sl bey wt un ed kwt kun ked tb sb sz sbs G K P wk wh) := by
  refine kMet.of (cc := cX0_heaviestOf) (nL := 4) (ret := (some .int)) (own := RX0) (lv := [(0, .ref (q 1)), (1, .int a1)]) (by decide +kernel) rfl rfl xN_ok hq (Nat.le_of_ble_eq_true rfl) rfl (fun X C => ?_)
  refine VF.of hf ?_
  unfold f_X0_heaviestOf
  refine v_iconst C dX0_heaviestOf_0 (v := 0) (by decide) ?_
  refine v_istore_n C (lv' := [(2, .int 0), (0, .ref (q 1)), (1, .int a1)]) dX0_heaviestOf_1 rfl (by decide) rfl ?_
  refine v_iconst C dX0_heaviestOf_2 (v := 0) (by decide) ?_
  refine v_istore_n C (lv' := [(3, .int 0), (2, .int 0), (0, .ref (q 1)), (1, .int a1)]) dX0_heaviestOf_3 rfl (by decide) rfl ?_
  refine v_sub [2, 3, 1, 0] rfl (lp_X0_heaviestOf_1 hq C   FU 0 0)

def f_X0_madeValue (n : Int32) (nd : Int32) (es : Int32) (wt : Nat → Int32) (ed : Nat → Int32) (a1 : Int32) (a2 : Int32) : Option (Int64) :=
if (a1 : Int32) = 0 then (
(f_X0_wins n nd wt a2).bind (fun (r1 : Bool) =>
if r1 = true then (
some 1) else (
some 0))) else (
if (a1 : Int32) = 1 then (
(f_X0_weigh n wt a2).bind (fun (r2 : Int32) =>
some r2.toInt64)) else (
if (a1 : Int32) = 2 then (
(f_X0_edgesWithin n ed a2).bind (fun (r3 : Int32) =>
some r3.toInt64)) else (
if (a1 : Int32) = 3 then (
(f_X0_heaviestOf n wt a2).bind (fun (r4 : Int32) =>
some r4.toInt64)) else (
(f_X0_everyone n).bind (fun (r5 : Int32) =>
(f_X0_weigh n wt (r5 &&& (a2 ^^^ (-1)))).bind (fun (r6 : Int32) =>
some ((iMax 0 (es - r6)).toInt64)))))))

theorem nI_X0_madeValue : NameIn yX0_madeValue 2 := ⟨by decide +kernel, by decide +kernel, by decide +kernel⟩
set_option maxRecDepth 100000 in
set_option maxHeartbeats 4000000 in
theorem k_X0_madeValue {l : Launch} {a1 : Int32} {a2 : Int32}  {res : Int64} (hq : (xA q).Nodup)  (hf : f_X0_madeValue n nd es wt ed a1 a2 = some res) : kMet l yX0_madeValue wsX0_madeValue { frames := 3, cells := 0, slots := 0, locals := 69 } D vwCl (xT cs) (xN tF) (xA q) [.ref (q 1), .int a1, .int a2] (xW q cs n nd es kn knd kes img tl ta tn sl bey wt un ed kwt kun ked tb sb sz sbs G K P wk wh) (some (.long res)) (xW q cs n nd es kn knd kes img tl ta tn sl bey wt un ed kwt kun ked tb sb sz sbs G K P wk wh) := by
  have iX0 : ∀ w ∈ wsX00, w ∈ wsX0_madeValue := fun _ h => List.mem_cons_of_mem _ (List.mem_append_right _ h)
  refine kMet.of (cc := cX0_madeValue) (nL := 3) (ret := (some .long)) (own := RX0) (lv := [(0, .ref (q 1)), (1, .int a1), (2, .int a2)]) (by decide +kernel) rfl rfl xN_ok hq (Nat.le_of_ble_eq_true rfl) rfl (fun X C => ?_)
  refine VF.of hf ?_
  unfold f_X0_madeValue
  refine v_iload_n C 1 dX0_madeValue_0 rfl ?_
  refine v_split (fun h0 => ?_) (fun h0 => ?_)
  · refine v_tin C dX0_madeValue_1 (tgt := 32) (off := 31) (by rw [h0]; decide) (by rw [h0]; decide) (by rw [h0]; rfl) (by decide) ?_
    refine v_aload_n C 0 dX0_madeValue_32 rfl ?_
    refine v_iload_n C 2 dX0_madeValue_33 rfl ?_
    refine v_callV1v C 1 rfl rfl rfl (fun l9 r9 h9 => k_X0_wins (l := l9) hq  h9) gX0_madeValue_X0_wins rfl nI_X0_wins ⟨rfl, rfl, Nat.le_of_ble_eq_true rfl, Nat.le_of_ble_eq_true rfl⟩ dX0_madeValue_34 (Nat.le_of_ble_eq_true rfl) (fun r1 => ?_)
    refine v_ifb_eq C (b := r1) dX0_madeValue_37 (tgt := 44) (by decide) ?_ ?_
    · refine v_lconst C dX0_madeValue_44 (v := 0) (by decide) ?_
      exact v_lret (rvf := fun (res : Int64) => (some (.long res))) (wf := fun (res : Int64) => (xW q cs n nd es kn knd kes img tl ta tn sl bey wt un ed kwt kun ked tb sb sz sbs G K P wk wh)) C dX0_madeValue_45 rfl rfl
    · refine v_lconst C dX0_madeValue_40 (v := 1) (by decide) ?_
      refine v_goto C dX0_madeValue_41 (tgt := 45) (by decide) ?_
      exact v_lret (rvf := fun (res : Int64) => (some (.long res))) (wf := fun (res : Int64) => (xW q cs n nd es kn knd kes img tl ta tn sl bey wt un ed kwt kun ked tb sb sz sbs G K P wk wh)) C dX0_madeValue_45 rfl rfl
  · refine v_split (fun h1 => ?_) (fun h1 => ?_)
    · refine v_tin C dX0_madeValue_1 (tgt := 46) (off := 45) (by rw [h1]; decide) (by rw [h1]; decide) (by rw [h1]; rfl) (by decide) ?_
      refine v_aload_n C 0 dX0_madeValue_46 rfl ?_
      refine v_iload_n C 2 dX0_madeValue_47 rfl ?_
      refine v_callV1v C 1 rfl rfl rfl (fun l9 r9 h9 => k_X0_weigh (l := l9) hq  h9) gX0_madeValue_X0_weigh rfl nI_X0_weigh ⟨rfl, rfl, Nat.le_of_ble_eq_true rfl, Nat.le_of_ble_eq_true rfl⟩ dX0_madeValue_48 (Nat.le_of_ble_eq_true rfl) (fun r2 => ?_)
      refine v_i2l C dX0_madeValue_51 ?_
      exact v_lret (rvf := fun (res : Int64) => (some (.long res))) (wf := fun (res : Int64) => (xW q cs n nd es kn knd kes img tl ta tn sl bey wt un ed kwt kun ked tb sb sz sbs G K P wk wh)) C dX0_madeValue_52 rfl rfl
    · refine v_split (fun h2 => ?_) (fun h2 => ?_)
      · refine v_tin C dX0_madeValue_1 (tgt := 53) (off := 52) (by rw [h2]; decide) (by rw [h2]; decide) (by rw [h2]; rfl) (by decide) ?_
        refine v_aload_n C 0 dX0_madeValue_53 rfl ?_
        refine v_iload_n C 2 dX0_madeValue_54 rfl ?_
        refine v_callV1v C 1 rfl rfl rfl (fun l9 r9 h9 => k_X0_edgesWithin (l := l9) hq  h9) gX0_madeValue_X0_edgesWithin rfl nI_X0_edgesWithin ⟨rfl, rfl, Nat.le_of_ble_eq_true rfl, Nat.le_of_ble_eq_true rfl⟩ dX0_madeValue_55 (Nat.le_of_ble_eq_true rfl) (fun r3 => ?_)
        refine v_i2l C dX0_madeValue_58 ?_
        exact v_lret (rvf := fun (res : Int64) => (some (.long res))) (wf := fun (res : Int64) => (xW q cs n nd es kn knd kes img tl ta tn sl bey wt un ed kwt kun ked tb sb sz sbs G K P wk wh)) C dX0_madeValue_59 rfl rfl
      · refine v_split (fun h3 => ?_) (fun h3 => ?_)
        · refine v_tin C dX0_madeValue_1 (tgt := 60) (off := 59) (by rw [h3]; decide) (by rw [h3]; decide) (by rw [h3]; rfl) (by decide) ?_
          refine v_aload_n C 0 dX0_madeValue_60 rfl ?_
          refine v_iload_n C 2 dX0_madeValue_61 rfl ?_
          refine v_callV1v C 1 rfl rfl rfl (fun l9 r9 h9 => k_X0_heaviestOf (l := l9) hq  h9) gX0_madeValue_X0_heaviestOf rfl nI_X0_heaviestOf ⟨rfl, rfl, Nat.le_of_ble_eq_true rfl, Nat.le_of_ble_eq_true rfl⟩ dX0_madeValue_62 (Nat.le_of_ble_eq_true rfl) (fun r4 => ?_)
          refine v_i2l C dX0_madeValue_65 ?_
          exact v_lret (rvf := fun (res : Int64) => (some (.long res))) (wf := fun (res : Int64) => (xW q cs n nd es kn knd kes img tl ta tn sl bey wt un ed kwt kun ked tb sb sz sbs G K P wk wh)) C dX0_madeValue_66 rfl rfl
        · have g0 := i32n h0
          have g1 := i32n h1
          have g2 := i32n h2
          have g3 := i32n h3
          rw [show ((0 : Int32).toInt) = 0 from by decide] at g0
          rw [show ((1 : Int32).toInt) = 1 from by decide] at g1
          rw [show ((2 : Int32).toInt) = 2 from by decide] at g2
          rw [show ((3 : Int32).toInt) = 3 from by decide] at g3
          refine v_tout C dX0_madeValue_1 (tgt := 67) (by omega) (by decide) ?_
          refine v_iconst C dX0_madeValue_67 (v := 0) (by decide) ?_
          refine v_aload_n C 0 dX0_madeValue_68 rfl ?_
          refine v_get C (T := TX0) (n := 7) (C9 := RX0) iX0 1 rfl rfl 2 (by decide) (List.mem_of_getElem? (i := 1) rfl) rfl rfl dX0_madeValue_69 ?_
          refine v_aload_n C 0 dX0_madeValue_72 rfl ?_
          refine v_aload_n C 0 dX0_madeValue_73 rfl ?_
          refine v_callV0v C 1 rfl rfl rfl (fun l9 r9 h9 => k_X0_everyone (l := l9) hq  h9) gX0_madeValue_X0_everyone rfl nI_X0_everyone ⟨rfl, rfl, Nat.le_of_ble_eq_true rfl, Nat.le_of_ble_eq_true rfl⟩ dX0_madeValue_74 (Nat.le_of_ble_eq_true rfl) (fun r5 => ?_)
          refine v_iload_n C 2 dX0_madeValue_77 rfl ?_
          refine v_iconst C dX0_madeValue_78 (v := (-1)) (by decide) ?_
          refine v_ixor C dX0_madeValue_79 ?_
          refine v_iand C dX0_madeValue_80 ?_
          refine v_callV1v C 1 rfl rfl rfl (fun l9 r9 h9 => k_X0_weigh (l := l9) hq  h9) gX0_madeValue_X0_weigh rfl nI_X0_weigh ⟨rfl, rfl, Nat.le_of_ble_eq_true rfl, Nat.le_of_ble_eq_true rfl⟩ dX0_madeValue_81 (Nat.le_of_ble_eq_true rfl) (fun r6 => ?_)
          refine v_isub C dX0_madeValue_84 ?_
          refine v_mmax C (List.mem_of_getElem? (i := 2) rfl) (List.mem_of_getElem? (i := 3) rfl) (List.mem_of_getElem? (i := 4) rfl) (List.mem_of_getElem? (i := 5) rfl) (Nat.le_of_ble_eq_true rfl) (Nat.le_of_ble_eq_true rfl) dX0_madeValue_85 ?_
          refine v_i2l C dX0_madeValue_88 ?_
          exact v_lret (rvf := fun (res : Int64) => (some (.long res))) (wf := fun (res : Int64) => (xW q cs n nd es kn knd kes img tl ta tn sl bey wt un ed kwt kun ked tb sb sz sbs G K P wk wh)) C dX0_madeValue_89 rfl rfl

end WK
