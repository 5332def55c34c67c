section WK
variable {q : Nat → Nat} {cs : Nat → ClassId} {D : va_G} {tF : Nat} {n : Int32} {nd : Int32} {es : Int32} {kn : Int32} {knd : Int32} {kes : Int32} {img : Bool} {tl : Int32} {ta : Int32} {tn : Int64} {sl : Int32} {bey : Bool} {wt : Nat → Int32} {un : Nat → Int32} {ed : Nat → Int32} {kwt : Nat → Int32} {kun : Nat → Int32} {ked : Nat → Int32} {tb : Nat → Int32} {sb : Nat → Int32} {sz : Nat → Int32} {sbs : Nat → Int32} {G : Nat → Nat → Int64} {K : Nat → Nat → Int64} {P : Nat → Nat → Int64} {wk : Nat → Int64} {wh : Nat → Int64}
def f_X4_take (tl : Int32) (ta : Int32) (tb : Nat → Int32) (a1 : Int32) : Option (Bool × Int32) :=
(f_X4_here tl ta tb).bind (fun (r1 : Int32) =>
if (r1 : Int32) = a1 then (
nm (ta + 1) (fun (ta2 : Int32) =>
some (true, ta2))) else (
some (false, ta)))

theorem nI_X4_take : NameIn yX4_take 1 := ⟨by decide +kernel, by decide +kernel, by decide +kernel⟩
set_option maxRecDepth 100000 in
set_option maxHeartbeats 4000000 in
theorem k_X4_take {l : Launch} {a1 : Int32}  {res : Bool × Int32} (hq : (xA q).Nodup)  (hf : f_X4_take tl ta tb a1 = some res) : kMet l yX4_take wsX4_take { frames := 1, cells := 0, slots := 0, locals := 20 } D vwCl (xT cs) (xN tF) (xA q) [.ref (q 3), .int a1] (xW q cs n nd es kn knd kes img tl ta tn sl bey wt un ed kwt kun ked tb sb sz sbs G K P wk wh) (some (.int (bI res.1))) (xW q cs n nd es kn knd kes img tl res.2 tn sl bey wt un ed kwt kun ked tb sb sz sbs G K P wk wh) := by
  have iX4 : ∀ w ∈ wsX40, w ∈ wsX4_take := fun _ h => List.mem_cons_of_mem _ (List.mem_append_right _ h)
  refine kMet.of (cc := cX4_take) (nL := 2) (ret := (some .boolean)) (own := RX4) (lv := [(0, .ref (q 3)), (1, .int a1)]) (by decide +kernel) rfl rfl xN_ok hq (Nat.le_of_ble_eq_true rfl) rfl (fun X C => ?_)
  refine VF.of hf ?_
  unfold f_X4_take
  refine v_aload_n C 0 dX4_take_0 rfl ?_
  refine v_callV0v C 3 rfl rfl rfl (fun l9 r9 h9 => k_X4_here (l := l9) hq  h9) gX4_take_X4_here rfl nI_X4_here ⟨rfl, rfl, Nat.le_of_ble_eq_true rfl, Nat.le_of_ble_eq_true rfl⟩ dX4_take_1 (Nat.le_of_ble_eq_true rfl) (fun r1 => ?_)
  refine v_iload_n C 1 dX4_take_4 rfl ?_
  refine v_icmp_eq C dX4_take_5 (tgt := 10) (by decide) ?_ ?_
  · refine v_aload_n C 0 dX4_take_10 rfl ?_
    refine v_dup C dX4_take_11 rfl ?_
    refine v_get C (T := TX4) (n := 4) (C9 := RX4) iX4 3 rfl rfl 2 (by decide) (List.mem_of_getElem? (i := 1) rfl) rfl rfl dX4_take_12 ?_
    refine v_iconst C dX4_take_15 (v := 1) (by decide) ?_
    refine v_iadd C dX4_take_16 ?_
    refine v_put_nm C (v := (ta + 1 : Int32)) Value.int (ty := .int) (T := TX4) (n := 4) (C9 := RX4) (ty0 := tyX4) (fun ta2 => (xW q cs n nd es kn knd kes img tl ta2 tn sl bey wt un ed kwt kun ked tb sb sz sbs G K P wk wh)) iX4 tyX4_ok nmX4 3 rfl rfl rfl 2 (by decide) (List.mem_of_getElem? (i := 1) rfl) rfl rfl rfl (fun _ => rfl) (fun _ => rfl) (Nat.le_of_ble_eq_true rfl) (fun _ => rfl) dX4_take_17 (fun ta2 => ?_)
    refine v_iconst C dX4_take_20 (v := 1) (by decide) ?_
    exact v_zret (rvf := fun (res : Bool × Int32) => (some (.int (bI res.1)))) (wf := fun (res : Bool × Int32) => (xW q cs n nd es kn knd kes img tl res.2 tn sl bey wt un ed kwt kun ked tb sb sz sbs G K P wk wh)) C dX4_take_21 rfl rfl
  · refine v_iconst C dX4_take_8 (v := 0) (by decide) ?_
    exact v_zret (rvf := fun (res : Bool × Int32) => (some (.int (bI res.1)))) (wf := fun (res : Bool × Int32) => (xW q cs n nd es kn knd kes img tl res.2 tn sl bey wt un ed kwt kun ked tb sb sz sbs G K P wk wh)) C dX4_take_9 rfl rfl

def B_X4_readLetters_1 (tl : Int32) (tb : Nat → Int32) (a1 : Int32) (rec1 : Int32 → Int32 → Int32 → Option (Int32 × Int32))  (v2 : Int32) (v3 : Int32) (ta4 : Int32) : Option (Int32 × Int32) :=
if (v3 : Int32) < a1 then (
(f_X4_take tl ta4 tb (((97 + v3).toUInt32 % 65536).toInt32)).bind (fun (r5 : Bool × Int32) =>
jn1 (fun (v7 : Int32) =>
nm (v3 + 1) (fun (x8 : Int32) =>
rec1 v7 x8 r5.2)) (fun k6 =>
if r5.1 = true then (
nm (v2 ||| (1 <<< (v3 &&& 31))) (fun (x9 : Int32) =>
k6 x9)) else (
k6 v2)))) else (
some (v2, ta4))
def L_X4_readLetters_1 (tl : Int32) (tb : Nat → Int32) (a1 : Int32)  : Nat → Int32 → Int32 → Int32 → Option (Int32 × Int32)
  | 0, _, _, _ => none
  | m9 + 1, v2, v3, ta4 => B_X4_readLetters_1 tl tb a1 (L_X4_readLetters_1 tl tb a1 m9)  v2 v3 ta4

def f_X4_readLetters (tl : Int32) (ta : Int32) (tb : Nat → Int32) (a1 : Int32) : Option (Int32 × Int32) :=
L_X4_readLetters_1 tl tb a1  FU 0 0 ta

theorem nI_X4_readLetters : NameIn yX4_readLetters 1 := ⟨by decide +kernel, by decide +kernel, by decide +kernel⟩
set_option maxRecDepth 100000 in
set_option maxHeartbeats 4000000 in
theorem lp_X4_readLetters_1 {X : CX} {res : Int32 × Int32} {a1 : Int32}   (hq : (xA q).Nodup) (C : Ok X cX4_readLetters 4 (some .int) wsX4_readLetters RX4 { frames := 2, cells := 0, slots := 0, locals := 41 } D vwCl (xT cs) (xA q) (xN tF) (some (.int res.1)) (xW q cs n nd es kn knd kes img tl res.2 tn sl bey wt un ed kwt kun ked tb sb sz sbs G K P wk wh))  : ∀ fuel : Nat, ∀ v2 : Int32, ∀ v3 : Int32, ∀ ta4 : Int32, VF X res (L_X4_readLetters_1 tl tb a1 fuel v2 v3 ta4) (xW q cs n nd es kn knd kes img tl ta4 tn sl bey wt un ed kwt kun ked tb sb sz sbs G K P wk wh) 4 [(0, .ref (q 3)), (1, .int a1), (2, .int v2), (3, .int v3)] [] := by
  intro fuel
  induction fuel with
  | zero =>
    intro _ _ _
    exact v_none
  | succ fuel ih =>
    intro v2 v3 ta4
    show VF X res (B_X4_readLetters_1 tl tb a1 (L_X4_readLetters_1 tl tb a1 fuel)  v2 v3 ta4) _ _ _ _
    unfold B_X4_readLetters_1
    refine v_iload_n C 3 dX4_readLetters_4 rfl ?_
    refine v_iload_n C 1 dX4_readLetters_5 rfl ?_
    refine v_icmp_ge C dX4_readLetters_6 (tgt := 33) (by decide) ?_ ?_
    · refine v_iload_n C 2 dX4_readLetters_33 rfl ?_
      exact v_iret (rvf := fun (res : Int32 × Int32) => (some (.int res.1))) (wf := fun (res : Int32 × Int32) => (xW q cs n nd es kn knd kes img tl res.2 tn sl bey wt un ed kwt kun ked tb sb sz sbs G K P wk wh)) C dX4_readLetters_34 rfl rfl
    · refine v_aload_n C 0 dX4_readLetters_9 rfl ?_
      refine v_bipush C dX4_readLetters_10 (v := 97) (by decide) ?_
      refine v_iload_n C 3 dX4_readLetters_12 rfl ?_
      refine v_iadd C dX4_readLetters_13 ?_
      refine v_i2c C dX4_readLetters_14 ?_
      refine v_callV1v C 3 rfl rfl rfl (fun l9 r9 h9 => k_X4_take (l := l9) hq  h9) gX4_readLetters_X4_take rfl nI_X4_take ⟨rfl, rfl, Nat.le_of_ble_eq_true rfl, Nat.le_of_ble_eq_true rfl⟩ dX4_readLetters_15 (Nat.le_of_ble_eq_true rfl) (fun r5 => ?_)
      refine v_jn1 (wj := (fun v7 => (xW q cs n nd es kn knd kes img tl r5.2 tn sl bey wt un ed kwt kun ked tb sb sz sbs G K P wk wh))) (pcj := 27) (lvj := (fun v7 => [(0, .ref (q 3)), (1, .int a1), (2, .int v7), (3, .int v3)])) (stj := (fun v7 => [])) (fun v7 => ?_) (fun k6 hk6 => ?_)
      · refine v_iinc_nm C (lvf := fun x8 => [(3, .int x8), (0, .ref (q 3)), (1, .int a1), (2, .int v7)]) 3 dX4_readLetters_27 rfl rfl (by decide) (fun _ => rfl) (fun x8 => ?_)
        refine v_goto C dX4_readLetters_30 (tgt := 4) (by decide) ?_
        exact v_sub [1, 2, 3, 0] rfl (ih v7 x8 r5.2)
      · refine v_ifb_eq C (b := r5.1) dX4_readLetters_18 (tgt := 27) (by decide) ?_ ?_
        · exact v_sub [0, 1, 2, 3] rfl (hk6 v2)
        · refine v_iload_n C 2 dX4_readLetters_21 rfl ?_
          refine v_iconst C dX4_readLetters_22 (v := 1) (by decide) ?_
          refine v_iload_n C 3 dX4_readLetters_23 rfl ?_
          refine v_ishl C dX4_readLetters_24 ?_
          refine v_ior C dX4_readLetters_25 ?_
          refine v_istore_n_nm C (lvf := fun x9 => [(2, .int x9), (0, .ref (q 3)), (1, .int a1), (3, .int v3)]) dX4_readLetters_26 rfl (by decide) (fun _ => rfl) (fun x9 => ?_)
          exact v_sub [1, 2, 0, 3] rfl (hk6 x9)

set_option maxRecDepth 100000 in
set_option maxHeartbeats 4000000 in
theorem k_X4_readLetters {l : Launch} {a1 : Int32}  {res : Int32 × Int32} (hq : (xA q).Nodup)  (hf : f_X4_readLetters tl ta tb a1 = some res) : kMet l yX4_readLetters wsX4_readLetters { frames := 2, cells := 0, slots := 0, locals := 41 } D vwCl (xT cs) (xN tF) (xA q) [.ref (q 3), .int a1] (xW q cs n nd es kn knd kes img tl ta tn sl bey wt un ed kwt kun ked tb sb sz sbs G K P wk wh) (some (.int res.1)) (xW q cs n nd es kn knd kes img tl res.2 tn sl bey wt un ed kwt kun ked tb sb sz sbs G K P wk wh) := by
  refine kMet.of (cc := cX4_readLetters) (nL := 4) (ret := (some .int)) (own := RX4) (lv := [(0, .ref (q 3)), (1, .int a1)]) (by decide +kernel) rfl rfl xN_ok hq (Nat.le_of_ble_eq_true rfl) rfl (fun X C => ?_)
  refine VF.of hf ?_
  unfold f_X4_readLetters
  refine v_iconst C dX4_readLetters_0 (v := 0) (by decide) ?_
  refine v_istore_n C (lv' := [(2, .int 0), (0, .ref (q 3)), (1, .int a1)]) dX4_readLetters_1 rfl (by decide) rfl ?_
  refine v_iconst C dX4_readLetters_2 (v := 0) (by decide) ?_
  refine v_istore_n C (lv' := [(3, .int 0), (2, .int 0), (0, .ref (q 3)), (1, .int a1)]) dX4_readLetters_3 rfl (by decide) rfl ?_
  refine v_sub [2, 3, 1, 0] rfl (lp_X4_readLetters_1 hq C   FU 0 0 ta)

def B_X4_readNumber_1 (tl : Int32) (tb : Nat → Int32) (rec2 : Int32 → Int64 → Int32 → Int32 → Option (Bool × Int32 × Int64)) (kx3 : Int32 → Int64 → Int32 → Option (Bool × Int32 × Int64)) (v4 : Int32) (v5 : Int64) (v6 : Int32) (ta7 : Int32) : Option (Bool × Int32 × Int64) :=
if (v6 : Int32) < 9 then (
(f_X4_here tl ta7 tb).bind (fun (r8 : Int32) =>
(f_X4_isFigure r8).bind (fun (r9 : Bool) =>
if r9 = true then (
(f_X4_here tl ta7 tb).bind (fun (r10 : Int32) =>
nm ((v5 * 10) + ((r10 - 48).toInt64)) (fun (x11 : Int64) =>
nm (ta7 + 1) (fun (ta12 : Int32) =>
nm (v4 + 1) (fun (x13 : Int32) =>
nm (v6 + 1) (fun (x14 : Int32) =>
rec2 x13 x11 x14 ta12)))))) else (
kx3 v4 v5 ta7)))) else (
kx3 v4 v5 ta7)
def L_X4_readNumber_1 (tl : Int32) (tb : Nat → Int32) (kx3 : Int32 → Int64 → Int32 → Option (Bool × Int32 × Int64)) : Nat → Int32 → Int64 → Int32 → Int32 → Option (Bool × Int32 × Int64)
  | 0, _, _, _, _ => none
  | m9 + 1, v4, v5, v6, ta7 => B_X4_readNumber_1 tl tb (L_X4_readNumber_1 tl tb kx3 m9) kx3 v4 v5 v6 ta7

def f_X4_readNumber (tl : Int32) (ta : Int32) (tn : Int64) (tb : Nat → Int32) : Option (Bool × Int32 × Int64) :=
(f_X4_take tl ta tb 45).bind (fun (r1 : Bool × Int32) =>
L_X4_readNumber_1 tl tb (fun (v15 : Int32) (v16 : Int64) (ta17 : Int32) =>
jn1 (fun (v19 : Int64) =>
nm v19 (fun (tn20 : Int64) =>
if (0 : Int32) < v15 then (
some (true, ta17, tn20)) else (
some (false, ta17, tn20)))) (fun k18 =>
if r1.1 = true then (
k18 (-v16)) else (
k18 v16))) FU 0 0 0 r1.2)

theorem nI_X4_readNumber : NameIn yX4_readNumber 0 := ⟨by decide +kernel, by decide +kernel, by decide +kernel⟩
set_option maxRecDepth 100000 in
set_option maxHeartbeats 4000000 in
theorem lp_X4_readNumber_1 {X : CX} {res : Bool × Int32 × Int64}   {r1 : Bool × Int32} (hq : (xA q).Nodup) (C : Ok X cX4_readNumber 6 (some .boolean) wsX4_readNumber RX4 { frames := 2, cells := 0, slots := 0, locals := 41 } D vwCl (xT cs) (xA q) (xN tF) (some (.int (bI res.1))) (xW q cs n nd es kn knd kes img tl res.2.1 res.2.2 sl bey wt un ed kwt kun ked tb sb sz sbs G K P wk wh))  (kx3 : Int32 → Int64 → Int32 → Option (Bool × Int32 × Int64)) (Jkx3 : ∀ y2 : Int32, ∀ y3 : Int64, ∀ taZz : Int32, VF X res (kx3 y2 y3 taZz) (xW q cs n nd es kn knd kes img tl taZz tn sl bey wt un ed kwt kun ked tb sb sz sbs G K P wk wh) 65 [(0, .ref (q 3)), (1, .int (bI r1.1)), (2, .int y2), (3, .long y3)] []) : ∀ fuel : Nat, ∀ v4 : Int32, ∀ v5 : Int64, ∀ v6 : Int32, ∀ ta7 : Int32, VF X res (L_X4_readNumber_1 tl tb kx3 fuel v4 v5 v6 ta7) (xW q cs n nd es kn knd kes img tl ta7 tn sl bey wt un ed kwt kun ked tb sb sz sbs G K P wk wh) 14 [(0, .ref (q 3)), (1, .int (bI r1.1)), (2, .int v4), (3, .long v5), (5, .int v6)] [] := by
  have iX4 : ∀ w ∈ wsX40, w ∈ wsX4_readNumber := fun _ h => List.mem_cons_of_mem _ (List.mem_append_right _ h)
  intro fuel
  induction fuel with
  | zero =>
    intro _ _ _ _
    exact v_none
  | succ fuel ih =>
    intro v4 v5 v6 ta7
    show VF X res (B_X4_readNumber_1 tl tb (L_X4_readNumber_1 tl tb kx3 fuel) kx3 v4 v5 v6 ta7) _ _ _ _
    unfold B_X4_readNumber_1
    refine v_iload C 4 dX4_readNumber_14 rfl ?_
    refine v_bipush C dX4_readNumber_16 (v := 9) (by decide) ?_
    refine v_icmp_ge C dX4_readNumber_18 (tgt := 65) (by decide) ?_ ?_
    · exact v_sub [0, 1, 2, 3] rfl (Jkx3 v4 v5 ta7)
    · refine v_aload_n C 0 dX4_readNumber_21 rfl ?_
      refine v_callV0v C 3 rfl rfl rfl (fun l9 r9 h9 => k_X4_here (l := l9) hq  h9) gX4_readNumber_X4_here rfl nI_X4_here ⟨rfl, rfl, Nat.le_of_ble_eq_true rfl, Nat.le_of_ble_eq_true rfl⟩ dX4_readNumber_22 (Nat.le_of_ble_eq_true rfl) (fun r8 => ?_)
      refine v_callSP1v C (fun l9 r9 h9 => k_X4_isFigure (l := l9) h9) gX4_readNumber_X4_isFigure rfl nI_X4_isFigure ⟨rfl, rfl, Nat.le_of_ble_eq_true rfl, Nat.le_of_ble_eq_true rfl⟩ dX4_readNumber_25 (Nat.le_of_ble_eq_true rfl) (fun r9 => ?_)
      refine v_ifb_eq C (b := r9) dX4_readNumber_28 (tgt := 65) (by decide) ?_ ?_
      · exact v_sub [0, 1, 2, 3] rfl (Jkx3 v4 v5 ta7)
      · refine v_lload_n C 3 dX4_readNumber_31 rfl ?_
        refine v_ldc2 C (v := 10) (List.mem_of_getElem? (i := 1) rfl) dX4_readNumber_32 ?_
        refine v_lmul C dX4_readNumber_35 ?_
        refine v_aload_n C 0 dX4_readNumber_36 rfl ?_
        refine v_callV0v C 3 rfl rfl rfl (fun l9 r9 h9 => k_X4_here (l := l9) hq  h9) gX4_readNumber_X4_here rfl nI_X4_here ⟨rfl, rfl, Nat.le_of_ble_eq_true rfl, Nat.le_of_ble_eq_true rfl⟩ dX4_readNumber_37 (Nat.le_of_ble_eq_true rfl) (fun r10 => ?_)
        refine v_bipush C dX4_readNumber_40 (v := 48) (by decide) ?_
        refine v_isub C dX4_readNumber_42 ?_
        refine v_i2l C dX4_readNumber_43 ?_
        refine v_ladd C dX4_readNumber_44 ?_
        refine v_lstore_n_nm C (lvf := fun x11 => [(3, .long x11), (0, .ref (q 3)), (1, .int (bI r1.1)), (2, .int v4), (5, .int v6)]) dX4_readNumber_45 rfl (by decide) (fun _ => rfl) (fun x11 => ?_)
        refine v_aload_n C 1 dX4_readNumber_46 rfl ?_
        refine v_dup C dX4_readNumber_47 rfl ?_
        refine v_get C (T := TX4) (n := 4) (C9 := RX4) iX4 3 rfl rfl 2 (by decide) (List.mem_of_getElem? (i := 2) rfl) rfl rfl dX4_readNumber_48 ?_
        refine v_iconst C dX4_readNumber_51 (v := 1) (by decide) ?_
        refine v_iadd C dX4_readNumber_52 ?_
        refine v_put_nm C (v := (ta7 + 1 : Int32)) Value.int (ty := .int) (T := TX4) (n := 4) (C9 := RX4) (ty0 := tyX4) (fun ta12 => (xW q cs n nd es kn knd kes img tl ta12 tn sl bey wt un ed kwt kun ked tb sb sz sbs G K P wk wh)) iX4 tyX4_ok nmX4 3 rfl rfl rfl 2 (by decide) (List.mem_of_getElem? (i := 2) rfl) rfl rfl rfl (fun _ => rfl) (fun _ => rfl) (Nat.le_of_ble_eq_true rfl) (fun _ => rfl) dX4_readNumber_53 (fun ta12 => ?_)
        refine v_iinc_nm C (lvf := fun x13 => [(2, .int x13), (3, .long x11), (0, .ref (q 3)), (1, .int (bI r1.1)), (5, .int v6)]) 3 dX4_readNumber_56 rfl rfl (by decide) (fun _ => rfl) (fun x13 => ?_)
        refine v_iinc_nm C (lvf := fun x14 => [(5, .int x14), (2, .int x13), (3, .long x11), (0, .ref (q 3)), (1, .int (bI r1.1))]) 4 dX4_readNumber_59 rfl rfl (by decide) (fun _ => rfl) (fun x14 => ?_)
        refine v_goto C dX4_readNumber_62 (tgt := 14) (by decide) ?_
        exact v_sub [3, 4, 1, 2, 0] rfl (ih x13 x11 x14 ta12)

set_option maxRecDepth 100000 in
set_option maxHeartbeats 4000000 in
theorem k_X4_readNumber {l : Launch}   {res : Bool × Int32 × Int64} (hq : (xA q).Nodup)  (hf : f_X4_readNumber tl ta tn tb = some res) : kMet l yX4_readNumber wsX4_readNumber { frames := 2, cells := 0, slots := 0, locals := 41 } D vwCl (xT cs) (xN tF) (xA q) [.ref (q 3)] (xW q cs n nd es kn knd kes img tl ta tn sl bey wt un ed kwt kun ked tb sb sz sbs G K P wk wh) (some (.int (bI res.1))) (xW q cs n nd es kn knd kes img tl res.2.1 res.2.2 sl bey wt un ed kwt kun ked tb sb sz sbs G K P wk wh) := by
  have iX4 : ∀ w ∈ wsX40, w ∈ wsX4_readNumber := fun _ h => List.mem_cons_of_mem _ (List.mem_append_right _ h)
  refine kMet.of (cc := cX4_readNumber) (nL := 6) (ret := (some .boolean)) (own := RX4) (lv := [(0, .ref (q 3))]) (by decide +kernel) rfl rfl xN_ok hq (Nat.le_of_ble_eq_true rfl) rfl (fun X C => ?_)
  refine VF.of hf ?_
  unfold f_X4_readNumber
  refine v_aload_n C 0 dX4_readNumber_0 rfl ?_
  refine v_bipush C dX4_readNumber_1 (v := 45) (by decide) ?_
  refine v_callV1v C 3 rfl rfl rfl (fun l9 r9 h9 => k_X4_take (l := l9) hq  h9) gX4_readNumber_X4_take rfl nI_X4_take ⟨rfl, rfl, Nat.le_of_ble_eq_true rfl, Nat.le_of_ble_eq_true rfl⟩ dX4_readNumber_3 (Nat.le_of_ble_eq_true rfl) (fun r1 => ?_)
  refine v_istore_n C (lv' := [(1, .int (bI r1.1)), (0, .ref (q 3))]) dX4_readNumber_6 rfl (by decide) rfl ?_
  refine v_iconst C dX4_readNumber_7 (v := 0) (by decide) ?_
  refine v_istore_n C (lv' := [(2, .int 0), (1, .int (bI r1.1)), (0, .ref (q 3))]) dX4_readNumber_8 rfl (by decide) rfl ?_
  refine v_lconst C dX4_readNumber_9 (v := 0) (by decide) ?_
  refine v_lstore_n C (lv' := [(3, .long 0), (2, .int 0), (1, .int (bI r1.1)), (0, .ref (q 3))]) dX4_readNumber_10 rfl (by decide) rfl ?_
  refine v_iconst C dX4_readNumber_11 (v := 0) (by decide) ?_
  refine v_istore C (lv' := [(5, .int 0), (3, .long 0), (2, .int 0), (1, .int (bI r1.1)), (0, .ref (q 3))]) dX4_readNumber_12 (by decide) rfl ?_
  refine v_sub [4, 3, 2, 1, 0] rfl (lp_X4_readNumber_1 hq C  _ (fun v15 v16 ta17 => ?_) FU 0 0 0 r1.2)
  refine v_aload_n C 0 dX4_readNumber_65 rfl ?_
  refine v_iload_n C 1 dX4_readNumber_66 rfl ?_
  refine v_jn1 (wj := (fun v19 => (xW q cs n nd es kn knd kes img tl ta17 tn sl bey wt un ed kwt kun ked tb sb sz sbs G K P wk wh))) (pcj := 76) (lvj := (fun v19 => [(2, .int v15)])) (stj := (fun v19 => [.long v19, .ref (q 3)])) (fun v19 => ?_) (fun k18 hk18 => ?_)
  · refine v_put_nm C (v := (v19 : Int64)) Value.long (ty := .long) (T := TX4) (n := 4) (C9 := RX4) (ty0 := tyX4) (fun tn20 => (xW q cs n nd es kn knd kes img tl ta17 tn20 sl bey wt un ed kwt kun ked tb sb sz sbs G K P wk wh)) iX4 tyX4_ok nmX4 3 rfl rfl rfl 3 (by decide) (List.mem_of_getElem? (i := 3) rfl) rfl rfl rfl (fun _ => rfl) (fun _ => rfl) (Nat.le_of_ble_eq_true rfl) (fun _ => rfl) dX4_readNumber_76 (fun tn20 => ?_)
    refine v_iload_n C 0 dX4_readNumber_79 rfl ?_
    refine v_if_le C dX4_readNumber_80 (tgt := 87) (by decide) ?_ ?_
    · refine v_iconst C dX4_readNumber_87 (v := 0) (by decide) ?_
      exact v_zret (rvf := fun (res : Bool × Int32 × Int64) => (some (.int (bI res.1)))) (wf := fun (res : Bool × Int32 × Int64) => (xW q cs n nd es kn knd kes img tl res.2.1 res.2.2 sl bey wt un ed kwt kun ked tb sb sz sbs G K P wk wh)) C dX4_readNumber_88 rfl rfl
    · refine v_iconst C dX4_readNumber_83 (v := 1) (by decide) ?_
      refine v_goto C dX4_readNumber_84 (tgt := 88) (by decide) ?_
      exact v_zret (rvf := fun (res : Bool × Int32 × Int64) => (some (.int (bI res.1)))) (wf := fun (res : Bool × Int32 × Int64) => (xW q cs n nd es kn knd kes img tl res.2.1 res.2.2 sl bey wt un ed kwt kun ked tb sb sz sbs G K P wk wh)) C dX4_readNumber_88 rfl rfl
  · refine v_ifb_eq C (b := r1.1) dX4_readNumber_67 (tgt := 75) (by decide) ?_ ?_
    · refine v_lload_n C 3 dX4_readNumber_75 rfl ?_
      exact v_sub [2] rfl (hk18 v16)
    · refine v_lload_n C 3 dX4_readNumber_70 rfl ?_
      refine v_lneg C dX4_readNumber_71 ?_
      refine v_goto C dX4_readNumber_72 (tgt := 76) (by decide) ?_
      exact v_sub [2] rfl (hk18 (-v16))

def f_X4_readPart (tl : Int32) (ta : Int32) (tn : Int64) (tb : Nat → Int32) (wk : Nat → Int64) (a2 : Int32) : Option (Bool × Int32 × Int64 × (Nat → Int64)) :=
(f_X4_readLetters tl ta tb a2).bind (fun (r1 : Int32 × Int32) =>
if (0 : Int32) < r1.1 then (
if (r1.1 : Int32) < 512 then (
(f_X4_take tl r1.2 tb 61).bind (fun (r2 : Bool × Int32) =>
if r2.1 = true then (
(f_X4_readNumber tl r2.2 tn tb).bind (fun (r3 : Bool × Int32 × Int64) =>
if r3.1 = true then (
ck (inb r1.1 512) (
nm (vp_updL wk r1.1.toNatClampNeg r3.2.2) (fun (wk4 : Nat → Int64) =>
some (true, r3.2.1, r3.2.2, wk4)))) else (
some (false, r3.2.1, r3.2.2, wk)))) else (
some (false, r2.2, tn, wk)))) else (
some (false, r1.2, tn, wk))) else (
some (false, r1.2, tn, wk)))

theorem nI_X4_readPart : NameIn yX4_readPart 2 := ⟨by decide +kernel, by decide +kernel, by decide +kernel⟩
set_option maxRecDepth 100000 in
set_option maxHeartbeats 4000000 in
theorem k_X4_readPart {l : Launch} {a2 : Int32}  {res : Bool × Int32 × Int64 × (Nat → Int64)} (hq : (xA q).Nodup)  (hf : f_X4_readPart tl ta tn tb wk a2 = some res) : kMet l yX4_readPart wsX4_readPart { frames := 3, cells := 0, slots := 0, locals := 66 } D vwCl (xT cs) (xN tF) (xA q) [.ref (q 3), .ref (q 19), .int a2] (xW q cs n nd es kn knd kes img tl ta tn sl bey wt un ed kwt kun ked tb sb sz sbs G K P wk wh) (some (.int (bI res.1))) (xW q cs n nd es kn knd kes img tl res.2.1 res.2.2.1 sl bey wt un ed kwt kun ked tb sb sz sbs G K P res.2.2.2 wh) := by
  have iX4 : ∀ w ∈ wsX40, w ∈ wsX4_readPart := fun _ h => List.mem_cons_of_mem _ (List.mem_append_right _ h)
  refine kMet.of (cc := cX4_readPart) (nL := 4) (ret := (some .boolean)) (own := RX4) (lv := [(0, .ref (q 3)), (1, .ref (q 19)), (2, .int a2)]) (by decide +kernel) rfl rfl xN_ok hq (Nat.le_of_ble_eq_true rfl) rfl (fun X C => ?_)
  refine VF.of hf ?_
  unfold f_X4_readPart
  refine v_aload_n C 0 dX4_readPart_0 rfl ?_
  refine v_iload_n C 2 dX4_readPart_1 rfl ?_
  refine v_callV1v C 3 rfl rfl rfl (fun l9 r9 h9 => k_X4_readLetters (l := l9) hq  h9) gX4_readPart_X4_readLetters rfl nI_X4_readLetters ⟨rfl, rfl, Nat.le_of_ble_eq_true rfl, Nat.le_of_ble_eq_true rfl⟩ dX4_readPart_2 (Nat.le_of_ble_eq_true rfl) (fun r1 => ?_)
  refine v_istore_n C (lv' := [(3, .int r1.1), (0, .ref (q 3)), (1, .ref (q 19)), (2, .int a2)]) dX4_readPart_5 rfl (by decide) rfl ?_
  refine v_iload_n C 0 dX4_readPart_6 rfl ?_
  refine v_if_le C dX4_readPart_7 (tgt := 32) (by decide) ?_ ?_
  · refine v_iconst C dX4_readPart_32 (v := 0) (by decide) ?_
    exact v_zret (rvf := fun (res : Bool × Int32 × Int64 × (Nat → Int64)) => (some (.int (bI res.1)))) (wf := fun (res : Bool × Int32 × Int64 × (Nat → Int64)) => (xW q cs n nd es kn knd kes img tl res.2.1 res.2.2.1 sl bey wt un ed kwt kun ked tb sb sz sbs G K P res.2.2.2 wh)) C dX4_readPart_33 rfl rfl
  · refine v_iload_n C 0 dX4_readPart_10 rfl ?_
    refine v_aload_n C 2 dX4_readPart_11 rfl ?_
    refine v_alen C (v := 512) 19 1 rfl rfl rfl dX4_readPart_12 ?_
    refine v_icmp_ge C dX4_readPart_13 (tgt := 32) (by decide) ?_ ?_
    · refine v_iconst C dX4_readPart_32 (v := 0) (by decide) ?_
      exact v_zret (rvf := fun (res : Bool × Int32 × Int64 × (Nat → Int64)) => (some (.int (bI res.1)))) (wf := fun (res : Bool × Int32 × Int64 × (Nat → Int64)) => (xW q cs n nd es kn knd kes img tl res.2.1 res.2.2.1 sl bey wt un ed kwt kun ked tb sb sz sbs G K P res.2.2.2 wh)) C dX4_readPart_33 rfl rfl
    · refine v_aload_n C 1 dX4_readPart_16 rfl ?_
      refine v_bipush C dX4_readPart_17 (v := 61) (by decide) ?_
      refine v_callV1v C 3 rfl rfl rfl (fun l9 r9 h9 => k_X4_take (l := l9) hq  h9) gX4_readPart_X4_take rfl nI_X4_take ⟨rfl, rfl, Nat.le_of_ble_eq_true rfl, Nat.le_of_ble_eq_true rfl⟩ dX4_readPart_19 (Nat.le_of_ble_eq_true rfl) (fun r2 => ?_)
      refine v_ifb_eq C (b := r2.1) dX4_readPart_22 (tgt := 32) (by decide) ?_ ?_
      · refine v_iconst C dX4_readPart_32 (v := 0) (by decide) ?_
        exact v_zret (rvf := fun (res : Bool × Int32 × Int64 × (Nat → Int64)) => (some (.int (bI res.1)))) (wf := fun (res : Bool × Int32 × Int64 × (Nat → Int64)) => (xW q cs n nd es kn knd kes img tl res.2.1 res.2.2.1 sl bey wt un ed kwt kun ked tb sb sz sbs G K P res.2.2.2 wh)) C dX4_readPart_33 rfl rfl
      · refine v_aload_n C 1 dX4_readPart_25 rfl ?_
        refine v_callV0v C 3 rfl rfl rfl (fun l9 r9 h9 => k_X4_readNumber (l := l9) hq  h9) gX4_readPart_X4_readNumber rfl nI_X4_readNumber ⟨rfl, rfl, Nat.le_of_ble_eq_true rfl, Nat.le_of_ble_eq_true rfl⟩ dX4_readPart_26 (Nat.le_of_ble_eq_true rfl) (fun r3 => ?_)
        refine v_ifb_ne C (b := r3.1) dX4_readPart_29 (tgt := 34) (by decide) ?_ ?_
        · refine v_aload_n C 2 dX4_readPart_34 rfl ?_
          refine v_iload_n C 0 dX4_readPart_35 rfl ?_
          refine v_aload_n C 1 dX4_readPart_36 rfl ?_
          refine v_get C (T := TX4) (n := 4) (C9 := RX4) iX4 3 rfl rfl 3 (by decide) (List.mem_of_getElem? (i := 1) rfl) rfl rfl dX4_readPart_37 ?_
          refine v_last_nm C (fun wk4 => (xW q cs n nd es kn knd kes img tl r3.2.1 r3.2.2 sl bey wt un ed kwt kun ked tb sb sz sbs G K P wk4 wh)) 19 1 rfl rfl rfl (fun _ => rfl) dX4_readPart_40 (fun wk4 => ?_)
          refine v_iconst C dX4_readPart_41 (v := 1) (by decide) ?_
          exact v_zret (rvf := fun (res : Bool × Int32 × Int64 × (Nat → Int64)) => (some (.int (bI res.1)))) (wf := fun (res : Bool × Int32 × Int64 × (Nat → Int64)) => (xW q cs n nd es kn knd kes img tl res.2.1 res.2.2.1 sl bey wt un ed kwt kun ked tb sb sz sbs G K P res.2.2.2 wh)) C dX4_readPart_42 rfl rfl
        · refine v_iconst C dX4_readPart_32 (v := 0) (by decide) ?_
          exact v_zret (rvf := fun (res : Bool × Int32 × Int64 × (Nat → Int64)) => (some (.int (bI res.1)))) (wf := fun (res : Bool × Int32 × Int64 × (Nat → Int64)) => (xW q cs n nd es kn knd kes img tl res.2.1 res.2.2.1 sl bey wt un ed kwt kun ked tb sb sz sbs G K P res.2.2.2 wh)) C dX4_readPart_33 rfl rfl

def B_X4_readInto_1 (tl : Int32) (tb : Nat → Int32) (a2 : Int32) (rec2 : Int32 → Bool → Int32 → Int32 → Int64 → (Nat → Int64) → Option (Int32 × Int32 × Int64 × (Nat → Int64))) (kx3 : Int32 → Int32 → Int64 → (Nat → Int64) → Option (Int32 × Int32 × Int64 × (Nat → Int64))) (v4 : Int32) (v5 : Bool) (v6 : Int32) (ta7 : Int32) (tn8 : Int64) (wk9 : Nat → Int64) : Option (Int32 × Int32 × Int64 × (Nat → Int64)) :=
if v5 = true then (
if (v6 : Int32) < 120 then (
(f_X4_readPart tl ta7 tn8 tb wk9 a2).bind (fun (r10 : Bool × Int32 × Int64 × (Nat → Int64)) =>
if r10.1 = true then (
nm (v4 + 1) (fun (x11 : Int32) =>
(f_X4_take tl r10.2.1 tb 59).bind (fun (r12 : Bool × Int32) =>
nm (v6 + 1) (fun (x13 : Int32) =>
rec2 x11 r12.1 x13 r12.2 r10.2.2.1 r10.2.2.2)))) else (
some ((-100) - r10.2.1, r10.2.1, r10.2.2.1, r10.2.2.2)))) else (
kx3 v4 ta7 tn8 wk9)) else (
kx3 v4 ta7 tn8 wk9)
def L_X4_readInto_1 (tl : Int32) (tb : Nat → Int32) (a2 : Int32) (kx3 : Int32 → Int32 → Int64 → (Nat → Int64) → Option (Int32 × Int32 × Int64 × (Nat → Int64))) : Nat → Int32 → Bool → Int32 → Int32 → Int64 → (Nat → Int64) → Option (Int32 × Int32 × Int64 × (Nat → Int64))
  | 0, _, _, _, _, _, _ => none
  | m9 + 1, v4, v5, v6, ta7, tn8, wk9 => B_X4_readInto_1 tl tb a2 (L_X4_readInto_1 tl tb a2 kx3 m9) kx3 v4 v5 v6 ta7 tn8 wk9

def f_X4_readInto (tl : Int32) (ta : Int32) (tn : Int64) (tb : Nat → Int32) (wk : Nat → Int64) (a2 : Int32) : Option (Int32 × Int32 × Int64 × (Nat → Int64)) :=
nm (0 : Int32) (fun (ta1 : Int32) =>
L_X4_readInto_1 tl tb a2 (fun (v14 : Int32) (ta15 : Int32) (tn16 : Int64) (wk17 : Nat → Int64) =>
if (ta15 : Int32) < tl then (
some ((-100) - ta15, ta15, tn16, wk17)) else (
some (v14, ta15, tn16, wk17))) FU 0 true 0 ta1 tn wk)

theorem nI_X4_readInto : NameIn yX4_readInto 2 := ⟨by decide +kernel, by decide +kernel, by decide +kernel⟩
set_option maxRecDepth 100000 in
set_option maxHeartbeats 4000000 in
theorem lp_X4_readInto_1 {X : CX} {res : Int32 × Int32 × Int64 × (Nat → Int64)} {a2 : Int32}   (hq : (xA q).Nodup) (C : Ok X cX4_readInto 6 (some .int) wsX4_readInto RX4 { frames := 4, cells := 0, slots := 0, locals := 89 } D vwCl (xT cs) (xA q) (xN tF) (some (.int res.1)) (xW q cs n nd es kn knd kes img tl res.2.1 res.2.2.1 sl bey wt un ed kwt kun ked tb sb sz sbs G K P res.2.2.2 wh))  (kx3 : Int32 → Int32 → Int64 → (Nat → Int64) → Option (Int32 × Int32 × Int64 × (Nat → Int64))) (Jkx3 : ∀ y3 : Int32, ∀ taZz : Int32, ∀ tnZz : Int64, ∀ wkZz : Nat → Int64, VF X res (kx3 y3 taZz tnZz wkZz) (xW q cs n nd es kn knd kes img tl taZz tnZz sl bey wt un ed kwt kun ked tb sb sz sbs G K P wkZz wh) 59 [(0, .ref (q 3)), (3, .int y3)] []) : ∀ fuel : Nat, ∀ v4 : Int32, ∀ v5 : Bool, ∀ v6 : Int32, ∀ ta7 : Int32, ∀ tn8 : Int64, ∀ wk9 : Nat → Int64, VF X res (L_X4_readInto_1 tl tb a2 kx3 fuel v4 v5 v6 ta7 tn8 wk9) (xW q cs n nd es kn knd kes img tl ta7 tn8 sl bey wt un ed kwt kun ked tb sb sz sbs G K P wk9 wh) 13 [(0, .ref (q 3)), (1, .ref (q 19)), (2, .int a2), (3, .int v4), (4, .int (bI v5)), (5, .int v6)] [] := by
  have iX4 : ∀ w ∈ wsX40, w ∈ wsX4_readInto := fun _ h => List.mem_cons_of_mem _ (List.mem_append_right _ h)
  intro fuel
  induction fuel with
  | zero =>
    intro _ _ _ _ _ _
    exact v_none
  | succ fuel ih =>
    intro v4 v5 v6 ta7 tn8 wk9
    show VF X res (B_X4_readInto_1 tl tb a2 (L_X4_readInto_1 tl tb a2 kx3 fuel) kx3 v4 v5 v6 ta7 tn8 wk9) _ _ _ _
    unfold B_X4_readInto_1
    refine v_iload C 4 dX4_readInto_13 rfl ?_
    refine v_ifb_eq C (b := v5) dX4_readInto_15 (tgt := 59) (by decide) ?_ ?_
    · exact v_sub [0, 3] rfl (Jkx3 v4 ta7 tn8 wk9)
    · refine v_iload C 5 dX4_readInto_18 rfl ?_
      refine v_bipush C dX4_readInto_20 (v := 120) (by decide) ?_
      refine v_icmp_ge C dX4_readInto_22 (tgt := 59) (by decide) ?_ ?_
      · exact v_sub [0, 3] rfl (Jkx3 v4 ta7 tn8 wk9)
      · refine v_aload_n C 0 dX4_readInto_25 rfl ?_
        refine v_aload_n C 1 dX4_readInto_26 rfl ?_
        refine v_iload_n C 2 dX4_readInto_27 rfl ?_
        refine v_callV2v C 3 rfl rfl rfl (fun l9 r9 h9 => k_X4_readPart (l := l9) hq  h9) gX4_readInto_X4_readPart rfl nI_X4_readPart ⟨rfl, rfl, Nat.le_of_ble_eq_true rfl, Nat.le_of_ble_eq_true rfl⟩ dX4_readInto_28 (Nat.le_of_ble_eq_true rfl) (fun r10 => ?_)
        refine v_ifb_ne C (b := r10.1) dX4_readInto_31 (tgt := 42) (by decide) ?_ ?_
        · refine v_iinc_nm C (lvf := fun x11 => [(3, .int x11), (0, .ref (q 3)), (1, .ref (q 19)), (2, .int a2), (4, .int (bI v5)), (5, .int v6)]) 3 dX4_readInto_42 rfl rfl (by decide) (fun _ => rfl) (fun x11 => ?_)
          refine v_aload_n C 1 dX4_readInto_45 rfl ?_
          refine v_bipush C dX4_readInto_46 (v := 59) (by decide) ?_
          refine v_callV1v C 3 rfl rfl rfl (fun l9 r9 h9 => k_X4_take (l := l9) hq  h9) gX4_readInto_X4_take rfl nI_X4_take ⟨rfl, rfl, Nat.le_of_ble_eq_true rfl, Nat.le_of_ble_eq_true rfl⟩ dX4_readInto_48 (Nat.le_of_ble_eq_true rfl) (fun r12 => ?_)
          refine v_istore C (lv' := [(4, .int (bI r12.1)), (3, .int x11), (0, .ref (q 3)), (1, .ref (q 19)), (2, .int a2), (5, .int v6)]) dX4_readInto_51 (by decide) rfl ?_
          refine v_iinc_nm C (lvf := fun x13 => [(5, .int x13), (4, .int (bI r12.1)), (3, .int x11), (0, .ref (q 3)), (1, .ref (q 19)), (2, .int a2)]) 5 dX4_readInto_53 rfl rfl (by decide) (fun _ => rfl) (fun x13 => ?_)
          refine v_goto C dX4_readInto_56 (tgt := 13) (by decide) ?_
          exact v_sub [3, 4, 5, 2, 1, 0] rfl (ih x11 r12.1 x13 r12.2 r10.2.2.1 r10.2.2.2)
        · refine v_bipush C dX4_readInto_34 (v := (-100)) (by decide) ?_
          refine v_aload_n C 0 dX4_readInto_36 rfl ?_
          refine v_get C (T := TX4) (n := 4) (C9 := RX4) iX4 3 rfl rfl 2 (by decide) (List.mem_of_getElem? (i := 1) rfl) rfl rfl dX4_readInto_37 ?_
          refine v_isub C dX4_readInto_40 ?_
          exact v_iret (rvf := fun (res : Int32 × Int32 × Int64 × (Nat → Int64)) => (some (.int res.1))) (wf := fun (res : Int32 × Int32 × Int64 × (Nat → Int64)) => (xW q cs n nd es kn knd kes img tl res.2.1 res.2.2.1 sl bey wt un ed kwt kun ked tb sb sz sbs G K P res.2.2.2 wh)) C dX4_readInto_41 rfl rfl

set_option maxRecDepth 100000 in
set_option maxHeartbeats 4000000 in
theorem k_X4_readInto {l : Launch} {a2 : Int32}  {res : Int32 × Int32 × Int64 × (Nat → Int64)} (hq : (xA q).Nodup)  (hf : f_X4_readInto tl ta tn tb wk a2 = some res) : kMet l yX4_readInto wsX4_readInto { frames := 4, cells := 0, slots := 0, locals := 89 } D vwCl (xT cs) (xN tF) (xA q) [.ref (q 3), .ref (q 19), .int a2] (xW q cs n nd es kn knd kes img tl ta tn sl bey wt un ed kwt kun ked tb sb sz sbs G K P wk wh) (some (.int res.1)) (xW q cs n nd es kn knd kes img tl res.2.1 res.2.2.1 sl bey wt un ed kwt kun ked tb sb sz sbs G K P res.2.2.2 wh) := by
  have iX4 : ∀ w ∈ wsX40, w ∈ wsX4_readInto := fun _ h => List.mem_cons_of_mem _ (List.mem_append_right _ h)
  refine kMet.of (cc := cX4_readInto) (nL := 6) (ret := (some .int)) (own := RX4) (lv := [(0, .ref (q 3)), (1, .ref (q 19)), (2, .int a2)]) (by decide +kernel) rfl rfl xN_ok hq (Nat.le_of_ble_eq_true rfl) rfl (fun X C => ?_)
  refine VF.of hf ?_
  unfold f_X4_readInto
  refine v_aload_n C 0 dX4_readInto_0 rfl ?_
  refine v_iconst C dX4_readInto_1 (v := 0) (by decide) ?_
  refine v_put_nm C (v := (0 : Int32)) Value.int (ty := .int) (T := TX4) (n := 4) (C9 := RX4) (ty0 := tyX4) (fun ta1 => (xW q cs n nd es kn knd kes img tl ta1 tn sl bey wt un ed kwt kun ked tb sb sz sbs G K P wk wh)) iX4 tyX4_ok nmX4 3 rfl rfl rfl 2 (by decide) (List.mem_of_getElem? (i := 1) rfl) rfl rfl rfl (fun _ => rfl) (fun _ => rfl) (Nat.le_of_ble_eq_true rfl) (fun _ => rfl) dX4_readInto_2 (fun ta1 => ?_)
  refine v_iconst C dX4_readInto_5 (v := 0) (by decide) ?_
  refine v_istore_n C (lv' := [(3, .int 0), (0, .ref (q 3)), (1, .ref (q 19)), (2, .int a2)]) dX4_readInto_6 rfl (by decide) rfl ?_
  refine v_iconst C dX4_readInto_7 (v := 1) (by decide) ?_
  refine v_istore C (lv' := [(4, .int 1), (3, .int 0), (0, .ref (q 3)), (1, .ref (q 19)), (2, .int a2)]) dX4_readInto_8 (by decide) rfl ?_
  refine v_iconst C dX4_readInto_10 (v := 0) (by decide) ?_
  refine v_istore C (lv' := [(5, .int 0), (4, .int 1), (3, .int 0), (0, .ref (q 3)), (1, .ref (q 19)), (2, .int a2)]) dX4_readInto_11 (by decide) rfl ?_
  refine v_sub [3, 4, 5, 2, 1, 0] rfl (lp_X4_readInto_1 hq C  _ (fun v14 ta15 tn16 wk17 => ?_) FU 0 true 0 ta1 tn wk)
  refine v_aload_n C 0 dX4_readInto_59 rfl ?_
  refine v_get C (T := TX4) (n := 4) (C9 := RX4) iX4 3 rfl rfl 2 (by decide) (List.mem_of_getElem? (i := 1) rfl) rfl rfl dX4_readInto_60 ?_
  refine v_aload_n C 0 dX4_readInto_63 rfl ?_
  refine v_get C (T := TX4) (n := 4) (C9 := RX4) iX4 3 rfl rfl 1 (by decide) (List.mem_of_getElem? (i := 2) rfl) rfl rfl dX4_readInto_64 ?_
  refine v_icmp_ge C dX4_readInto_67 (tgt := 80) (by decide) ?_ ?_
  · refine v_iload_n C 1 dX4_readInto_80 rfl ?_
    exact v_iret (rvf := fun (res : Int32 × Int32 × Int64 × (Nat → Int64)) => (some (.int res.1))) (wf := fun (res : Int32 × Int32 × Int64 × (Nat → Int64)) => (xW q cs n nd es kn knd kes img tl res.2.1 res.2.2.1 sl bey wt un ed kwt kun ked tb sb sz sbs G K P res.2.2.2 wh)) C dX4_readInto_81 rfl rfl
  · refine v_bipush C dX4_readInto_70 (v := (-100)) (by decide) ?_
    refine v_aload_n C 0 dX4_readInto_72 rfl ?_
    refine v_get C (T := TX4) (n := 4) (C9 := RX4) iX4 3 rfl rfl 2 (by decide) (List.mem_of_getElem? (i := 1) rfl) rfl rfl dX4_readInto_73 ?_
    refine v_isub C dX4_readInto_76 ?_
    refine v_goto C dX4_readInto_77 (tgt := 81) (by decide) ?_
    exact v_iret (rvf := fun (res : Int32 × Int32 × Int64 × (Nat → Int64)) => (some (.int res.1))) (wf := fun (res : Int32 × Int32 × Int64 × (Nat → Int64)) => (xW q cs n nd es kn knd kes img tl res.2.1 res.2.2.1 sl bey wt un ed kwt kun ked tb sb sz sbs G K P res.2.2.2 wh)) C dX4_readInto_81 rfl rfl

def f_X5_partners (n : Int32) (nd : Int32) (es : Int32) (wt : Nat → Int32) (un : Nat → Int32) (ed : Nat → Int32) (G : Nat → Nat → Int64) (a1 : Int32) : Option (Int32 × Int32 × Int32 × Int32 × (Nat → Int32) × (Nat → Int32) × (Nat → Int32) × (Nat → Nat → Int64)) :=
if (a1 : Int32) < 1 then (
some ((-2), n, nd, es, wt, un, ed, G)) else (
if (9 : Int32) < a1 then (
some ((-2), n, nd, es, wt, un, ed, G)) else (
(f_X0_begin n nd es wt un ed G a1).bind (fun (r1 : Int32 × Int32 × Int32 × (Nat → Int32) × (Nat → Int32) × (Nat → Int32) × (Nat → Nat → Int64)) =>
some (a1, r1.1, r1.2.1, r1.2.2.1, r1.2.2.2.1, r1.2.2.2.2.1, r1.2.2.2.2.2.1, r1.2.2.2.2.2.2))))

theorem nI_X5_partners : NameIn yX5_partners 1 := ⟨by decide +kernel, by decide +kernel, by decide +kernel⟩
set_option maxRecDepth 100000 in
set_option maxHeartbeats 4000000 in
theorem k_X5_partners {l : Launch} {a1 : Int32}  {res : Int32 × Int32 × Int32 × Int32 × (Nat → Int32) × (Nat → Int32) × (Nat → Int32) × (Nat → Nat → Int64)} (hq : (xA q).Nodup)  (hf : f_X5_partners n nd es wt un ed G a1 = some res) : kMet l yX5_partners wsX5_partners { frames := 2, cells := 0, slots := 0, locals := 46 } D vwCl (xT cs) (xN tF) (xA q) [.ref (q 0), .int a1] (xW q cs n nd es kn knd kes img tl ta tn sl bey wt un ed kwt kun ked tb sb sz sbs G K P wk wh) (some (.int res.1)) (xW q cs res.2.1 res.2.2.1 res.2.2.2.1 kn knd kes img tl ta tn sl bey res.2.2.2.2.1 res.2.2.2.2.2.1 res.2.2.2.2.2.2.1 kwt kun ked tb sb sz sbs res.2.2.2.2.2.2.2 K P wk wh) := by
  have iX5 : ∀ w ∈ wsX50, w ∈ wsX5_partners := fun _ h => List.mem_cons_of_mem _ (List.mem_append_left _ (List.mem_append_right _ h))
  refine kMet.of (cc := cX5_partners) (nL := 2) (ret := (some .int)) (own := RX5) (lv := [(0, .ref (q 0)), (1, .int a1)]) (by decide +kernel) rfl rfl xN_ok hq (Nat.le_of_ble_eq_true rfl) rfl (fun X C => ?_)
  refine VF.of hf ?_
  unfold f_X5_partners
  refine v_iload_n C 1 dX5_partners_0 rfl ?_
  refine v_iconst C dX5_partners_1 (v := 1) (by decide) ?_
  refine v_icmp_lt C dX5_partners_2 (tgt := 11) (by decide) ?_ ?_
  · refine v_bipush C dX5_partners_11 (v := (-2)) (by decide) ?_
    exact v_iret (rvf := fun (res : Int32 × Int32 × Int32 × Int32 × (Nat → Int32) × (Nat → Int32) × (Nat → Int32) × (Nat → Nat → Int64)) => (some (.int res.1))) (wf := fun (res : Int32 × Int32 × Int32 × Int32 × (Nat → Int32) × (Nat → Int32) × (Nat → Int32) × (Nat → Nat → Int64)) => (xW q cs res.2.1 res.2.2.1 res.2.2.2.1 kn knd kes img tl ta tn sl bey res.2.2.2.2.1 res.2.2.2.2.2.1 res.2.2.2.2.2.2.1 kwt kun ked tb sb sz sbs res.2.2.2.2.2.2.2 K P wk wh)) C dX5_partners_13 rfl rfl
  · refine v_iload_n C 1 dX5_partners_5 rfl ?_
    refine v_bipush C dX5_partners_6 (v := 9) (by decide) ?_
    refine v_icmp_le C dX5_partners_8 (tgt := 14) (by decide) ?_ ?_
    · refine v_aload_n C 0 dX5_partners_14 rfl ?_
      refine v_get C (T := TX5) (n := 10) (C9 := RX5) iX5 0 rfl rfl 0 (by decide) (List.mem_of_getElem? (i := 1) rfl) rfl rfl dX5_partners_15 ?_
      refine v_iload_n C 1 dX5_partners_18 rfl ?_
      refine v_callV1n C 1 rfl rfl rfl (fun l9 r9 h9 => k_X0_begin (l := l9) hq  h9) gX5_partners_X0_begin rfl nI_X0_begin ⟨rfl, rfl, Nat.le_of_ble_eq_true rfl, Nat.le_of_ble_eq_true rfl⟩ dX5_partners_19 (Nat.le_of_ble_eq_true rfl) (fun r1 => ?_)
      refine v_iload_n C 1 dX5_partners_22 rfl ?_
      exact v_iret (rvf := fun (res : Int32 × Int32 × Int32 × Int32 × (Nat → Int32) × (Nat → Int32) × (Nat → Int32) × (Nat → Nat → Int64)) => (some (.int res.1))) (wf := fun (res : Int32 × Int32 × Int32 × Int32 × (Nat → Int32) × (Nat → Int32) × (Nat → Int32) × (Nat → Nat → Int64)) => (xW q cs res.2.1 res.2.2.1 res.2.2.2.1 kn knd kes img tl ta tn sl bey res.2.2.2.2.1 res.2.2.2.2.2.1 res.2.2.2.2.2.2.1 kwt kun ked tb sb sz sbs res.2.2.2.2.2.2.2 K P wk wh)) C dX5_partners_23 rfl rfl
    · refine v_bipush C dX5_partners_11 (v := (-2)) (by decide) ?_
      exact v_iret (rvf := fun (res : Int32 × Int32 × Int32 × Int32 × (Nat → Int32) × (Nat → Int32) × (Nat → Int32) × (Nat → Nat → Int64)) => (some (.int res.1))) (wf := fun (res : Int32 × Int32 × Int32 × Int32 × (Nat → Int32) × (Nat → Int32) × (Nat → Int32) × (Nat → Nat → Int64)) => (xW q cs res.2.1 res.2.2.1 res.2.2.2.1 kn knd kes img tl ta tn sl bey res.2.2.2.2.1 res.2.2.2.2.2.1 res.2.2.2.2.2.2.1 kwt kun ked tb sb sz sbs res.2.2.2.2.2.2.2 K P wk wh)) C dX5_partners_13 rfl rfl

def f_X5_value (n : Int32) (G : Nat → Nat → Int64) (a1 : Int32) (a2 : Int32) (a3 : Int64) : Option (Int32 × (Nat → Nat → Int64)) :=
(f_X5_isGame a1).bind (fun (r1 : Bool) =>
if r1 = true then (
(f_X0_hasSet n a2).bind (fun (r2 : Bool) =>
if r2 = true then (
if (a2 : Int32) = 0 then (
some ((-1), G)) else (
(f_X5_isToldValue a3).bind (fun (r3 : Bool) =>
if r3 = true then (
ck (inb a1 4) (
ck (inb a2 512) (
nm (vp_updL (G a1.toNatClampNeg) a2.toNatClampNeg a3) (fun (F5 : Nat → Int64) =>
nm (va_up G a1.toNatClampNeg F5) (fun (G6 : Nat → Nat → Int64) =>
some (1, G6)))))) else (
some ((-2), G))))) else (
some ((-1), G)))) else (
some ((-1), G)))

theorem nI_X5_value : NameIn yX5_value 3 := ⟨by decide +kernel, by decide +kernel, by decide +kernel⟩
set_option maxRecDepth 100000 in
set_option maxHeartbeats 4000000 in
theorem k_X5_value {l : Launch} {a1 : Int32} {a2 : Int32} {a3 : Int64}  {res : Int32 × (Nat → Nat → Int64)} (hq : (xA q).Nodup)  (hf : f_X5_value n G a1 a2 a3 = some res) : kMet l yX5_value wsX5_value { frames := 2, cells := 0, slots := 0, locals := 41 } D vwCl (xT cs) (xN tF) (xA q) [.ref (q 0), .int a1, .int a2, .long a3] (xW q cs n nd es kn knd kes img tl ta tn sl bey wt un ed kwt kun ked tb sb sz sbs G K P wk wh) (some (.int res.1)) (xW q cs n nd es kn knd kes img tl ta tn sl bey wt un ed kwt kun ked tb sb sz sbs res.2 K P wk wh) := by
  have iX0 : ∀ w ∈ wsX00, w ∈ wsX5_value := fun _ h => List.mem_cons_of_mem _ (List.mem_append_right _ h)
  have iX5 : ∀ w ∈ wsX50, w ∈ wsX5_value := fun _ h => List.mem_cons_of_mem _ (List.mem_append_left _ (List.mem_append_right _ h))
  refine kMet.of (cc := cX5_value) (nL := 5) (ret := (some .int)) (own := RX5) (lv := [(0, .ref (q 0)), (1, .int a1), (2, .int a2), (3, .long a3)]) (by decide +kernel) rfl rfl xN_ok hq (Nat.le_of_ble_eq_true rfl) rfl (fun X C => ?_)
  refine VF.of hf ?_
  unfold f_X5_value
  refine v_iload_n C 1 dX5_value_0 rfl ?_
  refine v_callSP1v C (fun l9 r9 h9 => k_X5_isGame (l := l9) h9) gX5_value_X5_isGame rfl nI_X5_isGame ⟨rfl, rfl, Nat.le_of_ble_eq_true rfl, Nat.le_of_ble_eq_true rfl⟩ dX5_value_1 (Nat.le_of_ble_eq_true rfl) (fun r1 => ?_)
  refine v_ifb_eq C (b := r1) dX5_value_4 (tgt := 22) (by decide) ?_ ?_
  · refine v_iconst C dX5_value_22 (v := (-1)) (by decide) ?_
    exact v_iret (rvf := fun (res : Int32 × (Nat → Nat → Int64)) => (some (.int res.1))) (wf := fun (res : Int32 × (Nat → Nat → Int64)) => (xW q cs n nd es kn knd kes img tl ta tn sl bey wt un ed kwt kun ked tb sb sz sbs res.2 K P wk wh)) C dX5_value_23 rfl rfl
  · refine v_aload_n C 0 dX5_value_7 rfl ?_
    refine v_get C (T := TX5) (n := 10) (C9 := RX5) iX5 0 rfl rfl 0 (by decide) (List.mem_of_getElem? (i := 1) rfl) rfl rfl dX5_value_8 ?_
    refine v_iload_n C 2 dX5_value_11 rfl ?_
    refine v_callV1v C 1 rfl rfl rfl (fun l9 r9 h9 => k_X0_hasSet (l := l9) hq  h9) gX5_value_X0_hasSet rfl nI_X0_hasSet ⟨rfl, rfl, Nat.le_of_ble_eq_true rfl, Nat.le_of_ble_eq_true rfl⟩ dX5_value_12 (Nat.le_of_ble_eq_true rfl) (fun r2 => ?_)
    refine v_ifb_eq C (b := r2) dX5_value_15 (tgt := 22) (by decide) ?_ ?_
    · refine v_iconst C dX5_value_22 (v := (-1)) (by decide) ?_
      exact v_iret (rvf := fun (res : Int32 × (Nat → Nat → Int64)) => (some (.int res.1))) (wf := fun (res : Int32 × (Nat → Nat → Int64)) => (xW q cs n nd es kn knd kes img tl ta tn sl bey wt un ed kwt kun ked tb sb sz sbs res.2 K P wk wh)) C dX5_value_23 rfl rfl
    · refine v_iload_n C 2 dX5_value_18 rfl ?_
      refine v_if_ne C dX5_value_19 (tgt := 24) (by decide) ?_ ?_
      · refine v_lload_n C 3 dX5_value_24 rfl ?_
        refine v_callSP1v C (fun l9 r9 h9 => k_X5_isToldValue (l := l9) h9) gX5_value_X5_isToldValue rfl nI_X5_isToldValue ⟨rfl, rfl, Nat.le_of_ble_eq_true rfl, Nat.le_of_ble_eq_true rfl⟩ dX5_value_25 (Nat.le_of_ble_eq_true rfl) (fun r3 => ?_)
        refine v_ifb_ne C (b := r3) dX5_value_28 (tgt := 34) (by decide) ?_ ?_
        · refine v_aload_n C 0 dX5_value_34 rfl ?_
          refine v_get C (T := TX5) (n := 10) (C9 := RX5) iX5 0 rfl rfl 0 (by decide) (List.mem_of_getElem? (i := 1) rfl) rfl rfl dX5_value_35 ?_
          refine v_get C (T := TX0) (n := 7) (C9 := RX0) iX0 1 rfl rfl 6 (by decide) (List.mem_of_getElem? (i := 2) rfl) rfl rfl dX5_value_38 ?_
          refine v_iload_n C 1 dX5_value_41 rfl ?_
          refine v_aalda C (ad := fun j9 => q (22 + j9)) 10 3 rfl rfl (fun _ h9 => if_pos h9) dX5_value_42 (fun hb4 => ?_)
          have hj4 := inb_lt hb4
          refine v_iload_n C 2 dX5_value_43 rfl ?_
          refine v_lload_n C 3 dX5_value_44 rfl ?_
          refine v_last_nm C (fun F5 => (xW q cs n nd es kn knd kes img tl ta tn sl bey wt un ed kwt kun ked tb sb sz sbs (va_up G a1.toNatClampNeg F5) K P wk wh)) (22 + a1.toNatClampNeg) 1 (xW_G hj4) rfl rfl (fun _ => xW_G_set hj4) dX5_value_45 (fun F5 => ?_)
          refine v_namew (wf := fun G6 => (xW q cs n nd es kn knd kes img tl ta tn sl bey wt un ed kwt kun ked tb sb sz sbs G6 K P wk wh)) (fun G6 => ?_)
          refine v_iconst C dX5_value_46 (v := 1) (by decide) ?_
          exact v_iret (rvf := fun (res : Int32 × (Nat → Nat → Int64)) => (some (.int res.1))) (wf := fun (res : Int32 × (Nat → Nat → Int64)) => (xW q cs n nd es kn knd kes img tl ta tn sl bey wt un ed kwt kun ked tb sb sz sbs res.2 K P wk wh)) C dX5_value_47 rfl rfl
        · refine v_bipush C dX5_value_31 (v := (-2)) (by decide) ?_
          exact v_iret (rvf := fun (res : Int32 × (Nat → Nat → Int64)) => (some (.int res.1))) (wf := fun (res : Int32 × (Nat → Nat → Int64)) => (xW q cs n nd es kn knd kes img tl ta tn sl bey wt un ed kwt kun ked tb sb sz sbs res.2 K P wk wh)) C dX5_value_33 rfl rfl
      · refine v_iconst C dX5_value_22 (v := (-1)) (by decide) ?_
        exact v_iret (rvf := fun (res : Int32 × (Nat → Nat → Int64)) => (some (.int res.1))) (wf := fun (res : Int32 × (Nat → Nat → Int64)) => (xW q cs n nd es kn knd kes img tl ta tn sl bey wt un ed kwt kun ked tb sb sz sbs res.2 K P wk wh)) C dX5_value_23 rfl rfl

def f_X5_valueOf (n : Int32) (G : Nat → Nat → Int64) (a1 : Int32) (a2 : Int32) : Option (Int64) :=
(f_X5_isGame a1).bind (fun (r1 : Bool) =>
jn0 (some (-9223372036854775808)) (fun k2 =>
if r1 = true then (
(f_X0_hasSet n a2).bind (fun (r3 : Bool) =>
if r3 = true then (
ck (inb a1 4) (
ck (inb a2 512) (
some ((G a1.toNatClampNeg) a2.toNatClampNeg)))) else (
k2))) else (
k2)))

theorem nI_X5_valueOf : NameIn yX5_valueOf 2 := ⟨by decide +kernel, by decide +kernel, by decide +kernel⟩
set_option maxRecDepth 100000 in
set_option maxHeartbeats 4000000 in
theorem k_X5_valueOf {l : Launch} {a1 : Int32} {a2 : Int32}  {res : Int64} (hq : (xA q).Nodup)  (hf : f_X5_valueOf n G a1 a2 = some res) : kMet l yX5_valueOf wsX5_valueOf { frames := 2, cells := 0, slots := 0, locals := 41 } D vwCl (xT cs) (xN tF) (xA q) [.ref (q 0), .int a1, .int a2] (xW q cs n nd es kn knd kes img tl ta tn sl bey wt un ed kwt kun ked tb sb sz sbs G K P wk wh) (some (.long res)) (xW q cs n nd es kn knd kes img tl ta tn sl bey wt un ed kwt kun ked tb sb sz sbs G K P wk wh) := by
  have iX0 : ∀ w ∈ wsX00, w ∈ wsX5_valueOf := fun _ h => List.mem_cons_of_mem _ (List.mem_append_right _ h)
  have iX5 : ∀ w ∈ wsX50, w ∈ wsX5_valueOf := fun _ h => List.mem_cons_of_mem _ (List.mem_append_left _ (List.mem_append_right _ h))
  refine kMet.of (cc := cX5_valueOf) (nL := 3) (ret := (some .long)) (own := RX5) (lv := [(0, .ref (q 0)), (1, .int a1), (2, .int a2)]) (by decide +kernel) rfl rfl xN_ok hq (Nat.le_of_ble_eq_true rfl) rfl (fun X C => ?_)
  refine VF.of hf ?_
  unfold f_X5_valueOf
  refine v_iload_n C 1 dX5_valueOf_0 rfl ?_
  refine v_callSP1v C (fun l9 r9 h9 => k_X5_isGame (l := l9) h9) gX5_valueOf_X5_isGame rfl nI_X5_isGame ⟨rfl, rfl, Nat.le_of_ble_eq_true rfl, Nat.le_of_ble_eq_true rfl⟩ dX5_valueOf_1 (Nat.le_of_ble_eq_true rfl) (fun r1 => ?_)
  refine v_jn0 (wj := ((xW q cs n nd es kn knd kes img tl ta tn sl bey wt un ed kwt kun ked tb sb sz sbs G K P wk wh))) (pcj := 32) (lvj := ([])) (stj := ([])) ?_ (fun k2 hk2 => ?_)
  · refine v_ldc2 C (v := (-9223372036854775808)) (List.mem_of_getElem? (i := 3) rfl) dX5_valueOf_32 ?_
    exact v_lret (rvf := fun (res : Int64) => (some (.long res))) (wf := fun (res : Int64) => (xW q cs n nd es kn knd kes img tl ta tn sl bey wt un ed kwt kun ked tb sb sz sbs G K P wk wh)) C dX5_valueOf_35 rfl rfl
  · refine v_ifb_eq C (b := r1) dX5_valueOf_4 (tgt := 32) (by decide) ?_ ?_
    · exact v_sub [] rfl (hk2)
    · refine v_aload_n C 0 dX5_valueOf_7 rfl ?_
      refine v_get C (T := TX5) (n := 10) (C9 := RX5) iX5 0 rfl rfl 0 (by decide) (List.mem_of_getElem? (i := 1) rfl) rfl rfl dX5_valueOf_8 ?_
      refine v_iload_n C 2 dX5_valueOf_11 rfl ?_
      refine v_callV1v C 1 rfl rfl rfl (fun l9 r9 h9 => k_X0_hasSet (l := l9) hq  h9) gX5_valueOf_X0_hasSet rfl nI_X0_hasSet ⟨rfl, rfl, Nat.le_of_ble_eq_true rfl, Nat.le_of_ble_eq_true rfl⟩ dX5_valueOf_12 (Nat.le_of_ble_eq_true rfl) (fun r3 => ?_)
      refine v_ifb_eq C (b := r3) dX5_valueOf_15 (tgt := 32) (by decide) ?_ ?_
      · exact v_sub [] rfl (hk2)
      · refine v_aload_n C 0 dX5_valueOf_18 rfl ?_
        refine v_get C (T := TX5) (n := 10) (C9 := RX5) iX5 0 rfl rfl 0 (by decide) (List.mem_of_getElem? (i := 1) rfl) rfl rfl dX5_valueOf_19 ?_
        refine v_get C (T := TX0) (n := 7) (C9 := RX0) iX0 1 rfl rfl 6 (by decide) (List.mem_of_getElem? (i := 2) rfl) rfl rfl dX5_valueOf_22 ?_
        refine v_iload_n C 1 dX5_valueOf_25 rfl ?_
        refine v_aalda C (ad := fun j9 => q (22 + j9)) 10 3 rfl rfl (fun _ h9 => if_pos h9) dX5_valueOf_26 (fun hb4 => ?_)
        have hj4 := inb_lt hb4
        refine v_iload_n C 2 dX5_valueOf_27 rfl ?_
        refine v_lald C (22 + a1.toNatClampNeg) 1 (xW_G hj4) rfl dX5_valueOf_28 ?_
        refine v_goto C dX5_valueOf_29 (tgt := 35) (by decide) ?_
        exact v_lret (rvf := fun (res : Int64) => (some (.long res))) (wf := fun (res : Int64) => (xW q cs n nd es kn knd kes img tl ta tn sl bey wt un ed kwt kun ked tb sb sz sbs G K P wk wh)) C dX5_valueOf_35 rfl rfl

def f_X5_weight (n : Int32) (wt : Nat → Int32) (a1 : Int32) (a2 : Int32) : Option (Int32 × (Nat → Int32)) :=
(f_X0_hasPartner n a1).bind (fun (r1 : Bool) =>
if r1 = true then (
if (a2 : Int32) < 0 then (
some ((-2), wt)) else (
if (1000 : Int32) < a2 then (
some ((-2), wt)) else (
ck (inb a1 9) (
nm (wt a1.toNatClampNeg) (fun (x2 : Int32) =>
ck (inb a1 9) (
nm (upd wt a1.toNatClampNeg a2) (fun (wt3 : Nat → Int32) =>
some (x2, wt3)))))))) else (
some ((-1), wt)))

theorem nI_X5_weight : NameIn yX5_weight 2 := ⟨by decide +kernel, by decide +kernel, by decide +kernel⟩
set_option maxRecDepth 100000 in
set_option maxHeartbeats 4000000 in
theorem k_X5_weight {l : Launch} {a1 : Int32} {a2 : Int32}  {res : Int32 × (Nat → Int32)} (hq : (xA q).Nodup)  (hf : f_X5_weight n wt a1 a2 = some res) : kMet l yX5_weight wsX5_weight { frames := 1, cells := 0, slots := 0, locals := 21 } D vwCl (xT cs) (xN tF) (xA q) [.ref (q 0), .int a1, .int a2] (xW q cs n nd es kn knd kes img tl ta tn sl bey wt un ed kwt kun ked tb sb sz sbs G K P wk wh) (some (.int res.1)) (xW q cs n nd es kn knd kes img tl ta tn sl bey res.2 un ed kwt kun ked tb sb sz sbs G K P wk wh) := by
  have iX0 : ∀ w ∈ wsX00, w ∈ wsX5_weight := fun _ h => List.mem_cons_of_mem _ (List.mem_append_right _ h)
  have iX5 : ∀ w ∈ wsX50, w ∈ wsX5_weight := fun _ h => List.mem_cons_of_mem _ (List.mem_append_left _ (List.mem_append_right _ h))
  refine kMet.of (cc := cX5_weight) (nL := 4) (ret := (some .int)) (own := RX5) (lv := [(0, .ref (q 0)), (1, .int a1), (2, .int a2)]) (by decide +kernel) rfl rfl xN_ok hq (Nat.le_of_ble_eq_true rfl) rfl (fun X C => ?_)
  refine VF.of hf ?_
  unfold f_X5_weight
  refine v_aload_n C 0 dX5_weight_0 rfl ?_
  refine v_get C (T := TX5) (n := 10) (C9 := RX5) iX5 0 rfl rfl 0 (by decide) (List.mem_of_getElem? (i := 1) rfl) rfl rfl dX5_weight_1 ?_
  refine v_iload_n C 1 dX5_weight_4 rfl ?_
  refine v_callV1v C 1 rfl rfl rfl (fun l9 r9 h9 => k_X0_hasPartner (l := l9) hq  h9) gX5_weight_X0_hasPartner rfl nI_X0_hasPartner ⟨rfl, rfl, Nat.le_of_ble_eq_true rfl, Nat.le_of_ble_eq_true rfl⟩ dX5_weight_5 (Nat.le_of_ble_eq_true rfl) (fun r1 => ?_)
  refine v_ifb_ne C (b := r1) dX5_weight_8 (tgt := 13) (by decide) ?_ ?_
  · refine v_iload_n C 2 dX5_weight_13 rfl ?_
    refine v_if_lt C dX5_weight_14 (tgt := 24) (by decide) ?_ ?_
    · refine v_bipush C dX5_weight_24 (v := (-2)) (by decide) ?_
      exact v_iret (rvf := fun (res : Int32 × (Nat → Int32)) => (some (.int res.1))) (wf := fun (res : Int32 × (Nat → Int32)) => (xW q cs n nd es kn knd kes img tl ta tn sl bey res.2 un ed kwt kun ked tb sb sz sbs G K P wk wh)) C dX5_weight_26 rfl rfl
    · refine v_iload_n C 2 dX5_weight_17 rfl ?_
      refine v_sipush C dX5_weight_18 (v := 1000) (by decide) ?_
      refine v_icmp_le C dX5_weight_21 (tgt := 27) (by decide) ?_ ?_
      · refine v_aload_n C 0 dX5_weight_27 rfl ?_
        refine v_get C (T := TX5) (n := 10) (C9 := RX5) iX5 0 rfl rfl 0 (by decide) (List.mem_of_getElem? (i := 1) rfl) rfl rfl dX5_weight_28 ?_
        refine v_get C (T := TX0) (n := 7) (C9 := RX0) iX0 1 rfl rfl 3 (by decide) (List.mem_of_getElem? (i := 2) rfl) rfl rfl dX5_weight_31 ?_
        refine v_iload_n C 1 dX5_weight_34 rfl ?_
        refine v_iald C 7 0 rfl rfl dX5_weight_35 ?_
        refine v_istore_n_nm C (lvf := fun x2 => [(3, .int x2), (0, .ref (q 0)), (1, .int a1), (2, .int a2)]) dX5_weight_36 rfl (by decide) (fun _ => rfl) (fun x2 => ?_)
        refine v_aload_n C 1 dX5_weight_37 rfl ?_
        refine v_get C (T := TX5) (n := 10) (C9 := RX5) iX5 0 rfl rfl 0 (by decide) (List.mem_of_getElem? (i := 1) rfl) rfl rfl dX5_weight_38 ?_
        refine v_get C (T := TX0) (n := 7) (C9 := RX0) iX0 1 rfl rfl 3 (by decide) (List.mem_of_getElem? (i := 2) rfl) rfl rfl dX5_weight_41 ?_
        refine v_iload_n C 2 dX5_weight_44 rfl ?_
        refine v_iload_n C 3 dX5_weight_45 rfl ?_
        refine v_iast_nm C (fun wt3 => (xW q cs n nd es kn knd kes img tl ta tn sl bey wt3 un ed kwt kun ked tb sb sz sbs G K P wk wh)) 7 0 rfl rfl rfl (fun _ => rfl) dX5_weight_46 (fun wt3 => ?_)
        refine v_iload_n C 0 dX5_weight_47 rfl ?_
        exact v_iret (rvf := fun (res : Int32 × (Nat → Int32)) => (some (.int res.1))) (wf := fun (res : Int32 × (Nat → Int32)) => (xW q cs n nd es kn knd kes img tl ta tn sl bey res.2 un ed kwt kun ked tb sb sz sbs G K P wk wh)) C dX5_weight_48 rfl rfl
      · refine v_bipush C dX5_weight_24 (v := (-2)) (by decide) ?_
        exact v_iret (rvf := fun (res : Int32 × (Nat → Int32)) => (some (.int res.1))) (wf := fun (res : Int32 × (Nat → Int32)) => (xW q cs n nd es kn knd kes img tl ta tn sl bey res.2 un ed kwt kun ked tb sb sz sbs G K P wk wh)) C dX5_weight_26 rfl rfl
  · refine v_iconst C dX5_weight_11 (v := (-1)) (by decide) ?_
    exact v_iret (rvf := fun (res : Int32 × (Nat → Int32)) => (some (.int res.1))) (wf := fun (res : Int32 × (Nat → Int32)) => (xW q cs n nd es kn knd kes img tl ta tn sl bey res.2 un ed kwt kun ked tb sb sz sbs G K P wk wh)) C dX5_weight_12 rfl rfl

def f_X5_quota (nd : Int32) (es : Int32) (a1 : Int32) (a2 : Int32) : Option (Int32 × Int32 × Int32) :=
jn0 (if (a2 : Int32) < 0 then (
some ((-2), nd, es)) else (
if (9999 : Int32) < a2 then (
some ((-2), nd, es)) else (
jn1 (fun (v3 : Int32) =>
if (a1 : Int32) = 0 then (
nm a2 (fun (nd5 : Int32) =>
some (v3, nd5, es))) else (
nm a2 (fun (es4 : Int32) =>
some (v3, nd, es4)))) (fun k2 =>
if (a1 : Int32) = 0 then (
k2 nd) else (
k2 es))))) (fun k1 =>
if (a1 : Int32) = 0 then (
k1) else (
if (a1 : Int32) = 1 then (
k1) else (
some ((-1), nd, es))))

theorem nI_X5_quota : NameIn yX5_quota 2 := ⟨by decide +kernel, by decide +kernel, by decide +kernel⟩
set_option maxRecDepth 100000 in
set_option maxHeartbeats 4000000 in
theorem k_X5_quota {l : Launch} {a1 : Int32} {a2 : Int32}  {res : Int32 × Int32 × Int32} (hq : (xA q).Nodup)  (hf : f_X5_quota nd es a1 a2 = some res) : kMet l yX5_quota wsX5_quota { frames := 0, cells := 0, slots := 0, locals := 0 } D vwCl (xT cs) (xN tF) (xA q) [.ref (q 0), .int a1, .int a2] (xW q cs n nd es kn knd kes img tl ta tn sl bey wt un ed kwt kun ked tb sb sz sbs G K P wk wh) (some (.int res.1)) (xW q cs n res.2.1 res.2.2 kn knd kes img tl ta tn sl bey wt un ed kwt kun ked tb sb sz sbs G K P wk wh) := by
  have iX0 : ∀ w ∈ wsX00, w ∈ wsX5_quota := fun _ h => List.mem_cons_of_mem _ (List.mem_append_right _ h)
  have iX5 : ∀ w ∈ wsX50, w ∈ wsX5_quota := fun _ h => List.mem_cons_of_mem _ (List.mem_append_left _ (List.mem_append_right _ h))
  refine kMet.of (cc := cX5_quota) (nL := 4) (ret := (some .int)) (own := RX5) (lv := [(0, .ref (q 0)), (1, .int a1), (2, .int a2)]) (by decide +kernel) rfl rfl xN_ok hq (Nat.le_of_ble_eq_true rfl) rfl (fun X C => ?_)
  refine VF.of hf ?_
  unfold f_X5_quota
  refine v_iload_n C 1 dX5_quota_0 rfl ?_
  refine v_jn0 (wj := ((xW q cs n nd es kn knd kes img tl ta tn sl bey wt un ed kwt kun ked tb sb sz sbs G K P wk wh))) (pcj := 11) (lvj := ([(0, .ref (q 0)), (1, .int a1), (2, .int a2)])) (stj := ([])) ?_ (fun k1 hk1 => ?_)
  · refine v_iload_n C 2 dX5_quota_11 rfl ?_
    refine v_if_lt C dX5_quota_12 (tgt := 22) (by decide) ?_ ?_
    · refine v_bipush C dX5_quota_22 (v := (-2)) (by decide) ?_
      exact v_iret (rvf := fun (res : Int32 × Int32 × Int32) => (some (.int res.1))) (wf := fun (res : Int32 × Int32 × Int32) => (xW q cs n res.2.1 res.2.2 kn knd kes img tl ta tn sl bey wt un ed kwt kun ked tb sb sz sbs G K P wk wh)) C dX5_quota_24 rfl rfl
    · refine v_iload_n C 2 dX5_quota_15 rfl ?_
      refine v_sipush C dX5_quota_16 (v := 9999) (by decide) ?_
      refine v_icmp_le C dX5_quota_19 (tgt := 25) (by decide) ?_ ?_
      · refine v_iload_n C 1 dX5_quota_25 rfl ?_
        refine v_jn1 (wj := (fun v3 => (xW q cs n nd es kn knd kes img tl ta tn sl bey wt un ed kwt kun ked tb sb sz sbs G K P wk wh))) (pcj := 46) (lvj := (fun v3 => [(0, .ref (q 0)), (1, .int a1), (2, .int a2)])) (stj := (fun v3 => [.int v3])) (fun v3 => ?_) (fun k2 hk2 => ?_)
        · refine v_istore_n C (lv' := [(3, .int v3), (0, .ref (q 0)), (1, .int a1), (2, .int a2)]) dX5_quota_46 rfl (by decide) rfl ?_
          refine v_iload_n C 2 dX5_quota_47 rfl ?_
          refine v_if_ne C dX5_quota_48 (tgt := 62) (by decide) ?_ ?_
          · refine v_aload_n C 1 dX5_quota_62 rfl ?_
            refine v_get C (T := TX5) (n := 10) (C9 := RX5) iX5 0 rfl rfl 0 (by decide) (List.mem_of_getElem? (i := 1) rfl) rfl rfl dX5_quota_63 ?_
            refine v_iload_n C 3 dX5_quota_66 rfl ?_
            refine v_put_nm C (v := (a2 : Int32)) Value.int (ty := .int) (T := TX0) (n := 7) (C9 := RX0) (ty0 := tyX0) (fun es4 => (xW q cs n nd es4 kn knd kes img tl ta tn sl bey wt un ed kwt kun ked tb sb sz sbs G K P wk wh)) iX0 tyX0_ok nmX0 1 rfl rfl rfl 2 (by decide) (List.mem_of_getElem? (i := 3) rfl) rfl rfl rfl (fun _ => rfl) (fun _ => rfl) (Nat.le_of_ble_eq_true rfl) (fun _ => rfl) dX5_quota_67 (fun es4 => ?_)
            refine v_iload_n C 0 dX5_quota_70 rfl ?_
            exact v_iret (rvf := fun (res : Int32 × Int32 × Int32) => (some (.int res.1))) (wf := fun (res : Int32 × Int32 × Int32) => (xW q cs n res.2.1 res.2.2 kn knd kes img tl ta tn sl bey wt un ed kwt kun ked tb sb sz sbs G K P wk wh)) C dX5_quota_71 rfl rfl
          · refine v_aload_n C 1 dX5_quota_51 rfl ?_
            refine v_get C (T := TX5) (n := 10) (C9 := RX5) iX5 0 rfl rfl 0 (by decide) (List.mem_of_getElem? (i := 1) rfl) rfl rfl dX5_quota_52 ?_
            refine v_iload_n C 3 dX5_quota_55 rfl ?_
            refine v_put_nm C (v := (a2 : Int32)) Value.int (ty := .int) (T := TX0) (n := 7) (C9 := RX0) (ty0 := tyX0) (fun nd5 => (xW q cs n nd5 es kn knd kes img tl ta tn sl bey wt un ed kwt kun ked tb sb sz sbs G K P wk wh)) iX0 tyX0_ok nmX0 1 rfl rfl rfl 1 (by decide) (List.mem_of_getElem? (i := 2) rfl) rfl rfl rfl (fun _ => rfl) (fun _ => rfl) (Nat.le_of_ble_eq_true rfl) (fun _ => rfl) dX5_quota_56 (fun nd5 => ?_)
            refine v_goto C dX5_quota_59 (tgt := 70) (by decide) ?_
            refine v_iload_n C 0 dX5_quota_70 rfl ?_
            exact v_iret (rvf := fun (res : Int32 × Int32 × Int32) => (some (.int res.1))) (wf := fun (res : Int32 × Int32 × Int32) => (xW q cs n res.2.1 res.2.2 kn knd kes img tl ta tn sl bey wt un ed kwt kun ked tb sb sz sbs G K P wk wh)) C dX5_quota_71 rfl rfl
        · refine v_if_ne C dX5_quota_26 (tgt := 39) (by decide) ?_ ?_
          · refine v_aload_n C 0 dX5_quota_39 rfl ?_
            refine v_get C (T := TX5) (n := 10) (C9 := RX5) iX5 0 rfl rfl 0 (by decide) (List.mem_of_getElem? (i := 1) rfl) rfl rfl dX5_quota_40 ?_
            refine v_get C (T := TX0) (n := 7) (C9 := RX0) iX0 1 rfl rfl 2 (by decide) (List.mem_of_getElem? (i := 3) rfl) rfl rfl dX5_quota_43 ?_
            exact v_sub [0, 1, 2] rfl (hk2 es)
          · refine v_aload_n C 0 dX5_quota_29 rfl ?_
            refine v_get C (T := TX5) (n := 10) (C9 := RX5) iX5 0 rfl rfl 0 (by decide) (List.mem_of_getElem? (i := 1) rfl) rfl rfl dX5_quota_30 ?_
            refine v_get C (T := TX0) (n := 7) (C9 := RX0) iX0 1 rfl rfl 1 (by decide) (List.mem_of_getElem? (i := 2) rfl) rfl rfl dX5_quota_33 ?_
            refine v_goto C dX5_quota_36 (tgt := 46) (by decide) ?_
            exact v_sub [0, 1, 2] rfl (hk2 nd)
      · refine v_bipush C dX5_quota_22 (v := (-2)) (by decide) ?_
        exact v_iret (rvf := fun (res : Int32 × Int32 × Int32) => (some (.int res.1))) (wf := fun (res : Int32 × Int32 × Int32) => (xW q cs n res.2.1 res.2.2 kn knd kes img tl ta tn sl bey wt un ed kwt kun ked tb sb sz sbs G K P wk wh)) C dX5_quota_24 rfl rfl
  · refine v_if_eq C dX5_quota_1 (tgt := 11) (by decide) ?_ ?_
    · exact v_sub [0, 1, 2] rfl (hk1)
    · refine v_iload_n C 1 dX5_quota_4 rfl ?_
      refine v_iconst C dX5_quota_5 (v := 1) (by decide) ?_
      refine v_icmp_eq C dX5_quota_6 (tgt := 11) (by decide) ?_ ?_
      · exact v_sub [0, 1, 2] rfl (hk1)
      · refine v_iconst C dX5_quota_9 (v := (-1)) (by decide) ?_
        exact v_iret (rvf := fun (res : Int32 × Int32 × Int32) => (some (.int res.1))) (wf := fun (res : Int32 × Int32 × Int32) => (xW q cs n res.2.1 res.2.2 kn knd kes img tl ta tn sl bey wt un ed kwt kun ked tb sb sz sbs G K P wk wh)) C dX5_quota_10 rfl rfl

end WK
