section WK
variable {q : Nat → Nat} {cs : Nat → ClassId} {D : va_G} {tF : Nat} {n : Int32} {nd : Int32} {es : Int32} {kn : Int32} {knd : Int32} {kes : Int32} {img : Bool} {tl : Int32} {ta : Int32} {tn : Int64} {sl : Int32} {bey : Bool} {wt : Nat → Int32} {un : Nat → Int32} {ed : Nat → Int32} {kwt : Nat → Int32} {kun : Nat → Int32} {ked : Nat → Int32} {tb : Nat → Int32} {sb : Nat → Int32} {sz : Nat → Int32} {sbs : Nat → Int32} {G : Nat → Nat → Int64} {K : Nat → Nat → Int64} {P : Nat → Nat → Int64} {wk : Nat → Int64} {wh : Nat → Int64}
def f_X5_swings (n : Int32) (nd : Int32) (wt : Nat → Int32) (sbs : Nat → Int32) (a1 : Int32) (a2 : Int32) : Option (Int32 × (Nat → Int32)) :=
(f_X0_hasPartner n a1).bind (fun (r1 : Bool) =>
if r1 = true then (
jn0 (if (a2 : Int32) = 0 then (
(f_X5_swingsBySets n nd wt a1).bind (fun (r4 : Int32) =>
some (r4, sbs))) else (
(f_X5_swingsBySums n nd wt sbs a1).bind (fun (r3 : Int32 × (Nat → Int32)) =>
some (r3.1, r3.2)))) (fun k2 =>
if (a2 : Int32) = 0 then (
k2) else (
if (a2 : Int32) = 1 then (
k2) else (
some ((-1), sbs))))) else (
some ((-1), sbs)))

theorem nI_X5_swings : NameIn yX5_swings 2 := ⟨by decide +kernel, by decide +kernel, by decide +kernel⟩
set_option maxRecDepth 100000 in
set_option maxHeartbeats 4000000 in
theorem k_X5_swings {l : Launch} {a1 : Int32} {a2 : Int32}  {res : Int32 × (Nat → Int32)} (hq : (xA q).Nodup)  (hf : f_X5_swings n nd wt sbs a1 a2 = some res) : kMet l yX5_swings wsX5_swings { frames := 5, cells := 0, slots := 0, locals := 110 } D vwCl (xT cs) (xN tF) (xA q) [.ref (q 0), .int a1, .int a2] (xW q cs n nd es kn knd kes img tl ta tn sl bey wt un ed kwt kun ked tb sb sz sbs G K P wk wh) (some (.int res.1)) (xW q cs n nd es kn knd kes img tl ta tn sl bey wt un ed kwt kun ked tb sb sz res.2 G K P wk wh) := by
  have iX5 : ∀ w ∈ wsX50, w ∈ wsX5_swings := fun _ h => List.mem_cons_of_mem _ (List.mem_append_left _ (List.mem_append_right _ h))
  refine kMet.of (cc := cX5_swings) (nL := 3) (ret := (some .int)) (own := RX5) (lv := [(0, .ref (q 0)), (1, .int a1), (2, .int a2)]) (by decide +kernel) rfl rfl xN_ok hq (Nat.le_of_ble_eq_true rfl) rfl (fun X C => ?_)
  refine VF.of hf ?_
  unfold f_X5_swings
  refine v_aload_n C 0 dX5_swings_0 rfl ?_
  refine v_get C (T := TX5) (n := 10) (C9 := RX5) iX5 0 rfl rfl 0 (by decide) (List.mem_of_getElem? (i := 1) rfl) rfl rfl dX5_swings_1 ?_
  refine v_iload_n C 1 dX5_swings_4 rfl ?_
  refine v_callV1v C 1 rfl rfl rfl (fun l9 r9 h9 => k_X0_hasPartner (l := l9) hq  h9) gX5_swings_X0_hasPartner rfl nI_X0_hasPartner ⟨rfl, rfl, Nat.le_of_ble_eq_true rfl, Nat.le_of_ble_eq_true rfl⟩ dX5_swings_5 (Nat.le_of_ble_eq_true rfl) (fun r1 => ?_)
  refine v_ifb_eq C (b := r1) dX5_swings_8 (tgt := 20) (by decide) ?_ ?_
  · refine v_iconst C dX5_swings_20 (v := (-1)) (by decide) ?_
    exact v_iret (rvf := fun (res : Int32 × (Nat → Int32)) => (some (.int res.1))) (wf := fun (res : Int32 × (Nat → Int32)) => (xW q cs n nd es kn knd kes img tl ta tn sl bey wt un ed kwt kun ked tb sb sz res.2 G K P wk wh)) C dX5_swings_21 rfl rfl
  · refine v_iload_n C 2 dX5_swings_11 rfl ?_
    refine v_jn0 (wj := ((xW q cs n nd es kn knd kes img tl ta tn sl bey wt un ed kwt kun ked tb sb sz sbs G K P wk wh))) (pcj := 22) (lvj := ([(0, .ref (q 0)), (1, .int a1), (2, .int a2)])) (stj := ([])) ?_ (fun k2 hk2 => ?_)
    · refine v_iload_n C 2 dX5_swings_22 rfl ?_
      refine v_if_ne C dX5_swings_23 (tgt := 34) (by decide) ?_ ?_
      · refine v_aload_n C 0 dX5_swings_34 rfl ?_
        refine v_iload_n C 1 dX5_swings_35 rfl ?_
        refine v_callV1v C 0 rfl rfl rfl (fun l9 r9 h9 => k_X5_swingsBySums (l := l9) hq  h9) gX5_swings_X5_swingsBySums rfl nI_X5_swingsBySums ⟨rfl, rfl, Nat.le_of_ble_eq_true rfl, Nat.le_of_ble_eq_true rfl⟩ dX5_swings_36 (Nat.le_of_ble_eq_true rfl) (fun r3 => ?_)
        exact v_iret (rvf := fun (res : Int32 × (Nat → Int32)) => (some (.int res.1))) (wf := fun (res : Int32 × (Nat → Int32)) => (xW q cs n nd es kn knd kes img tl ta tn sl bey wt un ed kwt kun ked tb sb sz res.2 G K P wk wh)) C dX5_swings_39 rfl rfl
      · refine v_aload_n C 0 dX5_swings_26 rfl ?_
        refine v_iload_n C 1 dX5_swings_27 rfl ?_
        refine v_callV1v C 0 rfl rfl rfl (fun l9 r9 h9 => k_X5_swingsBySets (l := l9) hq  h9) gX5_swings_X5_swingsBySets rfl nI_X5_swingsBySets ⟨rfl, rfl, Nat.le_of_ble_eq_true rfl, Nat.le_of_ble_eq_true rfl⟩ dX5_swings_28 (Nat.le_of_ble_eq_true rfl) (fun r4 => ?_)
        refine v_goto C dX5_swings_31 (tgt := 39) (by decide) ?_
        exact v_iret (rvf := fun (res : Int32 × (Nat → Int32)) => (some (.int res.1))) (wf := fun (res : Int32 × (Nat → Int32)) => (xW q cs n nd es kn knd kes img tl ta tn sl bey wt un ed kwt kun ked tb sb sz res.2 G K P wk wh)) C dX5_swings_39 rfl rfl
    · refine v_if_eq C dX5_swings_12 (tgt := 22) (by decide) ?_ ?_
      · exact v_sub [0, 1, 2] rfl (hk2)
      · refine v_iload_n C 2 dX5_swings_15 rfl ?_
        refine v_iconst C dX5_swings_16 (v := 1) (by decide) ?_
        refine v_icmp_eq C dX5_swings_17 (tgt := 22) (by decide) ?_ ?_
        · exact v_sub [0, 1, 2] rfl (hk2)
        · refine v_iconst C dX5_swings_20 (v := (-1)) (by decide) ?_
          exact v_iret (rvf := fun (res : Int32 × (Nat → Int32)) => (some (.int res.1))) (wf := fun (res : Int32 × (Nat → Int32)) => (xW q cs n nd es kn knd kes img tl ta tn sl bey wt un ed kwt kun ked tb sb sz res.2 G K P wk wh)) C dX5_swings_21 rfl rfl

def B_X5_pivots_1 (n : Int32) (nd : Int32) (wt : Nat → Int32) (a1 : Int32) (a2 : Int32) (rec3 : Int64 → Int32 → Option (Int64))  (v4 : Int64) (v5 : Int32) : Option (Int64) :=
(f_X0_sets n).bind (fun (r6 : Int32) =>
if (v5 : Int32) < r6 then (
(f_X0_isSwing n nd wt v5 a1).bind (fun (r9 : Bool) =>
jn1 (fun (v11 : Int64) =>
nm (v5 + 1) (fun (x12 : Int32) =>
rec3 v11 x12)) (fun k10 =>
if r9 = true then (
(f_X5_ordersAround n v5).bind (fun (r13 : Int32) =>
nm (v4 + r13.toInt64) (fun (x14 : Int64) =>
k10 x14))) else (
k10 v4)))) else (
(f_X5_factorial n).bind (fun (r7 : Int32) =>
(f_X5_lowest v4 r7.toInt64 a2).bind (fun (r8 : Int64) =>
some r8))))
def L_X5_pivots_1 (n : Int32) (nd : Int32) (wt : Nat → Int32) (a1 : Int32) (a2 : Int32)  : Nat → Int64 → Int32 → Option (Int64)
  | 0, _, _ => none
  | m9 + 1, v4, v5 => B_X5_pivots_1 n nd wt a1 a2 (L_X5_pivots_1 n nd wt a1 a2 m9)  v4 v5

def f_X5_pivots (n : Int32) (nd : Int32) (wt : Nat → Int32) (a1 : Int32) (a2 : Int32) : Option (Int64) :=
(f_X0_hasPartner n a1).bind (fun (r1 : Bool) =>
if r1 = true then (
(f_X5_isPart a2).bind (fun (r2 : Bool) =>
if r2 = true then (
L_X5_pivots_1 n nd wt a1 a2  FU 0 0) else (
some (-9223372036854775808)))) else (
some (-9223372036854775808)))

theorem nI_X5_pivots : NameIn yX5_pivots 2 := ⟨by decide +kernel, by decide +kernel, by decide +kernel⟩
set_option maxRecDepth 100000 in
set_option maxHeartbeats 4000000 in
theorem lp_X5_pivots_1 {X : CX} {res : Int64} {a1 : Int32} {a2 : Int32}   (hq : (xA q).Nodup) (C : Ok X cX5_pivots 6 (some .long) wsX5_pivots RX5 { frames := 4, cells := 0, slots := 0, locals := 87 } D vwCl (xT cs) (xA q) (xN tF) (some (.long res)) (xW q cs n nd es kn knd kes img tl ta tn sl bey wt un ed kwt kun ked tb sb sz sbs G K P wk wh))  : ∀ fuel : Nat, ∀ v4 : Int64, ∀ v5 : Int32, VF X res (L_X5_pivots_1 n nd wt a1 a2 fuel v4 v5) (xW q cs n nd es kn knd kes img tl ta tn sl bey wt un ed kwt kun ked tb sb sz sbs G K P wk wh) 27 [(0, .ref (q 0)), (1, .int a1), (2, .int a2), (3, .long v4), (5, .int v5)] [] := by
  have iX0 : ∀ w ∈ wsX00, w ∈ wsX5_pivots := fun _ h => List.mem_cons_of_mem _ (List.mem_append_right _ h)
  have iX5 : ∀ w ∈ wsX50, w ∈ wsX5_pivots := fun _ h => List.mem_cons_of_mem _ (List.mem_append_left _ (List.mem_append_right _ h))
  intro fuel
  induction fuel with
  | zero =>
    intro _ _
    exact v_none
  | succ fuel ih =>
    intro v4 v5
    show VF X res (B_X5_pivots_1 n nd wt a1 a2 (L_X5_pivots_1 n nd wt a1 a2 fuel)  v4 v5) _ _ _ _
    unfold B_X5_pivots_1
    refine v_iload C 4 dX5_pivots_27 rfl ?_
    refine v_aload_n C 0 dX5_pivots_29 rfl ?_
    refine v_get C (T := TX5) (n := 10) (C9 := RX5) iX5 0 rfl rfl 0 (by decide) (List.mem_of_getElem? (i := 1) rfl) rfl rfl dX5_pivots_30 ?_
    refine v_callV0v C 1 rfl rfl rfl (fun l9 r9 h9 => k_X0_sets (l := l9) hq  h9) gX5_pivots_X0_sets rfl nI_X0_sets ⟨rfl, rfl, Nat.le_of_ble_eq_true rfl, Nat.le_of_ble_eq_true rfl⟩ dX5_pivots_33 (Nat.le_of_ble_eq_true rfl) (fun r6 => ?_)
    refine v_icmp_ge C dX5_pivots_36 (tgt := 68) (by decide) ?_ ?_
    · refine v_lload_n C 3 dX5_pivots_68 rfl ?_
      refine v_aload_n C 0 dX5_pivots_69 rfl ?_
      refine v_get C (T := TX5) (n := 10) (C9 := RX5) iX5 0 rfl rfl 0 (by decide) (List.mem_of_getElem? (i := 1) rfl) rfl rfl dX5_pivots_70 ?_
      refine v_get C (T := TX0) (n := 7) (C9 := RX0) iX0 1 rfl rfl 0 (by decide) (List.mem_of_getElem? (i := 3) rfl) rfl rfl dX5_pivots_73 ?_
      refine v_callS1v C (fun l9 r9 h9 => k_X5_factorial (l := l9) hq  h9) gX5_pivots_X5_factorial rfl nI_X5_factorial ⟨rfl, rfl, Nat.le_of_ble_eq_true rfl, Nat.le_of_ble_eq_true rfl⟩ dX5_pivots_76 (Nat.le_of_ble_eq_true rfl) (fun r7 => ?_)
      refine v_i2l C dX5_pivots_79 ?_
      refine v_iload_n C 2 dX5_pivots_80 rfl ?_
      refine v_callSP3v C (fun l9 r9 h9 => k_X5_lowest (l := l9) h9) gX5_pivots_X5_lowest rfl nI_X5_lowest ⟨rfl, rfl, Nat.le_of_ble_eq_true rfl, Nat.le_of_ble_eq_true rfl⟩ dX5_pivots_81 (Nat.le_of_ble_eq_true rfl) (fun r8 => ?_)
      exact v_lret (rvf := fun (res : Int64) => (some (.long res))) (wf := fun (res : Int64) => (xW q cs n nd es kn knd kes img tl ta tn sl bey wt un ed kwt kun ked tb sb sz sbs G K P wk wh)) C dX5_pivots_84 rfl rfl
    · refine v_aload_n C 0 dX5_pivots_39 rfl ?_
      refine v_get C (T := TX5) (n := 10) (C9 := RX5) iX5 0 rfl rfl 0 (by decide) (List.mem_of_getElem? (i := 1) rfl) rfl rfl dX5_pivots_40 ?_
      refine v_iload C 4 dX5_pivots_43 rfl ?_
      refine v_iload_n C 1 dX5_pivots_45 rfl ?_
      refine v_callV2v C 1 rfl rfl rfl (fun l9 r9 h9 => k_X0_isSwing (l := l9) hq  h9) gX5_pivots_X0_isSwing rfl nI_X0_isSwing ⟨rfl, rfl, Nat.le_of_ble_eq_true rfl, Nat.le_of_ble_eq_true rfl⟩ dX5_pivots_46 (Nat.le_of_ble_eq_true rfl) (fun r9 => ?_)
      refine v_jn1 (wj := (fun v11 => (xW q cs n nd es kn knd kes img tl ta tn sl bey wt un ed kwt kun ked tb sb sz sbs G K P wk wh))) (pcj := 62) (lvj := (fun v11 => [(0, .ref (q 0)), (1, .int a1), (2, .int a2), (3, .long v11), (5, .int v5)])) (stj := (fun v11 => [])) (fun v11 => ?_) (fun k10 hk10 => ?_)
      · refine v_iinc_nm C (lvf := fun x12 => [(5, .int x12), (0, .ref (q 0)), (1, .int a1), (2, .int a2), (3, .long v11)]) 4 dX5_pivots_62 rfl rfl (by decide) (fun _ => rfl) (fun x12 => ?_)
        refine v_goto C dX5_pivots_65 (tgt := 27) (by decide) ?_
        exact v_sub [1, 2, 3, 4, 0] rfl (ih v11 x12)
      · refine v_ifb_eq C (b := r9) dX5_pivots_49 (tgt := 62) (by decide) ?_ ?_
        · exact v_sub [0, 1, 2, 3, 4] rfl (hk10 v4)
        · refine v_lload_n C 3 dX5_pivots_52 rfl ?_
          refine v_aload_n C 0 dX5_pivots_53 rfl ?_
          refine v_iload C 4 dX5_pivots_54 rfl ?_
          refine v_callV1v C 0 rfl rfl rfl (fun l9 r9 h9 => k_X5_ordersAround (l := l9) hq  h9) gX5_pivots_X5_ordersAround rfl nI_X5_ordersAround ⟨rfl, rfl, Nat.le_of_ble_eq_true rfl, Nat.le_of_ble_eq_true rfl⟩ dX5_pivots_56 (Nat.le_of_ble_eq_true rfl) (fun r13 => ?_)
          refine v_i2l C dX5_pivots_59 ?_
          refine v_ladd C dX5_pivots_60 ?_
          refine v_lstore_n_nm C (lvf := fun x14 => [(3, .long x14), (0, .ref (q 0)), (1, .int a1), (2, .int a2), (5, .int v5)]) dX5_pivots_61 rfl (by decide) (fun _ => rfl) (fun x14 => ?_)
          exact v_sub [1, 2, 3, 0, 4] rfl (hk10 x14)

set_option maxRecDepth 100000 in
set_option maxHeartbeats 4000000 in
theorem k_X5_pivots {l : Launch} {a1 : Int32} {a2 : Int32}  {res : Int64} (hq : (xA q).Nodup)  (hf : f_X5_pivots n nd wt a1 a2 = some res) : kMet l yX5_pivots wsX5_pivots { frames := 4, cells := 0, slots := 0, locals := 87 } D vwCl (xT cs) (xN tF) (xA q) [.ref (q 0), .int a1, .int a2] (xW q cs n nd es kn knd kes img tl ta tn sl bey wt un ed kwt kun ked tb sb sz sbs G K P wk wh) (some (.long res)) (xW q cs n nd es kn knd kes img tl ta tn sl bey wt un ed kwt kun ked tb sb sz sbs G K P wk wh) := by
  have iX5 : ∀ w ∈ wsX50, w ∈ wsX5_pivots := fun _ h => List.mem_cons_of_mem _ (List.mem_append_left _ (List.mem_append_right _ h))
  refine kMet.of (cc := cX5_pivots) (nL := 6) (ret := (some .long)) (own := RX5) (lv := [(0, .ref (q 0)), (1, .int a1), (2, .int a2)]) (by decide +kernel) rfl rfl xN_ok hq (Nat.le_of_ble_eq_true rfl) rfl (fun X C => ?_)
  refine VF.of hf ?_
  unfold f_X5_pivots
  refine v_aload_n C 0 dX5_pivots_0 rfl ?_
  refine v_get C (T := TX5) (n := 10) (C9 := RX5) iX5 0 rfl rfl 0 (by decide) (List.mem_of_getElem? (i := 1) rfl) rfl rfl dX5_pivots_1 ?_
  refine v_iload_n C 1 dX5_pivots_4 rfl ?_
  refine v_callV1v C 1 rfl rfl rfl (fun l9 r9 h9 => k_X0_hasPartner (l := l9) hq  h9) gX5_pivots_X0_hasPartner rfl nI_X0_hasPartner ⟨rfl, rfl, Nat.le_of_ble_eq_true rfl, Nat.le_of_ble_eq_true rfl⟩ dX5_pivots_5 (Nat.le_of_ble_eq_true rfl) (fun r1 => ?_)
  refine v_ifb_eq C (b := r1) dX5_pivots_8 (tgt := 18) (by decide) ?_ ?_
  · refine v_ldc2 C (v := (-9223372036854775808)) (List.mem_of_getElem? (i := 2) rfl) dX5_pivots_18 ?_
    exact v_lret (rvf := fun (res : Int64) => (some (.long res))) (wf := fun (res : Int64) => (xW q cs n nd es kn knd kes img tl ta tn sl bey wt un ed kwt kun ked tb sb sz sbs G K P wk wh)) C dX5_pivots_21 rfl rfl
  · refine v_iload_n C 2 dX5_pivots_11 rfl ?_
    refine v_callSP1v C (fun l9 r9 h9 => k_X5_isPart (l := l9) h9) gX5_pivots_X5_isPart rfl nI_X5_isPart ⟨rfl, rfl, Nat.le_of_ble_eq_true rfl, Nat.le_of_ble_eq_true rfl⟩ dX5_pivots_12 (Nat.le_of_ble_eq_true rfl) (fun r2 => ?_)
    refine v_ifb_ne C (b := r2) dX5_pivots_15 (tgt := 22) (by decide) ?_ ?_
    · refine v_lconst C dX5_pivots_22 (v := 0) (by decide) ?_
      refine v_lstore_n C (lv' := [(3, .long 0), (0, .ref (q 0)), (1, .int a1), (2, .int a2)]) dX5_pivots_23 rfl (by decide) rfl ?_
      refine v_iconst C dX5_pivots_24 (v := 0) (by decide) ?_
      refine v_istore C (lv' := [(5, .int 0), (3, .long 0), (0, .ref (q 0)), (1, .int a1), (2, .int a2)]) dX5_pivots_25 (by decide) rfl ?_
      refine v_sub [2, 3, 4, 1, 0] rfl (lp_X5_pivots_1 hq C   FU 0 0)
    · refine v_ldc2 C (v := (-9223372036854775808)) (List.mem_of_getElem? (i := 2) rfl) dX5_pivots_18 ?_
      exact v_lret (rvf := fun (res : Int64) => (some (.long res))) (wf := fun (res : Int64) => (xW q cs n nd es kn knd kes img tl ta tn sl bey wt un ed kwt kun ked tb sb sz sbs G K P wk wh)) C dX5_pivots_21 rfl rfl

def B_X5_holder_1 (n : Int32) (nd : Int32) (wt : Nat → Int32) (a1 : Int32) (a2 : Int32) (rec3 : Int32 → Int64 → Int32 → Option (Int64))  (v4 : Int32) (v5 : Int64) (v6 : Int32) : Option (Int64) :=
(f_X0_sets n).bind (fun (r7 : Int32) =>
if (v6 : Int32) < r7 then (
(f_X0_winsBarely n nd wt v6).bind (fun (r9 : Bool) =>
jn2 (fun (v11 : Int32) (v12 : Int64) =>
nm (v6 + 1) (fun (x13 : Int32) =>
rec3 v11 v12 x13)) (fun k10 =>
if r9 = true then (
nm (v4 + 1) (fun (x14 : Int32) =>
(f_X5_has v6 a1).bind (fun (r15 : Bool) =>
jn1 (fun (v17 : Int64) =>
nm (v5 + v17) (fun (x18 : Int64) =>
k10 x14 x18)) (fun k16 =>
if r15 = true then (
(f_J6_bitCount_0f7a4 v6).bind (fun (r19 : Int32) =>
ck ((r19 : Int32) != 0) (
k16 ((2520 / r19).toInt64)))) else (
k16 0))))) else (
k10 v4 v5)))) else (
if (v4 : Int32) = 0 then (
some a2.toInt64) else (
(f_X5_lowest v5 (2520 * v4.toInt64) a2).bind (fun (r8 : Int64) =>
some r8))))
def L_X5_holder_1 (n : Int32) (nd : Int32) (wt : Nat → Int32) (a1 : Int32) (a2 : Int32)  : Nat → Int32 → Int64 → Int32 → Option (Int64)
  | 0, _, _, _ => none
  | m9 + 1, v4, v5, v6 => B_X5_holder_1 n nd wt a1 a2 (L_X5_holder_1 n nd wt a1 a2 m9)  v4 v5 v6

def f_X5_holder (n : Int32) (nd : Int32) (wt : Nat → Int32) (a1 : Int32) (a2 : Int32) : Option (Int64) :=
(f_X0_hasPartner n a1).bind (fun (r1 : Bool) =>
if r1 = true then (
(f_X5_isPart a2).bind (fun (r2 : Bool) =>
if r2 = true then (
L_X5_holder_1 n nd wt a1 a2  FU 0 0 1) else (
some (-9223372036854775808)))) else (
some (-9223372036854775808)))

theorem nI_X5_holder : NameIn yX5_holder 2 := ⟨by decide +kernel, by decide +kernel, by decide +kernel⟩
set_option maxRecDepth 100000 in
set_option maxHeartbeats 4000000 in
theorem lp_X5_holder_1 {X : CX} {res : Int64} {a1 : Int32} {a2 : Int32}   (hq : (xA q).Nodup) (C : Ok X cX5_holder 7 (some .long) wsX5_holder RX5 { frames := 4, cells := 0, slots := 0, locals := 87 } D vwCl (xT cs) (xA q) (xN tF) (some (.long res)) (xW q cs n nd es kn knd kes img tl ta tn sl bey wt un ed kwt kun ked tb sb sz sbs G K P wk wh))  : ∀ fuel : Nat, ∀ v4 : Int32, ∀ v5 : Int64, ∀ v6 : Int32, VF X res (L_X5_holder_1 n nd wt a1 a2 fuel v4 v5 v6) (xW q cs n nd es kn knd kes img tl ta tn sl bey wt un ed kwt kun ked tb sb sz sbs G K P wk wh) 30 [(0, .ref (q 0)), (1, .int a1), (2, .int a2), (3, .int v4), (4, .long v5), (6, .int v6)] [] := by
  have iX5 : ∀ w ∈ wsX50, w ∈ wsX5_holder := fun _ h => List.mem_cons_of_mem _ (List.mem_append_left _ (List.mem_append_right _ h))
  intro fuel
  induction fuel with
  | zero =>
    intro _ _ _
    exact v_none
  | succ fuel ih =>
    intro v4 v5 v6
    show VF X res (B_X5_holder_1 n nd wt a1 a2 (L_X5_holder_1 n nd wt a1 a2 fuel)  v4 v5 v6) _ _ _ _
    unfold B_X5_holder_1
    refine v_iload C 5 dX5_holder_30 rfl ?_
    refine v_aload_n C 0 dX5_holder_32 rfl ?_
    refine v_get C (T := TX5) (n := 10) (C9 := RX5) iX5 0 rfl rfl 0 (by decide) (List.mem_of_getElem? (i := 1) rfl) rfl rfl dX5_holder_33 ?_
    refine v_callV0v C 1 rfl rfl rfl (fun l9 r9 h9 => k_X0_sets (l := l9) hq  h9) gX5_holder_X0_sets rfl nI_X0_sets ⟨rfl, rfl, Nat.le_of_ble_eq_true rfl, Nat.le_of_ble_eq_true rfl⟩ dX5_holder_36 (Nat.le_of_ble_eq_true rfl) (fun r7 => ?_)
    refine v_icmp_ge C dX5_holder_39 (tgt := 91) (by decide) ?_ ?_
    · refine v_iload_n C 3 dX5_holder_91 rfl ?_
      refine v_if_ne C dX5_holder_92 (tgt := 98) (by decide) ?_ ?_
      · refine v_lload C 4 dX5_holder_98 rfl ?_
        refine v_ldc2 C (v := 2520) (List.mem_of_getElem? (i := 3) rfl) dX5_holder_100 ?_
        refine v_iload_n C 3 dX5_holder_103 rfl ?_
        refine v_i2l C dX5_holder_104 ?_
        refine v_lmul C dX5_holder_105 ?_
        refine v_iload_n C 2 dX5_holder_106 rfl ?_
        refine v_callSP3v C (fun l9 r9 h9 => k_X5_lowest (l := l9) h9) gX5_holder_X5_lowest rfl nI_X5_lowest ⟨rfl, rfl, Nat.le_of_ble_eq_true rfl, Nat.le_of_ble_eq_true rfl⟩ dX5_holder_107 (Nat.le_of_ble_eq_true rfl) (fun r8 => ?_)
        exact v_lret (rvf := fun (res : Int64) => (some (.long res))) (wf := fun (res : Int64) => (xW q cs n nd es kn knd kes img tl ta tn sl bey wt un ed kwt kun ked tb sb sz sbs G K P wk wh)) C dX5_holder_110 rfl rfl
      · refine v_iload_n C 2 dX5_holder_95 rfl ?_
        refine v_i2l C dX5_holder_96 ?_
        exact v_lret (rvf := fun (res : Int64) => (some (.long res))) (wf := fun (res : Int64) => (xW q cs n nd es kn knd kes img tl ta tn sl bey wt un ed kwt kun ked tb sb sz sbs G K P wk wh)) C dX5_holder_97 rfl rfl
    · refine v_aload_n C 0 dX5_holder_42 rfl ?_
      refine v_get C (T := TX5) (n := 10) (C9 := RX5) iX5 0 rfl rfl 0 (by decide) (List.mem_of_getElem? (i := 1) rfl) rfl rfl dX5_holder_43 ?_
      refine v_iload C 5 dX5_holder_46 rfl ?_
      refine v_callV1v C 1 rfl rfl rfl (fun l9 r9 h9 => k_X0_winsBarely (l := l9) hq  h9) gX5_holder_X0_winsBarely rfl nI_X0_winsBarely ⟨rfl, rfl, Nat.le_of_ble_eq_true rfl, Nat.le_of_ble_eq_true rfl⟩ dX5_holder_48 (Nat.le_of_ble_eq_true rfl) (fun r9 => ?_)
      refine v_jn2 (wj := (fun v11 v12 => (xW q cs n nd es kn knd kes img tl ta tn sl bey wt un ed kwt kun ked tb sb sz sbs G K P wk wh))) (pcj := 85) (lvj := (fun v11 v12 => [(0, .ref (q 0)), (1, .int a1), (2, .int a2), (3, .int v11), (4, .long v12), (6, .int v6)])) (stj := (fun v11 v12 => [])) (fun v11 v12 => ?_) (fun k10 hk10 => ?_)
      · refine v_iinc_nm C (lvf := fun x13 => [(6, .int x13), (0, .ref (q 0)), (1, .int a1), (2, .int a2), (3, .int v11), (4, .long v12)]) 5 dX5_holder_85 rfl rfl (by decide) (fun _ => rfl) (fun x13 => ?_)
        refine v_goto C dX5_holder_88 (tgt := 30) (by decide) ?_
        exact v_sub [1, 2, 3, 4, 5, 0] rfl (ih v11 v12 x13)
      · refine v_ifb_eq C (b := r9) dX5_holder_51 (tgt := 85) (by decide) ?_ ?_
        · exact v_sub [0, 1, 2, 3, 4, 5] rfl (hk10 v4 v5)
        · refine v_iinc_nm C (lvf := fun x14 => [(3, .int x14), (0, .ref (q 0)), (1, .int a1), (2, .int a2), (4, .long v5), (6, .int v6)]) 3 dX5_holder_54 rfl rfl (by decide) (fun _ => rfl) (fun x14 => ?_)
          refine v_lload C 4 dX5_holder_57 rfl ?_
          refine v_iload C 5 dX5_holder_59 rfl ?_
          refine v_iload_n C 2 dX5_holder_61 rfl ?_
          refine v_callSP2v C (fun l9 r9 h9 => k_X5_has (l := l9) h9) gX5_holder_X5_has rfl nI_X5_has ⟨rfl, rfl, Nat.le_of_ble_eq_true rfl, Nat.le_of_ble_eq_true rfl⟩ dX5_holder_62 (Nat.le_of_ble_eq_true rfl) (fun r15 => ?_)
          refine v_jn1 (wj := (fun v17 => (xW q cs n nd es kn knd kes img tl ta tn sl bey wt un ed kwt kun ked tb sb sz sbs G K P wk wh))) (pcj := 82) (lvj := (fun v17 => [(0, .ref (q 0)), (1, .int a1), (2, .int a2), (3, .int x14), (6, .int v6)])) (stj := (fun v17 => [.long v17, .long v5])) (fun v17 => ?_) (fun k16 hk16 => ?_)
          · refine v_ladd C dX5_holder_82 ?_
            refine v_lstore_nm C (lvf := fun x18 => [(4, .long x18), (0, .ref (q 0)), (1, .int a1), (2, .int a2), (3, .int x14), (6, .int v6)]) dX5_holder_83 (by decide) (fun _ => rfl) (fun x18 => ?_)
            exact v_sub [1, 2, 3, 4, 0, 5] rfl (hk10 x14 x18)
          · refine v_ifb_eq C (b := r15) dX5_holder_65 (tgt := 81) (by decide) ?_ ?_
            · refine v_lconst C dX5_holder_81 (v := 0) (by decide) ?_
              exact v_sub [1, 2, 3, 0, 5] rfl (hk16 0)
            · refine v_sipush C dX5_holder_68 (v := 2520) (by decide) ?_
              refine v_iload C 5 dX5_holder_71 rfl ?_
              refine v_callSP1v C (fun l9 r9 h9 => k_J6_bitCount_0f7a4 (l := l9) h9) gX5_holder_J6_bitCount_0f7a4 rfl nI_J6_bitCount_0f7a4 ⟨rfl, rfl, Nat.le_of_ble_eq_true rfl, Nat.le_of_ble_eq_true rfl⟩ dX5_holder_73 (Nat.le_of_ble_eq_true rfl) (fun r19 => ?_)
              refine v_idiv C dX5_holder_76 ?_
              refine v_i2l C dX5_holder_77 ?_
              refine v_goto C dX5_holder_78 (tgt := 82) (by decide) ?_
              exact v_sub [1, 2, 3, 0, 5] rfl (hk16 ((2520 / r19).toInt64))

set_option maxRecDepth 100000 in
set_option maxHeartbeats 4000000 in
theorem k_X5_holder {l : Launch} {a1 : Int32} {a2 : Int32}  {res : Int64} (hq : (xA q).Nodup)  (hf : f_X5_holder n nd wt a1 a2 = some res) : kMet l yX5_holder wsX5_holder { frames := 4, cells := 0, slots := 0, locals := 87 } D vwCl (xT cs) (xN tF) (xA q) [.ref (q 0), .int a1, .int a2] (xW q cs n nd es kn knd kes img tl ta tn sl bey wt un ed kwt kun ked tb sb sz sbs G K P wk wh) (some (.long res)) (xW q cs n nd es kn knd kes img tl ta tn sl bey wt un ed kwt kun ked tb sb sz sbs G K P wk wh) := by
  have iX5 : ∀ w ∈ wsX50, w ∈ wsX5_holder := fun _ h => List.mem_cons_of_mem _ (List.mem_append_left _ (List.mem_append_right _ h))
  refine kMet.of (cc := cX5_holder) (nL := 7) (ret := (some .long)) (own := RX5) (lv := [(0, .ref (q 0)), (1, .int a1), (2, .int a2)]) (by decide +kernel) rfl rfl xN_ok hq (Nat.le_of_ble_eq_true rfl) rfl (fun X C => ?_)
  refine VF.of hf ?_
  unfold f_X5_holder
  refine v_aload_n C 0 dX5_holder_0 rfl ?_
  refine v_get C (T := TX5) (n := 10) (C9 := RX5) iX5 0 rfl rfl 0 (by decide) (List.mem_of_getElem? (i := 1) rfl) rfl rfl dX5_holder_1 ?_
  refine v_iload_n C 1 dX5_holder_4 rfl ?_
  refine v_callV1v C 1 rfl rfl rfl (fun l9 r9 h9 => k_X0_hasPartner (l := l9) hq  h9) gX5_holder_X0_hasPartner rfl nI_X0_hasPartner ⟨rfl, rfl, Nat.le_of_ble_eq_true rfl, Nat.le_of_ble_eq_true rfl⟩ dX5_holder_5 (Nat.le_of_ble_eq_true rfl) (fun r1 => ?_)
  refine v_ifb_eq C (b := r1) dX5_holder_8 (tgt := 18) (by decide) ?_ ?_
  · refine v_ldc2 C (v := (-9223372036854775808)) (List.mem_of_getElem? (i := 2) rfl) dX5_holder_18 ?_
    exact v_lret (rvf := fun (res : Int64) => (some (.long res))) (wf := fun (res : Int64) => (xW q cs n nd es kn knd kes img tl ta tn sl bey wt un ed kwt kun ked tb sb sz sbs G K P wk wh)) C dX5_holder_21 rfl rfl
  · refine v_iload_n C 2 dX5_holder_11 rfl ?_
    refine v_callSP1v C (fun l9 r9 h9 => k_X5_isPart (l := l9) h9) gX5_holder_X5_isPart rfl nI_X5_isPart ⟨rfl, rfl, Nat.le_of_ble_eq_true rfl, Nat.le_of_ble_eq_true rfl⟩ dX5_holder_12 (Nat.le_of_ble_eq_true rfl) (fun r2 => ?_)
    refine v_ifb_ne C (b := r2) dX5_holder_15 (tgt := 22) (by decide) ?_ ?_
    · refine v_iconst C dX5_holder_22 (v := 0) (by decide) ?_
      refine v_istore_n C (lv' := [(3, .int 0), (0, .ref (q 0)), (1, .int a1), (2, .int a2)]) dX5_holder_23 rfl (by decide) rfl ?_
      refine v_lconst C dX5_holder_24 (v := 0) (by decide) ?_
      refine v_lstore C (lv' := [(4, .long 0), (3, .int 0), (0, .ref (q 0)), (1, .int a1), (2, .int a2)]) dX5_holder_25 (by decide) rfl ?_
      refine v_iconst C dX5_holder_27 (v := 1) (by decide) ?_
      refine v_istore C (lv' := [(6, .int 1), (4, .long 0), (3, .int 0), (0, .ref (q 0)), (1, .int a1), (2, .int a2)]) dX5_holder_28 (by decide) rfl ?_
      refine v_sub [3, 4, 5, 2, 1, 0] rfl (lp_X5_holder_1 hq C   FU 0 0 1)
    · refine v_ldc2 C (v := (-9223372036854775808)) (List.mem_of_getElem? (i := 2) rfl) dX5_holder_18 ?_
      exact v_lret (rvf := fun (res : Int64) => (some (.long res))) (wf := fun (res : Int64) => (xW q cs n nd es kn knd kes img tl ta tn sl bey wt un ed kwt kun ked tb sb sz sbs G K P wk wh)) C dX5_holder_21 rfl rfl

def B_X5_countWinning_1 (n : Int32) (nd : Int32) (wt : Nat → Int32) (rec1 : Int32 → Int32 → Option (Int32))  (v2 : Int32) (v3 : Int32) : Option (Int32) :=
(f_X0_sets n).bind (fun (r4 : Int32) =>
if (v3 : Int32) < r4 then (
(f_X0_wins n nd wt v3).bind (fun (r5 : Bool) =>
jn1 (fun (v7 : Int32) =>
nm (v3 + 1) (fun (x8 : Int32) =>
rec1 v7 x8)) (fun k6 =>
if r5 = true then (
nm (v2 + 1) (fun (x9 : Int32) =>
k6 x9)) else (
k6 v2)))) else (
some v2))
def L_X5_countWinning_1 (n : Int32) (nd : Int32) (wt : Nat → Int32)  : Nat → Int32 → Int32 → Option (Int32)
  | 0, _, _ => none
  | m9 + 1, v2, v3 => B_X5_countWinning_1 n nd wt (L_X5_countWinning_1 n nd wt m9)  v2 v3

def f_X5_countWinning (n : Int32) (nd : Int32) (wt : Nat → Int32) : Option (Int32) :=
L_X5_countWinning_1 n nd wt  FU 0 0

theorem nI_X5_countWinning : NameIn yX5_countWinning 0 := ⟨by decide +kernel, by decide +kernel, by decide +kernel⟩
set_option maxRecDepth 100000 in
set_option maxHeartbeats 4000000 in
theorem lp_X5_countWinning_1 {X : CX} {res : Int32}    (hq : (xA q).Nodup) (C : Ok X cX5_countWinning 3 (some .int) wsX5_countWinning RX5 { frames := 3, cells := 0, slots := 0, locals := 65 } D vwCl (xT cs) (xA q) (xN tF) (some (.int res)) (xW q cs n nd es kn knd kes img tl ta tn sl bey wt un ed kwt kun ked tb sb sz sbs G K P wk wh))  : ∀ fuel : Nat, ∀ v2 : Int32, ∀ v3 : Int32, VF X res (L_X5_countWinning_1 n nd wt fuel v2 v3) (xW q cs n nd es kn knd kes img tl ta tn sl bey wt un ed kwt kun ked tb sb sz sbs G K P wk wh) 4 [(0, .ref (q 0)), (1, .int v2), (2, .int v3)] [] := by
  have iX5 : ∀ w ∈ wsX50, w ∈ wsX5_countWinning := fun _ h => List.mem_cons_of_mem _ (List.mem_append_left _ (List.mem_append_right _ h))
  intro fuel
  induction fuel with
  | zero =>
    intro _ _
    exact v_none
  | succ fuel ih =>
    intro v2 v3
    show VF X res (B_X5_countWinning_1 n nd wt (L_X5_countWinning_1 n nd wt fuel)  v2 v3) _ _ _ _
    unfold B_X5_countWinning_1
    refine v_iload_n C 2 dX5_countWinning_4 rfl ?_
    refine v_aload_n C 0 dX5_countWinning_5 rfl ?_
    refine v_get C (T := TX5) (n := 10) (C9 := RX5) iX5 0 rfl rfl 0 (by decide) (List.mem_of_getElem? (i := 1) rfl) rfl rfl dX5_countWinning_6 ?_
    refine v_callV0v C 1 rfl rfl rfl (fun l9 r9 h9 => k_X0_sets (l := l9) hq  h9) gX5_countWinning_X0_sets rfl nI_X0_sets ⟨rfl, rfl, Nat.le_of_ble_eq_true rfl, Nat.le_of_ble_eq_true rfl⟩ dX5_countWinning_9 (Nat.le_of_ble_eq_true rfl) (fun r4 => ?_)
    refine v_icmp_ge C dX5_countWinning_12 (tgt := 35) (by decide) ?_ ?_
    · refine v_iload_n C 1 dX5_countWinning_35 rfl ?_
      exact v_iret (rvf := fun (res : Int32) => (some (.int res))) (wf := fun (res : Int32) => (xW q cs n nd es kn knd kes img tl ta tn sl bey wt un ed kwt kun ked tb sb sz sbs G K P wk wh)) C dX5_countWinning_36 rfl rfl
    · refine v_aload_n C 0 dX5_countWinning_15 rfl ?_
      refine v_get C (T := TX5) (n := 10) (C9 := RX5) iX5 0 rfl rfl 0 (by decide) (List.mem_of_getElem? (i := 1) rfl) rfl rfl dX5_countWinning_16 ?_
      refine v_iload_n C 2 dX5_countWinning_19 rfl ?_
      refine v_callV1v C 1 rfl rfl rfl (fun l9 r9 h9 => k_X0_wins (l := l9) hq  h9) gX5_countWinning_X0_wins rfl nI_X0_wins ⟨rfl, rfl, Nat.le_of_ble_eq_true rfl, Nat.le_of_ble_eq_true rfl⟩ dX5_countWinning_20 (Nat.le_of_ble_eq_true rfl) (fun r5 => ?_)
      refine v_jn1 (wj := (fun v7 => (xW q cs n nd es kn knd kes img tl ta tn sl bey wt un ed kwt kun ked tb sb sz sbs G K P wk wh))) (pcj := 29) (lvj := (fun v7 => [(0, .ref (q 0)), (1, .int v7), (2, .int v3)])) (stj := (fun v7 => [])) (fun v7 => ?_) (fun k6 hk6 => ?_)
      · refine v_iinc_nm C (lvf := fun x8 => [(2, .int x8), (0, .ref (q 0)), (1, .int v7)]) 2 dX5_countWinning_29 rfl rfl (by decide) (fun _ => rfl) (fun x8 => ?_)
        refine v_goto C dX5_countWinning_32 (tgt := 4) (by decide) ?_
        exact v_sub [1, 2, 0] rfl (ih v7 x8)
      · refine v_ifb_eq C (b := r5) dX5_countWinning_23 (tgt := 29) (by decide) ?_ ?_
        · exact v_sub [0, 1, 2] rfl (hk6 v2)
        · refine v_iinc_nm C (lvf := fun x9 => [(1, .int x9), (0, .ref (q 0)), (2, .int v3)]) 1 dX5_countWinning_26 rfl rfl (by decide) (fun _ => rfl) (fun x9 => ?_)
          exact v_sub [1, 0, 2] rfl (hk6 x9)

set_option maxRecDepth 100000 in
set_option maxHeartbeats 4000000 in
theorem k_X5_countWinning {l : Launch}   {res : Int32} (hq : (xA q).Nodup)  (hf : f_X5_countWinning n nd wt = some res) : kMet l yX5_countWinning wsX5_countWinning { frames := 3, cells := 0, slots := 0, locals := 65 } D vwCl (xT cs) (xN tF) (xA q) [.ref (q 0)] (xW q cs n nd es kn knd kes img tl ta tn sl bey wt un ed kwt kun ked tb sb sz sbs G K P wk wh) (some (.int res)) (xW q cs n nd es kn knd kes img tl ta tn sl bey wt un ed kwt kun ked tb sb sz sbs G K P wk wh) := by
  refine kMet.of (cc := cX5_countWinning) (nL := 3) (ret := (some .int)) (own := RX5) (lv := [(0, .ref (q 0))]) (by decide +kernel) rfl rfl xN_ok hq (Nat.le_of_ble_eq_true rfl) rfl (fun X C => ?_)
  refine VF.of hf ?_
  unfold f_X5_countWinning
  refine v_iconst C dX5_countWinning_0 (v := 0) (by decide) ?_
  refine v_istore_n C (lv' := [(1, .int 0), (0, .ref (q 0))]) dX5_countWinning_1 rfl (by decide) rfl ?_
  refine v_iconst C dX5_countWinning_2 (v := 0) (by decide) ?_
  refine v_istore_n C (lv' := [(2, .int 0), (1, .int 0), (0, .ref (q 0))]) dX5_countWinning_3 rfl (by decide) rfl ?_
  refine v_sub [2, 1, 0] rfl (lp_X5_countWinning_1 hq C   FU 0 0)

def B_X5_countBarelyWinning_1 (n : Int32) (nd : Int32) (wt : Nat → Int32) (rec1 : Int32 → Int32 → Option (Int32))  (v2 : Int32) (v3 : Int32) : Option (Int32) :=
(f_X0_sets n).bind (fun (r4 : Int32) =>
if (v3 : Int32) < r4 then (
(f_X0_winsBarely n nd wt v3).bind (fun (r5 : Bool) =>
jn1 (fun (v7 : Int32) =>
nm (v3 + 1) (fun (x8 : Int32) =>
rec1 v7 x8)) (fun k6 =>
if r5 = true then (
nm (v2 + 1) (fun (x9 : Int32) =>
k6 x9)) else (
k6 v2)))) else (
some v2))
def L_X5_countBarelyWinning_1 (n : Int32) (nd : Int32) (wt : Nat → Int32)  : Nat → Int32 → Int32 → Option (Int32)
  | 0, _, _ => none
  | m9 + 1, v2, v3 => B_X5_countBarelyWinning_1 n nd wt (L_X5_countBarelyWinning_1 n nd wt m9)  v2 v3

def f_X5_countBarelyWinning (n : Int32) (nd : Int32) (wt : Nat → Int32) : Option (Int32) :=
L_X5_countBarelyWinning_1 n nd wt  FU 0 0

theorem nI_X5_countBarelyWinning : NameIn yX5_countBarelyWinning 0 := ⟨by decide +kernel, by decide +kernel, by decide +kernel⟩
set_option maxRecDepth 100000 in
set_option maxHeartbeats 4000000 in
theorem lp_X5_countBarelyWinning_1 {X : CX} {res : Int32}    (hq : (xA q).Nodup) (C : Ok X cX5_countBarelyWinning 3 (some .int) wsX5_countBarelyWinning RX5 { frames := 4, cells := 0, slots := 0, locals := 87 } D vwCl (xT cs) (xA q) (xN tF) (some (.int res)) (xW q cs n nd es kn knd kes img tl ta tn sl bey wt un ed kwt kun ked tb sb sz sbs G K P wk wh))  : ∀ fuel : Nat, ∀ v2 : Int32, ∀ v3 : Int32, VF X res (L_X5_countBarelyWinning_1 n nd wt fuel v2 v3) (xW q cs n nd es kn knd kes img tl ta tn sl bey wt un ed kwt kun ked tb sb sz sbs G K P wk wh) 4 [(0, .ref (q 0)), (1, .int v2), (2, .int v3)] [] := by
  have iX5 : ∀ w ∈ wsX50, w ∈ wsX5_countBarelyWinning := fun _ h => List.mem_cons_of_mem _ (List.mem_append_left _ (List.mem_append_right _ h))
  intro fuel
  induction fuel with
  | zero =>
    intro _ _
    exact v_none
  | succ fuel ih =>
    intro v2 v3
    show VF X res (B_X5_countBarelyWinning_1 n nd wt (L_X5_countBarelyWinning_1 n nd wt fuel)  v2 v3) _ _ _ _
    unfold B_X5_countBarelyWinning_1
    refine v_iload_n C 2 dX5_countBarelyWinning_4 rfl ?_
    refine v_aload_n C 0 dX5_countBarelyWinning_5 rfl ?_
    refine v_get C (T := TX5) (n := 10) (C9 := RX5) iX5 0 rfl rfl 0 (by decide) (List.mem_of_getElem? (i := 1) rfl) rfl rfl dX5_countBarelyWinning_6 ?_
    refine v_callV0v C 1 rfl rfl rfl (fun l9 r9 h9 => k_X0_sets (l := l9) hq  h9) gX5_countBarelyWinning_X0_sets rfl nI_X0_sets ⟨rfl, rfl, Nat.le_of_ble_eq_true rfl, Nat.le_of_ble_eq_true rfl⟩ dX5_countBarelyWinning_9 (Nat.le_of_ble_eq_true rfl) (fun r4 => ?_)
    refine v_icmp_ge C dX5_countBarelyWinning_12 (tgt := 35) (by decide) ?_ ?_
    · refine v_iload_n C 1 dX5_countBarelyWinning_35 rfl ?_
      exact v_iret (rvf := fun (res : Int32) => (some (.int res))) (wf := fun (res : Int32) => (xW q cs n nd es kn knd kes img tl ta tn sl bey wt un ed kwt kun ked tb sb sz sbs G K P wk wh)) C dX5_countBarelyWinning_36 rfl rfl
    · refine v_aload_n C 0 dX5_countBarelyWinning_15 rfl ?_
      refine v_get C (T := TX5) (n := 10) (C9 := RX5) iX5 0 rfl rfl 0 (by decide) (List.mem_of_getElem? (i := 1) rfl) rfl rfl dX5_countBarelyWinning_16 ?_
      refine v_iload_n C 2 dX5_countBarelyWinning_19 rfl ?_
      refine v_callV1v C 1 rfl rfl rfl (fun l9 r9 h9 => k_X0_winsBarely (l := l9) hq  h9) gX5_countBarelyWinning_X0_winsBarely rfl nI_X0_winsBarely ⟨rfl, rfl, Nat.le_of_ble_eq_true rfl, Nat.le_of_ble_eq_true rfl⟩ dX5_countBarelyWinning_20 (Nat.le_of_ble_eq_true rfl) (fun r5 => ?_)
      refine v_jn1 (wj := (fun v7 => (xW q cs n nd es kn knd kes img tl ta tn sl bey wt un ed kwt kun ked tb sb sz sbs G K P wk wh))) (pcj := 29) (lvj := (fun v7 => [(0, .ref (q 0)), (1, .int v7), (2, .int v3)])) (stj := (fun v7 => [])) (fun v7 => ?_) (fun k6 hk6 => ?_)
      · refine v_iinc_nm C (lvf := fun x8 => [(2, .int x8), (0, .ref (q 0)), (1, .int v7)]) 2 dX5_countBarelyWinning_29 rfl rfl (by decide) (fun _ => rfl) (fun x8 => ?_)
        refine v_goto C dX5_countBarelyWinning_32 (tgt := 4) (by decide) ?_
        exact v_sub [1, 2, 0] rfl (ih v7 x8)
      · refine v_ifb_eq C (b := r5) dX5_countBarelyWinning_23 (tgt := 29) (by decide) ?_ ?_
        · exact v_sub [0, 1, 2] rfl (hk6 v2)
        · refine v_iinc_nm C (lvf := fun x9 => [(1, .int x9), (0, .ref (q 0)), (2, .int v3)]) 1 dX5_countBarelyWinning_26 rfl rfl (by decide) (fun _ => rfl) (fun x9 => ?_)
          exact v_sub [1, 0, 2] rfl (hk6 x9)

set_option maxRecDepth 100000 in
set_option maxHeartbeats 4000000 in
theorem k_X5_countBarelyWinning {l : Launch}   {res : Int32} (hq : (xA q).Nodup)  (hf : f_X5_countBarelyWinning n nd wt = some res) : kMet l yX5_countBarelyWinning wsX5_countBarelyWinning { frames := 4, cells := 0, slots := 0, locals := 87 } D vwCl (xT cs) (xN tF) (xA q) [.ref (q 0)] (xW q cs n nd es kn knd kes img tl ta tn sl bey wt un ed kwt kun ked tb sb sz sbs G K P wk wh) (some (.int res)) (xW q cs n nd es kn knd kes img tl ta tn sl bey wt un ed kwt kun ked tb sb sz sbs G K P wk wh) := by
  refine kMet.of (cc := cX5_countBarelyWinning) (nL := 3) (ret := (some .int)) (own := RX5) (lv := [(0, .ref (q 0))]) (by decide +kernel) rfl rfl xN_ok hq (Nat.le_of_ble_eq_true rfl) rfl (fun X C => ?_)
  refine VF.of hf ?_
  unfold f_X5_countBarelyWinning
  refine v_iconst C dX5_countBarelyWinning_0 (v := 0) (by decide) ?_
  refine v_istore_n C (lv' := [(1, .int 0), (0, .ref (q 0))]) dX5_countBarelyWinning_1 rfl (by decide) rfl ?_
  refine v_iconst C dX5_countBarelyWinning_2 (v := 0) (by decide) ?_
  refine v_istore_n C (lv' := [(2, .int 0), (1, .int 0), (0, .ref (q 0))]) dX5_countBarelyWinning_3 rfl (by decide) rfl ?_
  refine v_sub [2, 1, 0] rfl (lp_X5_countBarelyWinning_1 hq C   FU 0 0)

def B_X5_smallestWinning_1 (n : Int32) (nd : Int32) (wt : Nat → Int32) (rec1 : Int32 → Int32 → Int32 → Option (Int32))  (v2 : Int32) (v3 : Int32) (v4 : Int32) : Option (Int32) :=
(f_X0_sets n).bind (fun (r5 : Int32) =>
if (v4 : Int32) < r5 then (
(f_J6_bitCount_0f7a4 v4).bind (fun (r6 : Int32) =>
jn2 (fun (v8 : Int32) (v9 : Int32) =>
nm (v4 + 1) (fun (x10 : Int32) =>
rec1 v8 v9 x10)) (fun k7 =>
if (r6 : Int32) < v3 then (
(f_X0_wins n nd wt v4).bind (fun (r11 : Bool) =>
if r11 = true then (
(f_J6_bitCount_0f7a4 v4).bind (fun (r12 : Int32) =>
k7 v4 r12)) else (
k7 v2 v3))) else (
k7 v2 v3)))) else (
some v2))
def L_X5_smallestWinning_1 (n : Int32) (nd : Int32) (wt : Nat → Int32)  : Nat → Int32 → Int32 → Int32 → Option (Int32)
  | 0, _, _, _ => none
  | m9 + 1, v2, v3, v4 => B_X5_smallestWinning_1 n nd wt (L_X5_smallestWinning_1 n nd wt m9)  v2 v3 v4

def f_X5_smallestWinning (n : Int32) (nd : Int32) (wt : Nat → Int32) : Option (Int32) :=
L_X5_smallestWinning_1 n nd wt  FU (-5) 10 0

theorem nI_X5_smallestWinning : NameIn yX5_smallestWinning 0 := ⟨by decide +kernel, by decide +kernel, by decide +kernel⟩
set_option maxRecDepth 100000 in
set_option maxHeartbeats 4000000 in
theorem lp_X5_smallestWinning_1 {X : CX} {res : Int32}    (hq : (xA q).Nodup) (C : Ok X cX5_smallestWinning 4 (some .int) wsX5_smallestWinning RX5 { frames := 3, cells := 0, slots := 0, locals := 65 } D vwCl (xT cs) (xA q) (xN tF) (some (.int res)) (xW q cs n nd es kn knd kes img tl ta tn sl bey wt un ed kwt kun ked tb sb sz sbs G K P wk wh))  : ∀ fuel : Nat, ∀ v2 : Int32, ∀ v3 : Int32, ∀ v4 : Int32, VF X res (L_X5_smallestWinning_1 n nd wt fuel v2 v3 v4) (xW q cs n nd es kn knd kes img tl ta tn sl bey wt un ed kwt kun ked tb sb sz sbs G K P wk wh) 8 [(0, .ref (q 0)), (1, .int v2), (2, .int v3), (3, .int v4)] [] := by
  have iX5 : ∀ w ∈ wsX50, w ∈ wsX5_smallestWinning := fun _ h => List.mem_cons_of_mem _ (List.mem_append_left _ (List.mem_append_right _ h))
  intro fuel
  induction fuel with
  | zero =>
    intro _ _ _
    exact v_none
  | succ fuel ih =>
    intro v2 v3 v4
    show VF X res (B_X5_smallestWinning_1 n nd wt (L_X5_smallestWinning_1 n nd wt fuel)  v2 v3 v4) _ _ _ _
    unfold B_X5_smallestWinning_1
    refine v_iload_n C 3 dX5_smallestWinning_8 rfl ?_
    refine v_aload_n C 0 dX5_smallestWinning_9 rfl ?_
    refine v_get C (T := TX5) (n := 10) (C9 := RX5) iX5 0 rfl rfl 0 (by decide) (List.mem_of_getElem? (i := 1) rfl) rfl rfl dX5_smallestWinning_10 ?_
    refine v_callV0v C 1 rfl rfl rfl (fun l9 r9 h9 => k_X0_sets (l := l9) hq  h9) gX5_smallestWinning_X0_sets rfl nI_X0_sets ⟨rfl, rfl, Nat.le_of_ble_eq_true rfl, Nat.le_of_ble_eq_true rfl⟩ dX5_smallestWinning_13 (Nat.le_of_ble_eq_true rfl) (fun r5 => ?_)
    refine v_icmp_ge C dX5_smallestWinning_16 (tgt := 51) (by decide) ?_ ?_
    · refine v_iload_n C 1 dX5_smallestWinning_51 rfl ?_
      exact v_iret (rvf := fun (res : Int32) => (some (.int res))) (wf := fun (res : Int32) => (xW q cs n nd es kn knd kes img tl ta tn sl bey wt un ed kwt kun ked tb sb sz sbs G K P wk wh)) C dX5_smallestWinning_52 rfl rfl
    · refine v_iload_n C 3 dX5_smallestWinning_19 rfl ?_
      refine v_callSP1v C (fun l9 r9 h9 => k_J6_bitCount_0f7a4 (l := l9) h9) gX5_smallestWinning_J6_bitCount_0f7a4 rfl nI_J6_bitCount_0f7a4 ⟨rfl, rfl, Nat.le_of_ble_eq_true rfl, Nat.le_of_ble_eq_true rfl⟩ dX5_smallestWinning_20 (Nat.le_of_ble_eq_true rfl) (fun r6 => ?_)
      refine v_iload_n C 2 dX5_smallestWinning_23 rfl ?_
      refine v_jn2 (wj := (fun v8 v9 => (xW q cs n nd es kn knd kes img tl ta tn sl bey wt un ed kwt kun ked tb sb sz sbs G K P wk wh))) (pcj := 45) (lvj := (fun v8 v9 => [(0, .ref (q 0)), (1, .int v8), (2, .int v9), (3, .int v4)])) (stj := (fun v8 v9 => [])) (fun v8 v9 => ?_) (fun k7 hk7 => ?_)
      · refine v_iinc_nm C (lvf := fun x10 => [(3, .int x10), (0, .ref (q 0)), (1, .int v8), (2, .int v9)]) 3 dX5_smallestWinning_45 rfl rfl (by decide) (fun _ => rfl) (fun x10 => ?_)
        refine v_goto C dX5_smallestWinning_48 (tgt := 8) (by decide) ?_
        exact v_sub [1, 2, 3, 0] rfl (ih v8 v9 x10)
      · refine v_icmp_ge C dX5_smallestWinning_24 (tgt := 45) (by decide) ?_ ?_
        · exact v_sub [0, 1, 2, 3] rfl (hk7 v2 v3)
        · refine v_aload_n C 0 dX5_smallestWinning_27 rfl ?_
          refine v_get C (T := TX5) (n := 10) (C9 := RX5) iX5 0 rfl rfl 0 (by decide) (List.mem_of_getElem? (i := 1) rfl) rfl rfl dX5_smallestWinning_28 ?_
          refine v_iload_n C 3 dX5_smallestWinning_31 rfl ?_
          refine v_callV1v C 1 rfl rfl rfl (fun l9 r9 h9 => k_X0_wins (l := l9) hq  h9) gX5_smallestWinning_X0_wins rfl nI_X0_wins ⟨rfl, rfl, Nat.le_of_ble_eq_true rfl, Nat.le_of_ble_eq_true rfl⟩ dX5_smallestWinning_32 (Nat.le_of_ble_eq_true rfl) (fun r11 => ?_)
          refine v_ifb_eq C (b := r11) dX5_smallestWinning_35 (tgt := 45) (by decide) ?_ ?_
          · exact v_sub [0, 1, 2, 3] rfl (hk7 v2 v3)
          · refine v_iload_n C 3 dX5_smallestWinning_38 rfl ?_
            refine v_istore_n C (lv' := [(1, .int v4), (0, .ref (q 0)), (2, .int v3), (3, .int v4)]) dX5_smallestWinning_39 rfl (by decide) rfl ?_
            refine v_iload_n C 3 dX5_smallestWinning_40 rfl ?_
            refine v_callSP1v C (fun l9 r9 h9 => k_J6_bitCount_0f7a4 (l := l9) h9) gX5_smallestWinning_J6_bitCount_0f7a4 rfl nI_J6_bitCount_0f7a4 ⟨rfl, rfl, Nat.le_of_ble_eq_true rfl, Nat.le_of_ble_eq_true rfl⟩ dX5_smallestWinning_41 (Nat.le_of_ble_eq_true rfl) (fun r12 => ?_)
            refine v_istore_n C (lv' := [(2, .int r12), (1, .int v4), (0, .ref (q 0)), (3, .int v4)]) dX5_smallestWinning_44 rfl (by decide) rfl ?_
            exact v_sub [2, 1, 0, 3] rfl (hk7 v4 r12)

set_option maxRecDepth 100000 in
set_option maxHeartbeats 4000000 in
theorem k_X5_smallestWinning {l : Launch}   {res : Int32} (hq : (xA q).Nodup)  (hf : f_X5_smallestWinning n nd wt = some res) : kMet l yX5_smallestWinning wsX5_smallestWinning { frames := 3, cells := 0, slots := 0, locals := 65 } D vwCl (xT cs) (xN tF) (xA q) [.ref (q 0)] (xW q cs n nd es kn knd kes img tl ta tn sl bey wt un ed kwt kun ked tb sb sz sbs G K P wk wh) (some (.int res)) (xW q cs n nd es kn knd kes img tl ta tn sl bey wt un ed kwt kun ked tb sb sz sbs G K P wk wh) := by
  refine kMet.of (cc := cX5_smallestWinning) (nL := 4) (ret := (some .int)) (own := RX5) (lv := [(0, .ref (q 0))]) (by decide +kernel) rfl rfl xN_ok hq (Nat.le_of_ble_eq_true rfl) rfl (fun X C => ?_)
  refine VF.of hf ?_
  unfold f_X5_smallestWinning
  refine v_bipush C dX5_smallestWinning_0 (v := (-5)) (by decide) ?_
  refine v_istore_n C (lv' := [(1, .int (-5)), (0, .ref (q 0))]) dX5_smallestWinning_2 rfl (by decide) rfl ?_
  refine v_bipush C dX5_smallestWinning_3 (v := 10) (by decide) ?_
  refine v_istore_n C (lv' := [(2, .int 10), (1, .int (-5)), (0, .ref (q 0))]) dX5_smallestWinning_5 rfl (by decide) rfl ?_
  refine v_iconst C dX5_smallestWinning_6 (v := 0) (by decide) ?_
  refine v_istore_n C (lv' := [(3, .int 0), (2, .int 10), (1, .int (-5)), (0, .ref (q 0))]) dX5_smallestWinning_7 rfl (by decide) rfl ?_
  refine v_sub [3, 2, 1, 0] rfl (lp_X5_smallestWinning_1 hq C   FU (-5) 10 0)

def f_X5_votes (n : Int32) (nd : Int32) (wt : Nat → Int32) (a1 : Int32) : Option (Int32) :=
if (a1 : Int32) = 0 then (
(f_X5_countWinning n nd wt).bind (fun (r1 : Int32) =>
some r1)) else (
if (a1 : Int32) = 1 then (
(f_X5_countBarelyWinning n nd wt).bind (fun (r2 : Int32) =>
some r2)) else (
if (a1 : Int32) = 2 then (
(f_X5_smallestWinning n nd wt).bind (fun (r3 : Int32) =>
some r3)) else (
some (-1))))

theorem nI_X5_votes : NameIn yX5_votes 1 := ⟨by decide +kernel, by decide +kernel, by decide +kernel⟩
set_option maxRecDepth 100000 in
set_option maxHeartbeats 4000000 in
theorem k_X5_votes {l : Launch} {a1 : Int32}  {res : Int32} (hq : (xA q).Nodup)  (hf : f_X5_votes n nd wt a1 = some res) : kMet l yX5_votes wsX5_votes { frames := 5, cells := 0, slots := 0, locals := 109 } D vwCl (xT cs) (xN tF) (xA q) [.ref (q 0), .int a1] (xW q cs n nd es kn knd kes img tl ta tn sl bey wt un ed kwt kun ked tb sb sz sbs G K P wk wh) (some (.int res)) (xW q cs n nd es kn knd kes img tl ta tn sl bey wt un ed kwt kun ked tb sb sz sbs G K P wk wh) := by
  refine kMet.of (cc := cX5_votes) (nL := 2) (ret := (some .int)) (own := RX5) (lv := [(0, .ref (q 0)), (1, .int a1)]) (by decide +kernel) rfl rfl xN_ok hq (Nat.le_of_ble_eq_true rfl) rfl (fun X C => ?_)
  refine VF.of hf ?_
  unfold f_X5_votes
  refine v_iload_n C 1 dX5_votes_0 rfl ?_
  refine v_split (fun h0 => ?_) (fun h0 => ?_)
  · refine v_tin C dX5_votes_1 (tgt := 28) (off := 27) (by rw [h0]; decide) (by rw [h0]; decide) (by rw [h0]; rfl) (by decide) ?_
    refine v_aload_n C 0 dX5_votes_28 rfl ?_
    refine v_callV0v C 0 rfl rfl rfl (fun l9 r9 h9 => k_X5_countWinning (l := l9) hq  h9) gX5_votes_X5_countWinning rfl nI_X5_countWinning ⟨rfl, rfl, Nat.le_of_ble_eq_true rfl, Nat.le_of_ble_eq_true rfl⟩ dX5_votes_29 (Nat.le_of_ble_eq_true rfl) (fun r1 => ?_)
    exact v_iret (rvf := fun (res : Int32) => (some (.int res))) (wf := fun (res : Int32) => (xW q cs n nd es kn knd kes img tl ta tn sl bey wt un ed kwt kun ked tb sb sz sbs G K P wk wh)) C dX5_votes_32 rfl rfl
  · refine v_split (fun h1 => ?_) (fun h1 => ?_)
    · refine v_tin C dX5_votes_1 (tgt := 33) (off := 32) (by rw [h1]; decide) (by rw [h1]; decide) (by rw [h1]; rfl) (by decide) ?_
      refine v_aload_n C 0 dX5_votes_33 rfl ?_
      refine v_callV0v C 0 rfl rfl rfl (fun l9 r9 h9 => k_X5_countBarelyWinning (l := l9) hq  h9) gX5_votes_X5_countBarelyWinning rfl nI_X5_countBarelyWinning ⟨rfl, rfl, Nat.le_of_ble_eq_true rfl, Nat.le_of_ble_eq_true rfl⟩ dX5_votes_34 (Nat.le_of_ble_eq_true rfl) (fun r2 => ?_)
      exact v_iret (rvf := fun (res : Int32) => (some (.int res))) (wf := fun (res : Int32) => (xW q cs n nd es kn knd kes img tl ta tn sl bey wt un ed kwt kun ked tb sb sz sbs G K P wk wh)) C dX5_votes_37 rfl rfl
    · refine v_split (fun h2 => ?_) (fun h2 => ?_)
      · refine v_tin C dX5_votes_1 (tgt := 38) (off := 37) (by rw [h2]; decide) (by rw [h2]; decide) (by rw [h2]; rfl) (by decide) ?_
        refine v_aload_n C 0 dX5_votes_38 rfl ?_
        refine v_callV0v C 0 rfl rfl rfl (fun l9 r9 h9 => k_X5_smallestWinning (l := l9) hq  h9) gX5_votes_X5_smallestWinning rfl nI_X5_smallestWinning ⟨rfl, rfl, Nat.le_of_ble_eq_true rfl, Nat.le_of_ble_eq_true rfl⟩ dX5_votes_39 (Nat.le_of_ble_eq_true rfl) (fun r3 => ?_)
        exact v_iret (rvf := fun (res : Int32) => (some (.int res))) (wf := fun (res : Int32) => (xW q cs n nd es kn knd kes img tl ta tn sl bey wt un ed kwt kun ked tb sb sz sbs G K P wk wh)) C dX5_votes_42 rfl rfl
      · have g0 := i32n h0
        have g1 := i32n h1
        have g2 := i32n h2
        rw [show ((0 : Int32).toInt) = 0 from by decide] at g0
        rw [show ((1 : Int32).toInt) = 1 from by decide] at g1
        rw [show ((2 : Int32).toInt) = 2 from by decide] at g2
        refine v_tout C dX5_votes_1 (tgt := 43) (by omega) (by decide) ?_
        refine v_iconst C dX5_votes_43 (v := (-1)) (by decide) ?_
        exact v_iret (rvf := fun (res : Int32) => (some (.int res))) (wf := fun (res : Int32) => (xW q cs n nd es kn knd kes img tl ta tn sl bey wt un ed kwt kun ked tb sb sz sbs G K P wk wh)) C dX5_votes_44 rfl rfl

def B_X5_addsAlways_1 (n : Int32) (vs : Nat → Int64) (a2 : Int32) (a3 : Int64) (rec1 : Int32 → Bool → Option (Bool × Bool)) (kx2 : Bool → Option (Bool × Bool)) (v3 : Int32) (bey4 : Bool) : Option (Bool × Bool) :=
(f_X0_sets n).bind (fun (r5 : Int32) =>
if (v3 : Int32) < r5 then (
(f_X5_has v3 a2).bind (fun (r6 : Bool) =>
jn1 (fun (bey8 : Bool) =>
nm (v3 + 1) (fun (x9 : Int32) =>
rec1 x9 bey8)) (fun k7 =>
if r6 = true then (
k7 bey4) else (
(f_X1_begin bey4).bind (fun (r10 : Bool) =>
(f_X5_addedBy r10 vs a2 v3).bind (fun (r11 : Int64 × Bool) =>
if r11.2 = true then (
kx2 r11.2) else (
if (r11.1 : Int64) = a3 then (
k7 r11.2) else (
kx2 r11.2)))))))) else (
some (true, bey4)))
def L_X5_addsAlways_1 (n : Int32) (vs : Nat → Int64) (a2 : Int32) (a3 : Int64) (kx2 : Bool → Option (Bool × Bool)) : Nat → Int32 → Bool → Option (Bool × Bool)
  | 0, _, _ => none
  | m9 + 1, v3, bey4 => B_X5_addsAlways_1 n vs a2 a3 (L_X5_addsAlways_1 n vs a2 a3 kx2 m9) kx2 v3 bey4

def f_X5_addsAlways (n : Int32) (bey : Bool) (vs : Nat → Int64) (a2 : Int32) (a3 : Int64) : Option (Bool × Bool) :=
L_X5_addsAlways_1 n vs a2 a3 (fun (bey12 : Bool) =>
some (false, bey12)) FU 0 bey

theorem nI_X5_addsAlways : NameIn yX5_addsAlways 3 := ⟨by decide +kernel, by decide +kernel, by decide +kernel⟩
set_option maxRecDepth 100000 in
set_option maxHeartbeats 4000000 in
theorem lp_X5_addsAlways_1 {X : CX} {res : Bool × Bool} {a2 : Int32} {a3 : Int64} {vj : Nat}  (hq : (xA q).Nodup) (C : Ok X cX5_addsAlways 8 (some .boolean) wsX5_addsAlways RX5 { frames := 2, cells := 0, slots := 0, locals := 49 } D vwCl (xT cs) (xA q) (xN tF) (some (.int (bI res.1))) (xW q cs n nd es kn knd kes img tl ta tn sl res.2 wt un ed kwt kun ked tb sb sz sbs G K P wk wh)) (hvj : vj < 4) (kx2 : Bool → Option (Bool × Bool)) (Jkx2 : ∀ beyZz : Bool, VF X res (kx2 beyZz) (xW q cs n nd es kn knd kes img tl ta tn sl beyZz wt un ed kwt kun ked tb sb sz sbs G K P wk wh) 58 [] []) : ∀ fuel : Nat, ∀ v3 : Int32, ∀ bey4 : Bool, VF X res (L_X5_addsAlways_1 n (G vj) a2 a3 kx2 fuel v3 bey4) (xW q cs n nd es kn knd kes img tl ta tn sl bey4 wt un ed kwt kun ked tb sb sz sbs G K P wk wh) 3 [(0, .ref (q 0)), (1, .ref (q (22 + vj))), (2, .int a2), (3, .long a3), (5, .int v3)] [] := by
  have iX1 : ∀ w ∈ wsX10, w ∈ wsX5_addsAlways := fun _ h => List.mem_cons_of_mem _ (List.mem_append_left _ (List.mem_append_right _ h))
  have iX5 : ∀ w ∈ wsX50, w ∈ wsX5_addsAlways := fun _ h => List.mem_cons_of_mem _ (List.mem_append_left _ (List.mem_append_left _ (List.mem_append_right _ h)))
  intro fuel
  induction fuel with
  | zero =>
    intro _ _
    exact v_none
  | succ fuel ih =>
    intro v3 bey4
    show VF X res (B_X5_addsAlways_1 n (G vj) a2 a3 (L_X5_addsAlways_1 n (G vj) a2 a3 kx2 fuel) kx2 v3 bey4) _ _ _ _
    unfold B_X5_addsAlways_1
    refine v_iload C 4 dX5_addsAlways_3 rfl ?_
    refine v_aload_n C 0 dX5_addsAlways_5 rfl ?_
    refine v_get C (T := TX5) (n := 10) (C9 := RX5) iX5 0 rfl rfl 0 (by decide) (List.mem_of_getElem? (i := 1) rfl) rfl rfl dX5_addsAlways_6 ?_
    refine v_callV0v C 1 rfl rfl rfl (fun l9 r9 h9 => k_X0_sets (l := l9) hq  h9) gX5_addsAlways_X0_sets rfl nI_X0_sets ⟨rfl, rfl, Nat.le_of_ble_eq_true rfl, Nat.le_of_ble_eq_true rfl⟩ dX5_addsAlways_9 (Nat.le_of_ble_eq_true rfl) (fun r5 => ?_)
    refine v_icmp_ge C dX5_addsAlways_12 (tgt := 66) (by decide) ?_ ?_
    · refine v_iconst C dX5_addsAlways_66 (v := 1) (by decide) ?_
      exact v_zret (rvf := fun (res : Bool × Bool) => (some (.int (bI res.1)))) (wf := fun (res : Bool × Bool) => (xW q cs n nd es kn knd kes img tl ta tn sl res.2 wt un ed kwt kun ked tb sb sz sbs G K P wk wh)) C dX5_addsAlways_67 rfl rfl
    · refine v_iload C 4 dX5_addsAlways_15 rfl ?_
      refine v_iload_n C 2 dX5_addsAlways_17 rfl ?_
      refine v_callSP2v C (fun l9 r9 h9 => k_X5_has (l := l9) h9) gX5_addsAlways_X5_has rfl nI_X5_has ⟨rfl, rfl, Nat.le_of_ble_eq_true rfl, Nat.le_of_ble_eq_true rfl⟩ dX5_addsAlways_18 (Nat.le_of_ble_eq_true rfl) (fun r6 => ?_)
      refine v_jn1 (wj := (fun bey8 => (xW q cs n nd es kn knd kes img tl ta tn sl bey8 wt un ed kwt kun ked tb sb sz sbs G K P wk wh))) (pcj := 60) (lvj := (fun bey8 => [(0, .ref (q 0)), (1, .ref (q (22 + vj))), (2, .int a2), (3, .long a3), (5, .int v3)])) (stj := (fun bey8 => [])) (fun bey8 => ?_) (fun k7 hk7 => ?_)
      · refine v_iinc_nm C (lvf := fun x9 => [(5, .int x9), (0, .ref (q 0)), (1, .ref (q (22 + vj))), (2, .int a2), (3, .long a3)]) 4 dX5_addsAlways_60 rfl rfl (by decide) (fun _ => rfl) (fun x9 => ?_)
        refine v_goto C dX5_addsAlways_63 (tgt := 3) (by decide) ?_
        exact v_sub [1, 2, 3, 4, 0] rfl (ih x9 bey8)
      · refine v_ifb_ne C (b := r6) dX5_addsAlways_21 (tgt := 60) (by decide) ?_ ?_
        · exact v_sub [0, 1, 2, 3, 4] rfl (hk7 bey4)
        · refine v_aload_n C 0 dX5_addsAlways_24 rfl ?_
          refine v_get C (T := TX5) (n := 10) (C9 := RX5) iX5 0 rfl rfl 6 (by decide) (List.mem_of_getElem? (i := 2) rfl) rfl rfl dX5_addsAlways_25 ?_
          refine v_callV0n C 6 rfl rfl rfl (fun l9 r9 h9 => k_X1_begin (l := l9) hq  h9) gX5_addsAlways_X1_begin rfl nI_X1_begin ⟨rfl, rfl, Nat.le_of_ble_eq_true rfl, Nat.le_of_ble_eq_true rfl⟩ dX5_addsAlways_28 (Nat.le_of_ble_eq_true rfl) (fun r10 => ?_)
          refine v_aload_n C 0 dX5_addsAlways_31 rfl ?_
          refine v_aload_n C 1 dX5_addsAlways_32 rfl ?_
          refine v_iload_n C 2 dX5_addsAlways_33 rfl ?_
          refine v_iload C 4 dX5_addsAlways_34 rfl ?_
          refine v_callV3v C 0 rfl rfl rfl (fun l9 r9 h9 => k_X5_addedBy (l := l9) hq hvj h9) gX5_addsAlways_X5_addedBy rfl nI_X5_addedBy ⟨rfl, rfl, Nat.le_of_ble_eq_true rfl, Nat.le_of_ble_eq_true rfl⟩ dX5_addsAlways_36 (Nat.le_of_ble_eq_true rfl) (fun r11 => ?_)
          refine v_lstore C (lv' := [(6, .long r11.1), (0, .ref (q 0)), (1, .ref (q (22 + vj))), (2, .int a2), (3, .long a3), (5, .int v3)]) dX5_addsAlways_39 (by decide) rfl ?_
          refine v_aload_n C 1 dX5_addsAlways_41 rfl ?_
          refine v_get C (T := TX5) (n := 10) (C9 := RX5) iX5 0 rfl rfl 6 (by decide) (List.mem_of_getElem? (i := 2) rfl) rfl rfl dX5_addsAlways_42 ?_
          refine v_get C (T := TX1) (n := 1) (C9 := RX1) iX1 6 rfl rfl 0 (by decide) (List.mem_of_getElem? (i := 3) rfl) rfl rfl dX5_addsAlways_45 ?_
          refine v_ifb_ne C (b := r11.2) dX5_addsAlways_48 (tgt := 58) (by decide) ?_ ?_
          · exact v_sub [] rfl (Jkx2 r11.2)
          · refine v_lload C 0 dX5_addsAlways_51 rfl ?_
            refine v_lload_n C 4 dX5_addsAlways_53 rfl ?_
            refine v_lcmp_eq C dX5_addsAlways_54 dX5_addsAlways_55 (tgt := 60) (by decide) ?_ ?_
            · exact v_sub [1, 2, 3, 4, 5] rfl (hk7 r11.2)
            · exact v_sub [] rfl (Jkx2 r11.2)

set_option maxRecDepth 100000 in
set_option maxHeartbeats 4000000 in
theorem k_X5_addsAlways {l : Launch} {a2 : Int32} {a3 : Int64} {vj : Nat} {res : Bool × Bool} (hq : (xA q).Nodup) (hvj : vj < 4) (hf : f_X5_addsAlways n bey (G vj) a2 a3 = some res) : kMet l yX5_addsAlways wsX5_addsAlways { frames := 2, cells := 0, slots := 0, locals := 49 } D vwCl (xT cs) (xN tF) (xA q) [.ref (q 0), .ref (q (22 + vj)), .int a2, .long a3] (xW q cs n nd es kn knd kes img tl ta tn sl bey wt un ed kwt kun ked tb sb sz sbs G K P wk wh) (some (.int (bI res.1))) (xW q cs n nd es kn knd kes img tl ta tn sl res.2 wt un ed kwt kun ked tb sb sz sbs G K P wk wh) := by
  refine kMet.of (cc := cX5_addsAlways) (nL := 8) (ret := (some .boolean)) (own := RX5) (lv := [(0, .ref (q 0)), (1, .ref (q (22 + vj))), (2, .int a2), (3, .long a3)]) (by decide +kernel) rfl rfl xN_ok hq (Nat.le_of_ble_eq_true rfl) rfl (fun X C => ?_)
  refine VF.of hf ?_
  unfold f_X5_addsAlways
  refine v_iconst C dX5_addsAlways_0 (v := 0) (by decide) ?_
  refine v_istore C (lv' := [(5, .int 0), (0, .ref (q 0)), (1, .ref (q (22 + vj))), (2, .int a2), (3, .long a3)]) dX5_addsAlways_1 (by decide) rfl ?_
  refine v_sub [1, 2, 3, 4, 0] rfl (lp_X5_addsAlways_1 hq C hvj _ (fun bey12 => ?_) FU 0 bey)
  refine v_iconst C dX5_addsAlways_58 (v := 0) (by decide) ?_
  exact v_zret (rvf := fun (res : Bool × Bool) => (some (.int (bI res.1)))) (wf := fun (res : Bool × Bool) => (xW q cs n nd es kn knd kes img tl ta tn sl res.2 wt un ed kwt kun ked tb sb sz sbs G K P wk wh)) C dX5_addsAlways_59 rfl rfl

def B_X5_hasVeto_1 (n : Int32) (vs : Nat → Int64) (a2 : Int32) (rec1 : Int32 → Option (Bool))  (v2 : Int32) : Option (Bool) :=
(f_X0_sets n).bind (fun (r3 : Int32) =>
if (v2 : Int32) < r3 then (
(f_X5_has v2 a2).bind (fun (r4 : Bool) =>
jn0 (nm (v2 + 1) (fun (x6 : Int32) =>
rec1 x6)) (fun k5 =>
if r4 = true then (
k5) else (
ck (inb v2 512) (
if (vs v2.toNatClampNeg : Int64) = 0 then (
k5) else (
some false)))))) else (
some true))
def L_X5_hasVeto_1 (n : Int32) (vs : Nat → Int64) (a2 : Int32)  : Nat → Int32 → Option (Bool)
  | 0, _ => none
  | m9 + 1, v2 => B_X5_hasVeto_1 n vs a2 (L_X5_hasVeto_1 n vs a2 m9)  v2

def f_X5_hasVeto (n : Int32) (vs : Nat → Int64) (a2 : Int32) : Option (Bool) :=
L_X5_hasVeto_1 n vs a2  FU 0

theorem nI_X5_hasVeto : NameIn yX5_hasVeto 2 := ⟨by decide +kernel, by decide +kernel, by decide +kernel⟩
set_option maxRecDepth 100000 in
set_option maxHeartbeats 4000000 in
theorem lp_X5_hasVeto_1 {X : CX} {res : Bool} {a2 : Int32} {vj : Nat}  (hq : (xA q).Nodup) (C : Ok X cX5_hasVeto 4 (some .boolean) wsX5_hasVeto RX5 { frames := 1, cells := 0, slots := 0, locals := 21 } D vwCl (xT cs) (xA q) (xN tF) (some (.int (bI res))) (xW q cs n nd es kn knd kes img tl ta tn sl bey wt un ed kwt kun ked tb sb sz sbs G K P wk wh)) (hvj : vj < 4) : ∀ fuel : Nat, ∀ v2 : Int32, VF X res (L_X5_hasVeto_1 n (G vj) a2 fuel v2) (xW q cs n nd es kn knd kes img tl ta tn sl bey wt un ed kwt kun ked tb sb sz sbs G K P wk wh) 2 [(0, .ref (q 0)), (1, .ref (q (22 + vj))), (2, .int a2), (3, .int v2)] [] := by
  have iX5 : ∀ w ∈ wsX50, w ∈ wsX5_hasVeto := fun _ h => List.mem_cons_of_mem _ (List.mem_append_left _ (List.mem_append_right _ h))
  intro fuel
  induction fuel with
  | zero =>
    intro _
    exact v_none
  | succ fuel ih =>
    intro v2
    show VF X res (B_X5_hasVeto_1 n (G vj) a2 (L_X5_hasVeto_1 n (G vj) a2 fuel)  v2) _ _ _ _
    unfold B_X5_hasVeto_1
    refine v_iload_n C 3 dX5_hasVeto_2 rfl ?_
    refine v_aload_n C 0 dX5_hasVeto_3 rfl ?_
    refine v_get C (T := TX5) (n := 10) (C9 := RX5) iX5 0 rfl rfl 0 (by decide) (List.mem_of_getElem? (i := 1) rfl) rfl rfl dX5_hasVeto_4 ?_
    refine v_callV0v C 1 rfl rfl rfl (fun l9 r9 h9 => k_X0_sets (l := l9) hq  h9) gX5_hasVeto_X0_sets rfl nI_X0_sets ⟨rfl, rfl, Nat.le_of_ble_eq_true rfl, Nat.le_of_ble_eq_true rfl⟩ dX5_hasVeto_7 (Nat.le_of_ble_eq_true rfl) (fun r3 => ?_)
    refine v_icmp_ge C dX5_hasVeto_10 (tgt := 37) (by decide) ?_ ?_
    · refine v_iconst C dX5_hasVeto_37 (v := 1) (by decide) ?_
      exact v_zret (rvf := fun (res : Bool) => (some (.int (bI res)))) (wf := fun (res : Bool) => (xW q cs n nd es kn knd kes img tl ta tn sl bey wt un ed kwt kun ked tb sb sz sbs G K P wk wh)) C dX5_hasVeto_38 rfl rfl
    · refine v_iload_n C 3 dX5_hasVeto_13 rfl ?_
      refine v_iload_n C 2 dX5_hasVeto_14 rfl ?_
      refine v_callSP2v C (fun l9 r9 h9 => k_X5_has (l := l9) h9) gX5_hasVeto_X5_has rfl nI_X5_has ⟨rfl, rfl, Nat.le_of_ble_eq_true rfl, Nat.le_of_ble_eq_true rfl⟩ dX5_hasVeto_15 (Nat.le_of_ble_eq_true rfl) (fun r4 => ?_)
      refine v_jn0 (wj := ((xW q cs n nd es kn knd kes img tl ta tn sl bey wt un ed kwt kun ked tb sb sz sbs G K P wk wh))) (pcj := 31) (lvj := ([(0, .ref (q 0)), (1, .ref (q (22 + vj))), (2, .int a2), (3, .int v2)])) (stj := ([])) ?_ (fun k5 hk5 => ?_)
      · refine v_iinc_nm C (lvf := fun x6 => [(3, .int x6), (0, .ref (q 0)), (1, .ref (q (22 + vj))), (2, .int a2)]) 3 dX5_hasVeto_31 rfl rfl (by decide) (fun _ => rfl) (fun x6 => ?_)
        refine v_goto C dX5_hasVeto_34 (tgt := 2) (by decide) ?_
        exact v_sub [1, 2, 3, 0] rfl (ih x6)
      · refine v_ifb_ne C (b := r4) dX5_hasVeto_18 (tgt := 31) (by decide) ?_ ?_
        · exact v_sub [0, 1, 2, 3] rfl (hk5)
        · refine v_aload_n C 1 dX5_hasVeto_21 rfl ?_
          refine v_iload_n C 3 dX5_hasVeto_22 rfl ?_
          refine v_lald C (22 + vj) 1 (xW_G hvj) rfl dX5_hasVeto_23 ?_
          refine v_lconst C dX5_hasVeto_24 (v := 0) (by decide) ?_
          refine v_lcmp_eq C dX5_hasVeto_25 dX5_hasVeto_26 (tgt := 31) (by decide) ?_ ?_
          · exact v_sub [0, 1, 2, 3] rfl (hk5)
          · refine v_iconst C dX5_hasVeto_29 (v := 0) (by decide) ?_
            exact v_zret (rvf := fun (res : Bool) => (some (.int (bI res)))) (wf := fun (res : Bool) => (xW q cs n nd es kn knd kes img tl ta tn sl bey wt un ed kwt kun ked tb sb sz sbs G K P wk wh)) C dX5_hasVeto_30 rfl rfl

set_option maxRecDepth 100000 in
set_option maxHeartbeats 4000000 in
theorem k_X5_hasVeto {l : Launch} {a2 : Int32} {vj : Nat} {res : Bool} (hq : (xA q).Nodup) (hvj : vj < 4) (hf : f_X5_hasVeto n (G vj) a2 = some res) : kMet l yX5_hasVeto wsX5_hasVeto { frames := 1, cells := 0, slots := 0, locals := 21 } D vwCl (xT cs) (xN tF) (xA q) [.ref (q 0), .ref (q (22 + vj)), .int a2] (xW q cs n nd es kn knd kes img tl ta tn sl bey wt un ed kwt kun ked tb sb sz sbs G K P wk wh) (some (.int (bI res))) (xW q cs n nd es kn knd kes img tl ta tn sl bey wt un ed kwt kun ked tb sb sz sbs G K P wk wh) := by
  refine kMet.of (cc := cX5_hasVeto) (nL := 4) (ret := (some .boolean)) (own := RX5) (lv := [(0, .ref (q 0)), (1, .ref (q (22 + vj))), (2, .int a2)]) (by decide +kernel) rfl rfl xN_ok hq (Nat.le_of_ble_eq_true rfl) rfl (fun X C => ?_)
  refine VF.of hf ?_
  unfold f_X5_hasVeto
  refine v_iconst C dX5_hasVeto_0 (v := 0) (by decide) ?_
  refine v_istore_n C (lv' := [(3, .int 0), (0, .ref (q 0)), (1, .ref (q (22 + vj))), (2, .int a2)]) dX5_hasVeto_1 rfl (by decide) rfl ?_
  refine v_sub [1, 2, 3, 0] rfl (lp_X5_hasVeto_1 hq C hvj  FU 0)

end WK
