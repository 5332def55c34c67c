section WK
variable {q : Nat → Nat} {cs : Nat → ClassId} {D : va_G} {tF : Nat} {n : Int32} {nd : Int32} {es : Int32} {kn : Int32} {knd : Int32} {kes : Int32} {img : Bool} {tl : Int32} {ta : Int32} {tn : Int64} {sl : Int32} {bey : Bool} {wt : Nat → Int32} {un : Nat → Int32} {ed : Nat → Int32} {kwt : Nat → Int32} {kun : Nat → Int32} {ked : Nat → Int32} {tb : Nat → Int32} {sb : Nat → Int32} {sz : Nat → Int32} {sbs : Nat → Int32} {G : Nat → Nat → Int64} {K : Nat → Nat → Int64} {P : Nat → Nat → Int64} {wk : Nat → Int64} {wh : Nat → Int64}
def f_X5_is (n : Int32) (bey : Bool) (G : Nat → Nat → Int64) (a1 : Int32) (a2 : Int32) : Option (Int32 × Bool) :=
(f_X5_isGame a1).bind (fun (r1 : Bool) =>
if r1 = true then (
if (a2 : Int32) = 0 then (
ck (inb a1 4) (
(f_X5_isMonotone n (G a1.toNatClampNeg)).bind (fun (r3 : Bool) =>
if r3 = true then (
some (1, bey)) else (
some (0, bey))))) else (
if (a2 : Int32) = 1 then (
ck (inb a1 4) (
(f_X5_gainsTogether n bey (G a1.toNatClampNeg) false).bind (fun (r5 : Int32 × Bool) =>
some (r5.1, r5.2)))) else (
if (a2 : Int32) = 2 then (
ck (inb a1 4) (
(f_X5_gainsTogether n bey (G a1.toNatClampNeg) true).bind (fun (r7 : Int32 × Bool) =>
some (r7.1, r7.2)))) else (
some ((-1), bey))))) else (
some ((-1), bey)))

theorem nI_X5_is : NameIn yX5_is 2 := ⟨by decide +kernel, by decide +kernel, by decide +kernel⟩
set_option maxRecDepth 100000 in
set_option maxHeartbeats 4000000 in
theorem k_X5_is {l : Launch} {a1 : Int32} {a2 : Int32}  {res : Int32 × Bool} (hq : (xA q).Nodup)  (hf : f_X5_is n bey G a1 a2 = some res) : kMet l yX5_is wsX5_is { frames := 2, cells := 0, slots := 0, locals := 54 } D vwCl (xT cs) (xN tF) (xA q) [.ref (q 0), .int a1, .int a2] (xW q cs n nd es kn knd kes img tl ta tn sl bey wt un ed kwt kun ked tb sb sz sbs G K P wk wh) (some (.int res.1)) (xW q cs n nd es kn knd kes img tl ta tn sl res.2 wt un ed kwt kun ked tb sb sz sbs G K P wk wh) := by
  have iX0 : ∀ w ∈ wsX00, w ∈ wsX5_is := fun _ h => List.mem_cons_of_mem _ (List.mem_append_left _ (List.mem_append_right _ h))
  have iX5 : ∀ w ∈ wsX50, w ∈ wsX5_is := fun _ h => List.mem_cons_of_mem _ (List.mem_append_left _ (List.mem_append_left _ (List.mem_append_right _ h)))
  refine kMet.of (cc := cX5_is) (nL := 3) (ret := (some .int)) (own := RX5) (lv := [(0, .ref (q 0)), (1, .int a1), (2, .int a2)]) (by decide +kernel) rfl rfl xN_ok hq (Nat.le_of_ble_eq_true rfl) rfl (fun X C => ?_)
  refine VF.of hf ?_
  unfold f_X5_is
  refine v_iload_n C 1 dX5_is_0 rfl ?_
  refine v_callSP1v C (fun l9 r9 h9 => k_X5_isGame (l := l9) h9) gX5_is_X5_isGame rfl nI_X5_isGame ⟨rfl, rfl, Nat.le_of_ble_eq_true rfl, Nat.le_of_ble_eq_true rfl⟩ dX5_is_1 (Nat.le_of_ble_eq_true rfl) (fun r1 => ?_)
  refine v_ifb_ne C (b := r1) dX5_is_4 (tgt := 9) (by decide) ?_ ?_
  · refine v_iload_n C 2 dX5_is_9 rfl ?_
    refine v_split (fun h0 => ?_) (fun h0 => ?_)
    · refine v_tin C dX5_is_10 (tgt := 36) (off := 26) (by rw [h0]; decide) (by rw [h0]; decide) (by rw [h0]; rfl) (by decide) ?_
      refine v_aload_n C 0 dX5_is_36 rfl ?_
      refine v_aload_n C 0 dX5_is_37 rfl ?_
      refine v_get C (T := TX5) (n := 10) (C9 := RX5) iX5 0 rfl rfl 0 (by decide) (List.mem_of_getElem? (i := 1) rfl) rfl rfl dX5_is_38 ?_
      refine v_get C (T := TX0) (n := 7) (C9 := RX0) iX0 1 rfl rfl 6 (by decide) (List.mem_of_getElem? (i := 2) rfl) rfl rfl dX5_is_41 ?_
      refine v_iload_n C 1 dX5_is_44 rfl ?_
      refine v_aalda C (ad := fun j9 => q (22 + j9)) 10 3 rfl rfl (fun _ h9 => if_pos h9) dX5_is_45 (fun hb2 => ?_)
      have hj2 := inb_lt hb2
      refine v_callV1v C 0 rfl rfl rfl (fun l9 r9 h9 => k_X5_isMonotone (l := l9) hq hj2 h9) gX5_is_X5_isMonotone rfl nI_X5_isMonotone ⟨rfl, rfl, Nat.le_of_ble_eq_true rfl, Nat.le_of_ble_eq_true rfl⟩ dX5_is_46 (Nat.le_of_ble_eq_true rfl) (fun r3 => ?_)
      refine v_ifb_eq C (b := r3) dX5_is_49 (tgt := 56) (by decide) ?_ ?_
      · refine v_iconst C dX5_is_56 (v := 0) (by decide) ?_
        exact v_iret (rvf := fun (res : Int32 × Bool) => (some (.int res.1))) (wf := fun (res : Int32 × Bool) => (xW q cs n nd es kn knd kes img tl ta tn sl res.2 wt un ed kwt kun ked tb sb sz sbs G K P wk wh)) C dX5_is_57 rfl rfl
      · refine v_iconst C dX5_is_52 (v := 1) (by decide) ?_
        refine v_goto C dX5_is_53 (tgt := 57) (by decide) ?_
        exact v_iret (rvf := fun (res : Int32 × Bool) => (some (.int res.1))) (wf := fun (res : Int32 × Bool) => (xW q cs n nd es kn knd kes img tl ta tn sl res.2 wt un ed kwt kun ked tb sb sz sbs G K P wk wh)) C dX5_is_57 rfl rfl
    · refine v_split (fun h1 => ?_) (fun h1 => ?_)
      · refine v_tin C dX5_is_10 (tgt := 58) (off := 48) (by rw [h1]; decide) (by rw [h1]; decide) (by rw [h1]; rfl) (by decide) ?_
        refine v_aload_n C 0 dX5_is_58 rfl ?_
        refine v_aload_n C 0 dX5_is_59 rfl ?_
        refine v_get C (T := TX5) (n := 10) (C9 := RX5) iX5 0 rfl rfl 0 (by decide) (List.mem_of_getElem? (i := 1) rfl) rfl rfl dX5_is_60 ?_
        refine v_get C (T := TX0) (n := 7) (C9 := RX0) iX0 1 rfl rfl 6 (by decide) (List.mem_of_getElem? (i := 2) rfl) rfl rfl dX5_is_63 ?_
        refine v_iload_n C 1 dX5_is_66 rfl ?_
        refine v_aalda C (ad := fun j9 => q (22 + j9)) 10 3 rfl rfl (fun _ h9 => if_pos h9) dX5_is_67 (fun hb4 => ?_)
        have hj4 := inb_lt hb4
        refine v_iconst C dX5_is_68 (v := 0) (by decide) ?_
        refine v_callV2v C 0 rfl rfl rfl (fun l9 r9 h9 => k_X5_gainsTogether (l := l9) hq hj4 h9) gX5_is_X5_gainsTogether rfl nI_X5_gainsTogether ⟨rfl, rfl, Nat.le_of_ble_eq_true rfl, Nat.le_of_ble_eq_true rfl⟩ dX5_is_69 (Nat.le_of_ble_eq_true rfl) (fun r5 => ?_)
        exact v_iret (rvf := fun (res : Int32 × Bool) => (some (.int res.1))) (wf := fun (res : Int32 × Bool) => (xW q cs n nd es kn knd kes img tl ta tn sl res.2 wt un ed kwt kun ked tb sb sz sbs G K P wk wh)) C dX5_is_72 rfl rfl
      · refine v_split (fun h2 => ?_) (fun h2 => ?_)
        · refine v_tin C dX5_is_10 (tgt := 73) (off := 63) (by rw [h2]; decide) (by rw [h2]; decide) (by rw [h2]; rfl) (by decide) ?_
          refine v_aload_n C 0 dX5_is_73 rfl ?_
          refine v_aload_n C 0 dX5_is_74 rfl ?_
          refine v_get C (T := TX5) (n := 10) (C9 := RX5) iX5 0 rfl rfl 0 (by decide) (List.mem_of_getElem? (i := 1) rfl) rfl rfl dX5_is_75 ?_
          refine v_get C (T := TX0) (n := 7) (C9 := RX0) iX0 1 rfl rfl 6 (by decide) (List.mem_of_getElem? (i := 2) rfl) rfl rfl dX5_is_78 ?_
          refine v_iload_n C 1 dX5_is_81 rfl ?_
          refine v_aalda C (ad := fun j9 => q (22 + j9)) 10 3 rfl rfl (fun _ h9 => if_pos h9) dX5_is_82 (fun hb6 => ?_)
          have hj6 := inb_lt hb6
          refine v_iconst C dX5_is_83 (v := 1) (by decide) ?_
          refine v_callV2v C 0 rfl rfl rfl (fun l9 r9 h9 => k_X5_gainsTogether (l := l9) hq hj6 h9) gX5_is_X5_gainsTogether rfl nI_X5_gainsTogether ⟨rfl, rfl, Nat.le_of_ble_eq_true rfl, Nat.le_of_ble_eq_true rfl⟩ dX5_is_84 (Nat.le_of_ble_eq_true rfl) (fun r7 => ?_)
          exact v_iret (rvf := fun (res : Int32 × Bool) => (some (.int res.1))) (wf := fun (res : Int32 × Bool) => (xW q cs n nd es kn knd kes img tl ta tn sl res.2 wt un ed kwt kun ked tb sb sz sbs G K P wk wh)) C dX5_is_87 rfl rfl
        · have g0 := i32n h0
          have g1 := i32n h1
          have g2 := i32n h2
          rw [show ((0 : Int32).toInt) = 0 from by decide] at g0
          rw [show ((1 : Int32).toInt) = 1 from by decide] at g1
          rw [show ((2 : Int32).toInt) = 2 from by decide] at g2
          refine v_tout C dX5_is_10 (tgt := 88) (by omega) (by decide) ?_
          refine v_iconst C dX5_is_88 (v := (-1)) (by decide) ?_
          exact v_iret (rvf := fun (res : Int32 × Bool) => (some (.int res.1))) (wf := fun (res : Int32 × Bool) => (xW q cs n nd es kn knd kes img tl ta tn sl res.2 wt un ed kwt kun ked tb sb sz sbs G K P wk wh)) C dX5_is_89 rfl rfl
  · refine v_iconst C dX5_is_7 (v := (-1)) (by decide) ?_
    exact v_iret (rvf := fun (res : Int32 × Bool) => (some (.int res.1))) (wf := fun (res : Int32 × Bool) => (xW q cs n nd es kn knd kes img tl ta tn sl res.2 wt un ed kwt kun ked tb sb sz sbs G K P wk wh)) C dX5_is_8 rfl rfl

def f_X5_union (n : Int32) (un : Nat → Int32) (a1 : Int32) : Option (Int32) :=
(f_X0_hasPartner n a1).bind (fun (r1 : Bool) =>
if r1 = true then (
ck (inb a1 9) (
(f_X5_leastOf (un a1.toNatClampNeg)).bind (fun (r2 : Int32) =>
some r2))) else (
some (-1)))

theorem nI_X5_union : NameIn yX5_union 1 := ⟨by decide +kernel, by decide +kernel, by decide +kernel⟩
set_option maxRecDepth 100000 in
set_option maxHeartbeats 4000000 in
theorem k_X5_union {l : Launch} {a1 : Int32}  {res : Int32} (hq : (xA q).Nodup)  (hf : f_X5_union n un a1 = some res) : kMet l yX5_union wsX5_union { frames := 2, cells := 0, slots := 0, locals := 42 } D vwCl (xT cs) (xN tF) (xA q) [.ref (q 0), .int a1] (xW q cs n nd es kn knd kes img tl ta tn sl bey wt un ed kwt kun ked tb sb sz sbs G K P wk wh) (some (.int res)) (xW q cs n nd es kn knd kes img tl ta tn sl bey wt un ed kwt kun ked tb sb sz sbs G K P wk wh) := by
  have iX0 : ∀ w ∈ wsX00, w ∈ wsX5_union := fun _ h => List.mem_cons_of_mem _ (List.mem_append_right _ h)
  have iX5 : ∀ w ∈ wsX50, w ∈ wsX5_union := fun _ h => List.mem_cons_of_mem _ (List.mem_append_left _ (List.mem_append_right _ h))
  refine kMet.of (cc := cX5_union) (nL := 2) (ret := (some .int)) (own := RX5) (lv := [(0, .ref (q 0)), (1, .int a1)]) (by decide +kernel) rfl rfl xN_ok hq (Nat.le_of_ble_eq_true rfl) rfl (fun X C => ?_)
  refine VF.of hf ?_
  unfold f_X5_union
  refine v_aload_n C 0 dX5_union_0 rfl ?_
  refine v_get C (T := TX5) (n := 10) (C9 := RX5) iX5 0 rfl rfl 0 (by decide) (List.mem_of_getElem? (i := 1) rfl) rfl rfl dX5_union_1 ?_
  refine v_iload_n C 1 dX5_union_4 rfl ?_
  refine v_callV1v C 1 rfl rfl rfl (fun l9 r9 h9 => k_X0_hasPartner (l := l9) hq  h9) gX5_union_X0_hasPartner rfl nI_X0_hasPartner ⟨rfl, rfl, Nat.le_of_ble_eq_true rfl, Nat.le_of_ble_eq_true rfl⟩ dX5_union_5 (Nat.le_of_ble_eq_true rfl) (fun r1 => ?_)
  refine v_ifb_eq C (b := r1) dX5_union_8 (tgt := 26) (by decide) ?_ ?_
  · refine v_iconst C dX5_union_26 (v := (-1)) (by decide) ?_
    exact v_iret (rvf := fun (res : Int32) => (some (.int res))) (wf := fun (res : Int32) => (xW q cs n nd es kn knd kes img tl ta tn sl bey wt un ed kwt kun ked tb sb sz sbs G K P wk wh)) C dX5_union_27 rfl rfl
  · refine v_aload_n C 0 dX5_union_11 rfl ?_
    refine v_get C (T := TX5) (n := 10) (C9 := RX5) iX5 0 rfl rfl 0 (by decide) (List.mem_of_getElem? (i := 1) rfl) rfl rfl dX5_union_12 ?_
    refine v_get C (T := TX0) (n := 7) (C9 := RX0) iX0 1 rfl rfl 4 (by decide) (List.mem_of_getElem? (i := 2) rfl) rfl rfl dX5_union_15 ?_
    refine v_iload_n C 1 dX5_union_18 rfl ?_
    refine v_iald C 8 0 rfl rfl dX5_union_19 ?_
    refine v_callSP1v C (fun l9 r9 h9 => k_X5_leastOf (l := l9) h9) gX5_union_X5_leastOf rfl nI_X5_leastOf ⟨rfl, rfl, Nat.le_of_ble_eq_true rfl, Nat.le_of_ble_eq_true rfl⟩ dX5_union_20 (Nat.le_of_ble_eq_true rfl) (fun r2 => ?_)
    refine v_goto C dX5_union_23 (tgt := 27) (by decide) ?_
    exact v_iret (rvf := fun (res : Int32) => (some (.int res))) (wf := fun (res : Int32) => (xW q cs n nd es kn knd kes img tl ta tn sl bey wt un ed kwt kun ked tb sb sz sbs G K P wk wh)) C dX5_union_27 rfl rfl

def B_X5_toldSum_1 (n : Int32) (sz : Nat → Int32) (P : Nat → Nat → Int64) (a1 : Int32) (a2 : Int32) (a3 : Int32) (rec1 : Int64 → Int32 → Bool → Option (Int64 × Bool))  (v2 : Int64) (v3 : Int32) (bey4 : Bool) : Option (Int64 × Bool) :=
if (v3 : Int32) < n then (
(f_X5_has a3 v3).bind (fun (r5 : Bool) =>
jn2 (fun (v7 : Int64) (bey8 : Bool) =>
nm (v3 + 1) (fun (x9 : Int32) =>
rec1 v7 x9 bey8)) (fun k6 =>
if r5 = true then (
(f_X3_holds sz a1 a2 (v3 + 1)).bind (fun (r10 : Bool) =>
if r10 = true then (
ck (inb a1 4) (
ck (inb (a2 + v3) 20) (
(f_X1_plus bey4 v2 ((P a1.toNatClampNeg) (a2 + v3).toNatClampNeg)).bind (fun (r12 : Int64 × Bool) =>
k6 r12.1 r12.2)))) else (
k6 v2 bey4))) else (
k6 v2 bey4)))) else (
some (v2, bey4))
def L_X5_toldSum_1 (n : Int32) (sz : Nat → Int32) (P : Nat → Nat → Int64) (a1 : Int32) (a2 : Int32) (a3 : Int32)  : Nat → Int64 → Int32 → Bool → Option (Int64 × Bool)
  | 0, _, _, _ => none
  | m9 + 1, v2, v3, bey4 => B_X5_toldSum_1 n sz P a1 a2 a3 (L_X5_toldSum_1 n sz P a1 a2 a3 m9)  v2 v3 bey4

def f_X5_toldSum (n : Int32) (bey : Bool) (sz : Nat → Int32) (P : Nat → Nat → Int64) (a1 : Int32) (a2 : Int32) (a3 : Int32) : Option (Int64 × Bool) :=
L_X5_toldSum_1 n sz P a1 a2 a3  FU 0 0 bey

theorem nI_X5_toldSum : NameIn yX5_toldSum 3 := ⟨by decide +kernel, by decide +kernel, by decide +kernel⟩
set_option maxRecDepth 100000 in
set_option maxHeartbeats 4000000 in
theorem lp_X5_toldSum_1 {X : CX} {res : Int64 × Bool} {a1 : Int32} {a2 : Int32} {a3 : Int32}   (hq : (xA q).Nodup) (C : Ok X cX5_toldSum 7 (some .long) wsX5_toldSum RX5 { frames := 2, cells := 0, slots := 0, locals := 43 } D vwCl (xT cs) (xA q) (xN tF) (some (.long res.1)) (xW q cs n nd es kn knd kes img tl ta tn sl res.2 wt un ed kwt kun ked tb sb sz sbs G K P wk wh))  : ∀ fuel : Nat, ∀ v2 : Int64, ∀ v3 : Int32, ∀ bey4 : Bool, VF X res (L_X5_toldSum_1 n sz P a1 a2 a3 fuel v2 v3 bey4) (xW q cs n nd es kn knd kes img tl ta tn sl bey4 wt un ed kwt kun ked tb sb sz sbs G K P wk wh) 6 [(0, .ref (q 0)), (1, .int a1), (2, .int a2), (3, .int a3), (4, .long v2), (6, .int v3)] [] := by
  have iX0 : ∀ w ∈ wsX00, w ∈ wsX5_toldSum := fun _ h => List.mem_cons_of_mem _ (List.mem_append_left _ (List.mem_append_left _ (List.mem_append_right _ h)))
  have iX3 : ∀ w ∈ wsX30, w ∈ wsX5_toldSum := fun _ h => List.mem_cons_of_mem _ (List.mem_append_left _ (List.mem_append_right _ h))
  have iX5 : ∀ w ∈ wsX50, w ∈ wsX5_toldSum := fun _ h => List.mem_cons_of_mem _ (List.mem_append_left _ (List.mem_append_left _ (List.mem_append_left _ (List.mem_append_right _ h))))
  intro fuel
  induction fuel with
  | zero =>
    intro _ _ _
    exact v_none
  | succ fuel ih =>
    intro v2 v3 bey4
    show VF X res (B_X5_toldSum_1 n sz P a1 a2 a3 (L_X5_toldSum_1 n sz P a1 a2 a3 fuel)  v2 v3 bey4) _ _ _ _
    unfold B_X5_toldSum_1
    refine v_iload C 5 dX5_toldSum_6 rfl ?_
    refine v_aload_n C 0 dX5_toldSum_8 rfl ?_
    refine v_get C (T := TX5) (n := 10) (C9 := RX5) iX5 0 rfl rfl 0 (by decide) (List.mem_of_getElem? (i := 1) rfl) rfl rfl dX5_toldSum_9 ?_
    refine v_get C (T := TX0) (n := 7) (C9 := RX0) iX0 1 rfl rfl 0 (by decide) (List.mem_of_getElem? (i := 2) rfl) rfl rfl dX5_toldSum_12 ?_
    refine v_icmp_ge C dX5_toldSum_15 (tgt := 74) (by decide) ?_ ?_
    · refine v_lload C 4 dX5_toldSum_74 rfl ?_
      exact v_lret (rvf := fun (res : Int64 × Bool) => (some (.long res.1))) (wf := fun (res : Int64 × Bool) => (xW q cs n nd es kn knd kes img tl ta tn sl res.2 wt un ed kwt kun ked tb sb sz sbs G K P wk wh)) C dX5_toldSum_76 rfl rfl
    · refine v_iload_n C 3 dX5_toldSum_18 rfl ?_
      refine v_iload C 5 dX5_toldSum_19 rfl ?_
      refine v_callSP2v C (fun l9 r9 h9 => k_X5_has (l := l9) h9) gX5_toldSum_X5_has rfl nI_X5_has ⟨rfl, rfl, Nat.le_of_ble_eq_true rfl, Nat.le_of_ble_eq_true rfl⟩ dX5_toldSum_21 (Nat.le_of_ble_eq_true rfl) (fun r5 => ?_)
      refine v_jn2 (wj := (fun v7 bey8 => (xW q cs n nd es kn knd kes img tl ta tn sl bey8 wt un ed kwt kun ked tb sb sz sbs G K P wk wh))) (pcj := 68) (lvj := (fun v7 bey8 => [(0, .ref (q 0)), (1, .int a1), (2, .int a2), (3, .int a3), (4, .long v7), (6, .int v3)])) (stj := (fun v7 bey8 => [])) (fun v7 bey8 => ?_) (fun k6 hk6 => ?_)
      · refine v_iinc_nm C (lvf := fun x9 => [(6, .int x9), (0, .ref (q 0)), (1, .int a1), (2, .int a2), (3, .int a3), (4, .long v7)]) 5 dX5_toldSum_68 rfl rfl (by decide) (fun _ => rfl) (fun x9 => ?_)
        refine v_goto C dX5_toldSum_71 (tgt := 6) (by decide) ?_
        exact v_sub [1, 2, 3, 4, 5, 0] rfl (ih v7 x9 bey8)
      · refine v_ifb_eq C (b := r5) dX5_toldSum_24 (tgt := 68) (by decide) ?_ ?_
        · exact v_sub [0, 1, 2, 3, 4, 5] rfl (hk6 v2 bey4)
        · refine v_aload_n C 0 dX5_toldSum_27 rfl ?_
          refine v_get C (T := TX5) (n := 10) (C9 := RX5) iX5 0 rfl rfl 5 (by decide) (List.mem_of_getElem? (i := 3) rfl) rfl rfl dX5_toldSum_28 ?_
          refine v_iload_n C 1 dX5_toldSum_31 rfl ?_
          refine v_iload_n C 2 dX5_toldSum_32 rfl ?_
          refine v_iload C 5 dX5_toldSum_33 rfl ?_
          refine v_iconst C dX5_toldSum_35 (v := 1) (by decide) ?_
          refine v_iadd C dX5_toldSum_36 ?_
          refine v_callV3v C 5 rfl rfl rfl (fun l9 r9 h9 => k_X3_holds (l := l9) hq  h9) gX5_toldSum_X3_holds rfl nI_X3_holds ⟨rfl, rfl, Nat.le_of_ble_eq_true rfl, Nat.le_of_ble_eq_true rfl⟩ dX5_toldSum_37 (Nat.le_of_ble_eq_true rfl) (fun r10 => ?_)
          refine v_ifb_eq C (b := r10) dX5_toldSum_40 (tgt := 68) (by decide) ?_ ?_
          · exact v_sub [0, 1, 2, 3, 4, 5] rfl (hk6 v2 bey4)
          · refine v_aload_n C 0 dX5_toldSum_43 rfl ?_
            refine v_get C (T := TX5) (n := 10) (C9 := RX5) iX5 0 rfl rfl 6 (by decide) (List.mem_of_getElem? (i := 4) rfl) rfl rfl dX5_toldSum_44 ?_
            refine v_lload C 4 dX5_toldSum_47 rfl ?_
            refine v_aload_n C 0 dX5_toldSum_49 rfl ?_
            refine v_get C (T := TX5) (n := 10) (C9 := RX5) iX5 0 rfl rfl 5 (by decide) (List.mem_of_getElem? (i := 3) rfl) rfl rfl dX5_toldSum_50 ?_
            refine v_get C (T := TX3) (n := 2) (C9 := RX3) iX3 5 rfl rfl 0 (by decide) (List.mem_of_getElem? (i := 5) rfl) rfl rfl dX5_toldSum_53 ?_
            refine v_iload_n C 1 dX5_toldSum_56 rfl ?_
            refine v_aalda C (ad := fun j9 => q (30 + j9)) 17 3 rfl rfl (fun _ h9 => if_pos h9) dX5_toldSum_57 (fun hb11 => ?_)
            have hj11 := inb_lt hb11
            refine v_iload_n C 2 dX5_toldSum_58 rfl ?_
            refine v_iload C 5 dX5_toldSum_59 rfl ?_
            refine v_iadd C dX5_toldSum_61 ?_
            refine v_lald C (30 + a1.toNatClampNeg) 1 (xW_P hj11) rfl dX5_toldSum_62 ?_
            refine v_callV2v C 6 rfl rfl rfl (fun l9 r9 h9 => k_X1_plus (l := l9) hq  h9) gX5_toldSum_X1_plus rfl nI_X1_plus ⟨rfl, rfl, Nat.le_of_ble_eq_true rfl, Nat.le_of_ble_eq_true rfl⟩ dX5_toldSum_63 (Nat.le_of_ble_eq_true rfl) (fun r12 => ?_)
            refine v_lstore C (lv' := [(4, .long r12.1), (0, .ref (q 0)), (1, .int a1), (2, .int a2), (3, .int a3), (6, .int v3)]) dX5_toldSum_66 (by decide) rfl ?_
            exact v_sub [1, 2, 3, 4, 0, 5] rfl (hk6 r12.1 r12.2)

set_option maxRecDepth 100000 in
set_option maxHeartbeats 4000000 in
theorem k_X5_toldSum {l : Launch} {a1 : Int32} {a2 : Int32} {a3 : Int32}  {res : Int64 × Bool} (hq : (xA q).Nodup)  (hf : f_X5_toldSum n bey sz P a1 a2 a3 = some res) : kMet l yX5_toldSum wsX5_toldSum { frames := 2, cells := 0, slots := 0, locals := 43 } D vwCl (xT cs) (xN tF) (xA q) [.ref (q 0), .int a1, .int a2, .int a3] (xW q cs n nd es kn knd kes img tl ta tn sl bey wt un ed kwt kun ked tb sb sz sbs G K P wk wh) (some (.long res.1)) (xW q cs n nd es kn knd kes img tl ta tn sl res.2 wt un ed kwt kun ked tb sb sz sbs G K P wk wh) := by
  refine kMet.of (cc := cX5_toldSum) (nL := 7) (ret := (some .long)) (own := RX5) (lv := [(0, .ref (q 0)), (1, .int a1), (2, .int a2), (3, .int a3)]) (by decide +kernel) rfl rfl xN_ok hq (Nat.le_of_ble_eq_true rfl) rfl (fun X C => ?_)
  refine VF.of hf ?_
  unfold f_X5_toldSum
  refine v_lconst C dX5_toldSum_0 (v := 0) (by decide) ?_
  refine v_lstore C (lv' := [(4, .long 0), (0, .ref (q 0)), (1, .int a1), (2, .int a2), (3, .int a3)]) dX5_toldSum_1 (by decide) rfl ?_
  refine v_iconst C dX5_toldSum_3 (v := 0) (by decide) ?_
  refine v_istore C (lv' := [(6, .int 0), (4, .long 0), (0, .ref (q 0)), (1, .int a1), (2, .int a2), (3, .int a3)]) dX5_toldSum_4 (by decide) rfl ?_
  refine v_sub [2, 3, 4, 5, 1, 0] rfl (lp_X5_toldSum_1 hq C   FU 0 0 bey)

def B_X5_stable_1 (n : Int32) (sz : Nat → Int32) (G : Nat → Nat → Int64) (P : Nat → Nat → Int64) (a1 : Int32) (a2 : Int32) (a3 : Int32) (rec9 : Int32 → Bool → Option (Int32 × Bool))  (v10 : Int32) (bey11 : Bool) : Option (Int32 × Bool) :=
(f_X0_sets n).bind (fun (r12 : Int32) =>
if (v10 : Int32) < r12 then (
(f_X5_toldSum n bey11 sz P a2 a3 v10).bind (fun (r13 : Int64 × Bool) =>
if r13.2 = true then (
some ((-6), r13.2)) else (
ck (inb v10 512) (
if (r13.1 : Int64) < ((G a1.toNatClampNeg) v10.toNatClampNeg) then (
some (0, r13.2)) else (
nm (v10 + 1) (fun (x14 : Int32) =>
rec9 x14 r13.2)))))) else (
some (1, bey11)))
def L_X5_stable_1 (n : Int32) (sz : Nat → Int32) (G : Nat → Nat → Int64) (P : Nat → Nat → Int64) (a1 : Int32) (a2 : Int32) (a3 : Int32)  : Nat → Int32 → Bool → Option (Int32 × Bool)
  | 0, _, _ => none
  | m9 + 1, v10, bey11 => B_X5_stable_1 n sz G P a1 a2 a3 (L_X5_stable_1 n sz G P a1 a2 a3 m9)  v10 bey11

def f_X5_stable (n : Int32) (bey : Bool) (sz : Nat → Int32) (G : Nat → Nat → Int64) (P : Nat → Nat → Int64) (a1 : Int32) (a2 : Int32) (a3 : Int32) : Option (Int32 × Bool) :=
(f_X5_isGame a1).bind (fun (r1 : Bool) =>
if r1 = true then (
(f_X5_isRow a2).bind (fun (r2 : Bool) =>
if r2 = true then (
(f_X3_holds sz a2 a3 n).bind (fun (r3 : Bool) =>
if r3 = true then (
ck (inb a1 4) (
(f_X1_begin bey).bind (fun (r5 : Bool) =>
(f_X0_everyone n).bind (fun (r6 : Int32) =>
(f_X5_toldSum n r5 sz P a2 a3 r6).bind (fun (r7 : Int64 × Bool) =>
if r7.2 = true then (
some ((-6), r7.2)) else (
(f_X0_everyone n).bind (fun (r8 : Int32) =>
ck (inb r8 512) (
if (r7.1 : Int64) = ((G a1.toNatClampNeg) r8.toNatClampNeg) then (
L_X5_stable_1 n sz G P a1 a2 a3  FU 0 r7.2) else (
some (0, r7.2)))))))))) else (
some ((-3), bey)))) else (
some ((-1), bey)))) else (
some ((-1), bey)))

theorem nI_X5_stable : NameIn yX5_stable 3 := ⟨by decide +kernel, by decide +kernel, by decide +kernel⟩
set_option maxRecDepth 100000 in
set_option maxHeartbeats 4000000 in
theorem lp_X5_stable_1 {X : CX} {res : Int32 × Bool} {a1 : Int32} {a2 : Int32} {a3 : Int32}   (hq : (xA q).Nodup) (C : Ok X cX5_stable 10 (some .int) wsX5_stable RX5 { frames := 3, cells := 0, slots := 0, locals := 69 } D vwCl (xT cs) (xA q) (xN tF) (some (.int res.1)) (xW q cs n nd es kn knd kes img tl ta tn sl res.2 wt un ed kwt kun ked tb sb sz sbs G K P wk wh)) (hj4 : a1.toNatClampNeg < 4) : ∀ fuel : Nat, ∀ v10 : Int32, ∀ bey11 : Bool, VF X res (L_X5_stable_1 n sz G P a1 a2 a3 fuel v10 bey11) (xW q cs n nd es kn knd kes img tl ta tn sl bey11 wt un ed kwt kun ked tb sb sz sbs G K P wk wh) 105 [(0, .ref (q 0)), (2, .int a2), (3, .int a3), (4, .ref (q (22 + a1.toNatClampNeg))), (7, .int v10)] [] := by
  have iX1 : ∀ w ∈ wsX10, w ∈ wsX5_stable := fun _ h => List.mem_cons_of_mem _ (List.mem_append_left _ (List.mem_append_right _ h))
  have iX5 : ∀ w ∈ wsX50, w ∈ wsX5_stable := fun _ h => List.mem_cons_of_mem _ (List.mem_append_left _ (List.mem_append_left _ (List.mem_append_left _ (List.mem_append_right _ h))))
  intro fuel
  induction fuel with
  | zero =>
    intro _ _
    exact v_none
  | succ fuel ih =>
    intro v10 bey11
    show VF X res (B_X5_stable_1 n sz G P a1 a2 a3 (L_X5_stable_1 n sz G P a1 a2 a3 fuel)  v10 bey11) _ _ _ _
    unfold B_X5_stable_1
    refine v_iload C 4 dX5_stable_105 rfl ?_
    refine v_aload_n C 0 dX5_stable_107 rfl ?_
    refine v_get C (T := TX5) (n := 10) (C9 := RX5) iX5 0 rfl rfl 0 (by decide) (List.mem_of_getElem? (i := 2) rfl) rfl rfl dX5_stable_108 ?_
    refine v_callV0v C 1 rfl rfl rfl (fun l9 r9 h9 => k_X0_sets (l := l9) hq  h9) gX5_stable_X0_sets rfl nI_X0_sets ⟨rfl, rfl, Nat.le_of_ble_eq_true rfl, Nat.le_of_ble_eq_true rfl⟩ dX5_stable_111 (Nat.le_of_ble_eq_true rfl) (fun r12 => ?_)
    refine v_icmp_ge C dX5_stable_114 (tgt := 159) (by decide) ?_ ?_
    · refine v_iconst C dX5_stable_159 (v := 1) (by decide) ?_
      exact v_iret (rvf := fun (res : Int32 × Bool) => (some (.int res.1))) (wf := fun (res : Int32 × Bool) => (xW q cs n nd es kn knd kes img tl ta tn sl res.2 wt un ed kwt kun ked tb sb sz sbs G K P wk wh)) C dX5_stable_160 rfl rfl
    · refine v_aload_n C 0 dX5_stable_117 rfl ?_
      refine v_iload_n C 1 dX5_stable_118 rfl ?_
      refine v_iload_n C 2 dX5_stable_119 rfl ?_
      refine v_iload C 4 dX5_stable_120 rfl ?_
      refine v_callV3v C 0 rfl rfl rfl (fun l9 r9 h9 => k_X5_toldSum (l := l9) hq  h9) gX5_stable_X5_toldSum rfl nI_X5_toldSum ⟨rfl, rfl, Nat.le_of_ble_eq_true rfl, Nat.le_of_ble_eq_true rfl⟩ dX5_stable_122 (Nat.le_of_ble_eq_true rfl) (fun r13 => ?_)
      refine v_lstore C (lv' := [(8, .long r13.1), (0, .ref (q 0)), (2, .int a2), (3, .int a3), (4, .ref (q (22 + a1.toNatClampNeg))), (7, .int v10)]) dX5_stable_125 (by decide) rfl ?_
      refine v_aload_n C 1 dX5_stable_127 rfl ?_
      refine v_get C (T := TX5) (n := 10) (C9 := RX5) iX5 0 rfl rfl 6 (by decide) (List.mem_of_getElem? (i := 5) rfl) rfl rfl dX5_stable_128 ?_
      refine v_get C (T := TX1) (n := 1) (C9 := RX1) iX1 6 rfl rfl 0 (by decide) (List.mem_of_getElem? (i := 6) rfl) rfl rfl dX5_stable_131 ?_
      refine v_ifb_eq C (b := r13.2) dX5_stable_134 (tgt := 140) (by decide) ?_ ?_
      · refine v_aload C 4 dX5_stable_140 rfl ?_
        refine v_iload C 5 dX5_stable_142 rfl ?_
        refine v_lald C (22 + a1.toNatClampNeg) 1 (xW_G hj4) rfl dX5_stable_144 ?_
        refine v_lload C 0 dX5_stable_145 rfl ?_
        refine v_lcmp_le C dX5_stable_147 dX5_stable_148 (tgt := 153) (by decide) ?_ ?_
        · refine v_iinc_nm C (lvf := fun x14 => [(7, .int x14), (8, .long r13.1), (0, .ref (q 0)), (2, .int a2), (3, .int a3), (4, .ref (q (22 + a1.toNatClampNeg)))]) 5 dX5_stable_153 rfl rfl (by decide) (fun _ => rfl) (fun x14 => ?_)
          refine v_goto C dX5_stable_156 (tgt := 105) (by decide) ?_
          exact v_sub [2, 3, 4, 5, 0] rfl (ih x14 r13.2)
        · refine v_iconst C dX5_stable_151 (v := 0) (by decide) ?_
          exact v_iret (rvf := fun (res : Int32 × Bool) => (some (.int res.1))) (wf := fun (res : Int32 × Bool) => (xW q cs n nd es kn knd kes img tl ta tn sl res.2 wt un ed kwt kun ked tb sb sz sbs G K P wk wh)) C dX5_stable_152 rfl rfl
      · refine v_bipush C dX5_stable_137 (v := (-6)) (by decide) ?_
        exact v_iret (rvf := fun (res : Int32 × Bool) => (some (.int res.1))) (wf := fun (res : Int32 × Bool) => (xW q cs n nd es kn knd kes img tl ta tn sl res.2 wt un ed kwt kun ked tb sb sz sbs G K P wk wh)) C dX5_stable_139 rfl rfl

set_option maxRecDepth 100000 in
set_option maxHeartbeats 4000000 in
theorem k_X5_stable {l : Launch} {a1 : Int32} {a2 : Int32} {a3 : Int32}  {res : Int32 × Bool} (hq : (xA q).Nodup)  (hf : f_X5_stable n bey sz G P a1 a2 a3 = some res) : kMet l yX5_stable wsX5_stable { frames := 3, cells := 0, slots := 0, locals := 69 } D vwCl (xT cs) (xN tF) (xA q) [.ref (q 0), .int a1, .int a2, .int a3] (xW q cs n nd es kn knd kes img tl ta tn sl bey wt un ed kwt kun ked tb sb sz sbs G K P wk wh) (some (.int res.1)) (xW q cs n nd es kn knd kes img tl ta tn sl res.2 wt un ed kwt kun ked tb sb sz sbs G K P wk wh) := by
  have iX0 : ∀ w ∈ wsX00, w ∈ wsX5_stable := fun _ h => List.mem_cons_of_mem _ (List.mem_append_left _ (List.mem_append_left _ (List.mem_append_right _ h)))
  have iX1 : ∀ w ∈ wsX10, w ∈ wsX5_stable := fun _ h => List.mem_cons_of_mem _ (List.mem_append_left _ (List.mem_append_right _ h))
  have iX5 : ∀ w ∈ wsX50, w ∈ wsX5_stable := fun _ h => List.mem_cons_of_mem _ (List.mem_append_left _ (List.mem_append_left _ (List.mem_append_left _ (List.mem_append_right _ h))))
  refine kMet.of (cc := cX5_stable) (nL := 10) (ret := (some .int)) (own := RX5) (lv := [(0, .ref (q 0)), (1, .int a1), (2, .int a2), (3, .int a3)]) (by decide +kernel) rfl rfl xN_ok hq (Nat.le_of_ble_eq_true rfl) rfl (fun X C => ?_)
  refine VF.of hf ?_
  unfold f_X5_stable
  refine v_iload_n C 1 dX5_stable_0 rfl ?_
  refine v_callSP1v C (fun l9 r9 h9 => k_X5_isGame (l := l9) h9) gX5_stable_X5_isGame rfl nI_X5_isGame ⟨rfl, rfl, Nat.le_of_ble_eq_true rfl, Nat.le_of_ble_eq_true rfl⟩ dX5_stable_1 (Nat.le_of_ble_eq_true rfl) (fun r1 => ?_)
  refine v_ifb_eq C (b := r1) dX5_stable_4 (tgt := 14) (by decide) ?_ ?_
  · refine v_iconst C dX5_stable_14 (v := (-1)) (by decide) ?_
    exact v_iret (rvf := fun (res : Int32 × Bool) => (some (.int res.1))) (wf := fun (res : Int32 × Bool) => (xW q cs n nd es kn knd kes img tl ta tn sl res.2 wt un ed kwt kun ked tb sb sz sbs G K P wk wh)) C dX5_stable_15 rfl rfl
  · refine v_iload_n C 2 dX5_stable_7 rfl ?_
    refine v_callSP1v C (fun l9 r9 h9 => k_X5_isRow (l := l9) h9) gX5_stable_X5_isRow rfl nI_X5_isRow ⟨rfl, rfl, Nat.le_of_ble_eq_true rfl, Nat.le_of_ble_eq_true rfl⟩ dX5_stable_8 (Nat.le_of_ble_eq_true rfl) (fun r2 => ?_)
    refine v_ifb_ne C (b := r2) dX5_stable_11 (tgt := 16) (by decide) ?_ ?_
    · refine v_aload_n C 0 dX5_stable_16 rfl ?_
      refine v_get C (T := TX5) (n := 10) (C9 := RX5) iX5 0 rfl rfl 5 (by decide) (List.mem_of_getElem? (i := 1) rfl) rfl rfl dX5_stable_17 ?_
      refine v_iload_n C 2 dX5_stable_20 rfl ?_
      refine v_iload_n C 3 dX5_stable_21 rfl ?_
      refine v_aload_n C 0 dX5_stable_22 rfl ?_
      refine v_get C (T := TX5) (n := 10) (C9 := RX5) iX5 0 rfl rfl 0 (by decide) (List.mem_of_getElem? (i := 2) rfl) rfl rfl dX5_stable_23 ?_
      refine v_get C (T := TX0) (n := 7) (C9 := RX0) iX0 1 rfl rfl 0 (by decide) (List.mem_of_getElem? (i := 3) rfl) rfl rfl dX5_stable_26 ?_
      refine v_callV3v C 5 rfl rfl rfl (fun l9 r9 h9 => k_X3_holds (l := l9) hq  h9) gX5_stable_X3_holds rfl nI_X3_holds ⟨rfl, rfl, Nat.le_of_ble_eq_true rfl, Nat.le_of_ble_eq_true rfl⟩ dX5_stable_29 (Nat.le_of_ble_eq_true rfl) (fun r3 => ?_)
      refine v_ifb_ne C (b := r3) dX5_stable_32 (tgt := 38) (by decide) ?_ ?_
      · refine v_aload_n C 0 dX5_stable_38 rfl ?_
        refine v_get C (T := TX5) (n := 10) (C9 := RX5) iX5 0 rfl rfl 0 (by decide) (List.mem_of_getElem? (i := 2) rfl) rfl rfl dX5_stable_39 ?_
        refine v_get C (T := TX0) (n := 7) (C9 := RX0) iX0 1 rfl rfl 6 (by decide) (List.mem_of_getElem? (i := 4) rfl) rfl rfl dX5_stable_42 ?_
        refine v_iload_n C 1 dX5_stable_45 rfl ?_
        refine v_aalda C (ad := fun j9 => q (22 + j9)) 10 3 rfl rfl (fun _ h9 => if_pos h9) dX5_stable_46 (fun hb4 => ?_)
        have hj4 := inb_lt hb4
        refine v_astore C (lv' := [(4, .ref (q (22 + a1.toNatClampNeg))), (0, .ref (q 0)), (1, .int a1), (2, .int a2), (3, .int a3)]) dX5_stable_47 (by decide) rfl ?_
        refine v_aload_n C 1 dX5_stable_49 rfl ?_
        refine v_get C (T := TX5) (n := 10) (C9 := RX5) iX5 0 rfl rfl 6 (by decide) (List.mem_of_getElem? (i := 5) rfl) rfl rfl dX5_stable_50 ?_
        refine v_callV0n C 6 rfl rfl rfl (fun l9 r9 h9 => k_X1_begin (l := l9) hq  h9) gX5_stable_X1_begin rfl nI_X1_begin ⟨rfl, rfl, Nat.le_of_ble_eq_true rfl, Nat.le_of_ble_eq_true rfl⟩ dX5_stable_53 (Nat.le_of_ble_eq_true rfl) (fun r5 => ?_)
        refine v_aload_n C 1 dX5_stable_56 rfl ?_
        refine v_iload_n C 3 dX5_stable_57 rfl ?_
        refine v_iload_n C 4 dX5_stable_58 rfl ?_
        refine v_aload_n C 1 dX5_stable_59 rfl ?_
        refine v_get C (T := TX5) (n := 10) (C9 := RX5) iX5 0 rfl rfl 0 (by decide) (List.mem_of_getElem? (i := 2) rfl) rfl rfl dX5_stable_60 ?_
        refine v_callV0v C 1 rfl rfl rfl (fun l9 r9 h9 => k_X0_everyone (l := l9) hq  h9) gX5_stable_X0_everyone rfl nI_X0_everyone ⟨rfl, rfl, Nat.le_of_ble_eq_true rfl, Nat.le_of_ble_eq_true rfl⟩ dX5_stable_63 (Nat.le_of_ble_eq_true rfl) (fun r6 => ?_)
        refine v_callV3v C 0 rfl rfl rfl (fun l9 r9 h9 => k_X5_toldSum (l := l9) hq  h9) gX5_stable_X5_toldSum rfl nI_X5_toldSum ⟨rfl, rfl, Nat.le_of_ble_eq_true rfl, Nat.le_of_ble_eq_true rfl⟩ dX5_stable_66 (Nat.le_of_ble_eq_true rfl) (fun r7 => ?_)
        refine v_lstore C (lv' := [(5, .long r7.1), (4, .ref (q (22 + a1.toNatClampNeg))), (0, .ref (q 0)), (1, .int a1), (2, .int a2), (3, .int a3)]) dX5_stable_69 (by decide) rfl ?_
        refine v_aload_n C 2 dX5_stable_71 rfl ?_
        refine v_get C (T := TX5) (n := 10) (C9 := RX5) iX5 0 rfl rfl 6 (by decide) (List.mem_of_getElem? (i := 5) rfl) rfl rfl dX5_stable_72 ?_
        refine v_get C (T := TX1) (n := 1) (C9 := RX1) iX1 6 rfl rfl 0 (by decide) (List.mem_of_getElem? (i := 6) rfl) rfl rfl dX5_stable_75 ?_
        refine v_ifb_eq C (b := r7.2) dX5_stable_78 (tgt := 84) (by decide) ?_ ?_
        · refine v_lload C 0 dX5_stable_84 rfl ?_
          refine v_aload C 1 dX5_stable_86 rfl ?_
          refine v_aload_n C 2 dX5_stable_88 rfl ?_
          refine v_get C (T := TX5) (n := 10) (C9 := RX5) iX5 0 rfl rfl 0 (by decide) (List.mem_of_getElem? (i := 2) rfl) rfl rfl dX5_stable_89 ?_
          refine v_callV0v C 1 rfl rfl rfl (fun l9 r9 h9 => k_X0_everyone (l := l9) hq  h9) gX5_stable_X0_everyone rfl nI_X0_everyone ⟨rfl, rfl, Nat.le_of_ble_eq_true rfl, Nat.le_of_ble_eq_true rfl⟩ dX5_stable_92 (Nat.le_of_ble_eq_true rfl) (fun r8 => ?_)
          refine v_lald C (22 + a1.toNatClampNeg) 1 (xW_G hj4) rfl dX5_stable_95 ?_
          refine v_lcmp_eq C dX5_stable_96 dX5_stable_97 (tgt := 102) (by decide) ?_ ?_
          · refine v_iconst C dX5_stable_102 (v := 0) (by decide) ?_
            refine v_istore C (lv' := [(7, .int 0), (5, .long r7.1), (4, .ref (q (22 + a1.toNatClampNeg))), (0, .ref (q 0)), (1, .int a1), (2, .int a2), (3, .int a3)]) dX5_stable_103 (by decide) rfl ?_
            refine v_sub [3, 5, 6, 2, 0] rfl (lp_X5_stable_1 hq C hj4  FU 0 r7.2)
          · refine v_iconst C dX5_stable_100 (v := 0) (by decide) ?_
            exact v_iret (rvf := fun (res : Int32 × Bool) => (some (.int res.1))) (wf := fun (res : Int32 × Bool) => (xW q cs n nd es kn knd kes img tl ta tn sl res.2 wt un ed kwt kun ked tb sb sz sbs G K P wk wh)) C dX5_stable_101 rfl rfl
        · refine v_bipush C dX5_stable_81 (v := (-6)) (by decide) ?_
          exact v_iret (rvf := fun (res : Int32 × Bool) => (some (.int res.1))) (wf := fun (res : Int32 × Bool) => (xW q cs n nd es kn knd kes img tl ta tn sl res.2 wt un ed kwt kun ked tb sb sz sbs G K P wk wh)) C dX5_stable_83 rfl rfl
      · refine v_bipush C dX5_stable_35 (v := (-3)) (by decide) ?_
        exact v_iret (rvf := fun (res : Int32 × Bool) => (some (.int res.1))) (wf := fun (res : Int32 × Bool) => (xW q cs n nd es kn knd kes img tl ta tn sl res.2 wt un ed kwt kun ked tb sb sz sbs G K P wk wh)) C dX5_stable_37 rfl rfl
    · refine v_iconst C dX5_stable_14 (v := (-1)) (by decide) ?_
      exact v_iret (rvf := fun (res : Int32 × Bool) => (some (.int res.1))) (wf := fun (res : Int32 × Bool) => (xW q cs n nd es kn knd kes img tl ta tn sl res.2 wt un ed kwt kun ked tb sb sz sbs G K P wk wh)) C dX5_stable_15 rfl rfl

def B_X5_worst_1 (n : Int32) (sz : Nat → Int32) (G : Nat → Nat → Int64) (P : Nat → Nat → Int64) (a1 : Int32) (a2 : Int32) (a3 : Int32) (rec5 : Int32 → Int64 → Int32 → Bool → Option (Int32 × Bool)) (kx6 : Int32 → Bool → Option (Int32 × Bool)) (v7 : Int32) (v8 : Int64) (v9 : Int32) (bey10 : Bool) : Option (Int32 × Bool) :=
(f_X0_everyone n).bind (fun (r11 : Int32) =>
if (v9 : Int32) < r11 then (
ck (inb a1 4) (
ck (inb v9 512) (
(f_X5_toldSum n bey10 sz P a2 a3 v9).bind (fun (r13 : Int64 × Bool) =>
(f_X1_less r13.2 ((G a1.toNatClampNeg) v9.toNatClampNeg) r13.1).bind (fun (r14 : Int64 × Bool) =>
jn2 (fun (v16 : Int32) (v17 : Int64) =>
nm (v9 + 1) (fun (x18 : Int32) =>
rec5 v16 v17 x18 r14.2)) (fun k15 =>
jn0 (k15 v9 r14.1) (fun k19 =>
if (v7 : Int32) = (-5) then (
k19) else (
if (v8 : Int64) < r14.1 then (
k19) else (
k15 v7 v8))))))))) else (
kx6 v7 bey10))
def L_X5_worst_1 (n : Int32) (sz : Nat → Int32) (G : Nat → Nat → Int64) (P : Nat → Nat → Int64) (a1 : Int32) (a2 : Int32) (a3 : Int32) (kx6 : Int32 → Bool → Option (Int32 × Bool)) : Nat → Int32 → Int64 → Int32 → Bool → Option (Int32 × Bool)
  | 0, _, _, _, _ => none
  | m9 + 1, v7, v8, v9, bey10 => B_X5_worst_1 n sz G P a1 a2 a3 (L_X5_worst_1 n sz G P a1 a2 a3 kx6 m9) kx6 v7 v8 v9 bey10

def f_X5_worst (n : Int32) (bey : Bool) (sz : Nat → Int32) (G : Nat → Nat → Int64) (P : Nat → Nat → Int64) (a1 : Int32) (a2 : Int32) (a3 : Int32) : Option (Int32 × Bool) :=
(f_X5_isGame a1).bind (fun (r1 : Bool) =>
if r1 = true then (
(f_X5_isRow a2).bind (fun (r2 : Bool) =>
if r2 = true then (
(f_X3_holds sz a2 a3 n).bind (fun (r3 : Bool) =>
if r3 = true then (
(f_X1_begin bey).bind (fun (r4 : Bool) =>
L_X5_worst_1 n sz G P a1 a2 a3 (fun (v20 : Int32) (bey21 : Bool) =>
if bey21 = true then (
some ((-6), bey21)) else (
some (v20, bey21))) FU (-5) 0 1 r4)) else (
some ((-3), bey)))) else (
some ((-1), bey)))) else (
some ((-1), bey)))

theorem nI_X5_worst : NameIn yX5_worst 3 := ⟨by decide +kernel, by decide +kernel, by decide +kernel⟩
set_option maxRecDepth 100000 in
set_option maxHeartbeats 4000000 in
theorem lp_X5_worst_1 {X : CX} {res : Int32 × Bool} {a1 : Int32} {a2 : Int32} {a3 : Int32}   (hq : (xA q).Nodup) (C : Ok X cX5_worst 10 (some .int) wsX5_worst RX5 { frames := 3, cells := 0, slots := 0, locals := 69 } D vwCl (xT cs) (xA q) (xN tF) (some (.int res.1)) (xW q cs n nd es kn knd kes img tl ta tn sl res.2 wt un ed kwt kun ked tb sb sz sbs G K P wk wh))  (kx6 : Int32 → Bool → Option (Int32 × Bool)) (Jkx6 : ∀ y4 : Int32, ∀ beyZz : Bool, VF X res (kx6 y4 beyZz) (xW q cs n nd es kn knd kes img tl ta tn sl beyZz wt un ed kwt kun ked tb sb sz sbs G K P wk wh) 125 [(0, .ref (q 0)), (4, .int y4)] []) : ∀ fuel : Nat, ∀ v7 : Int32, ∀ v8 : Int64, ∀ v9 : Int32, ∀ bey10 : Bool, VF X res (L_X5_worst_1 n sz G P a1 a2 a3 kx6 fuel v7 v8 v9 bey10) (xW q cs n nd es kn knd kes img tl ta tn sl bey10 wt un ed kwt kun ked tb sb sz sbs G K P wk wh) 55 [(0, .ref (q 0)), (1, .int a1), (2, .int a2), (3, .int a3), (4, .int v7), (5, .long v8), (7, .int v9)] [] := by
  have iX0 : ∀ w ∈ wsX00, w ∈ wsX5_worst := fun _ h => List.mem_cons_of_mem _ (List.mem_append_left _ (List.mem_append_left _ (List.mem_append_right _ h)))
  have iX5 : ∀ w ∈ wsX50, w ∈ wsX5_worst := fun _ h => List.mem_cons_of_mem _ (List.mem_append_left _ (List.mem_append_left _ (List.mem_append_left _ (List.mem_append_right _ h))))
  intro fuel
  induction fuel with
  | zero =>
    intro _ _ _ _
    exact v_none
  | succ fuel ih =>
    intro v7 v8 v9 bey10
    show VF X res (B_X5_worst_1 n sz G P a1 a2 a3 (L_X5_worst_1 n sz G P a1 a2 a3 kx6 fuel) kx6 v7 v8 v9 bey10) _ _ _ _
    unfold B_X5_worst_1
    refine v_iload C 6 dX5_worst_55 rfl ?_
    refine v_aload_n C 0 dX5_worst_57 rfl ?_
    refine v_get C (T := TX5) (n := 10) (C9 := RX5) iX5 0 rfl rfl 0 (by decide) (List.mem_of_getElem? (i := 2) rfl) rfl rfl dX5_worst_58 ?_
    refine v_callV0v C 1 rfl rfl rfl (fun l9 r9 h9 => k_X0_everyone (l := l9) hq  h9) gX5_worst_X0_everyone rfl nI_X0_everyone ⟨rfl, rfl, Nat.le_of_ble_eq_true rfl, Nat.le_of_ble_eq_true rfl⟩ dX5_worst_61 (Nat.le_of_ble_eq_true rfl) (fun r11 => ?_)
    refine v_icmp_ge C dX5_worst_64 (tgt := 125) (by decide) ?_ ?_
    · exact v_sub [0, 4] rfl (Jkx6 v7 bey10)
    · refine v_aload_n C 0 dX5_worst_67 rfl ?_
      refine v_get C (T := TX5) (n := 10) (C9 := RX5) iX5 0 rfl rfl 6 (by decide) (List.mem_of_getElem? (i := 4) rfl) rfl rfl dX5_worst_68 ?_
      refine v_aload_n C 0 dX5_worst_71 rfl ?_
      refine v_get C (T := TX5) (n := 10) (C9 := RX5) iX5 0 rfl rfl 0 (by decide) (List.mem_of_getElem? (i := 2) rfl) rfl rfl dX5_worst_72 ?_
      refine v_get C (T := TX0) (n := 7) (C9 := RX0) iX0 1 rfl rfl 6 (by decide) (List.mem_of_getElem? (i := 5) rfl) rfl rfl dX5_worst_75 ?_
      refine v_iload_n C 1 dX5_worst_78 rfl ?_
      refine v_aalda C (ad := fun j9 => q (22 + j9)) 10 3 rfl rfl (fun _ h9 => if_pos h9) dX5_worst_79 (fun hb12 => ?_)
      have hj12 := inb_lt hb12
      refine v_iload C 6 dX5_worst_80 rfl ?_
      refine v_lald C (22 + a1.toNatClampNeg) 1 (xW_G hj12) rfl dX5_worst_82 ?_
      refine v_aload_n C 0 dX5_worst_83 rfl ?_
      refine v_iload_n C 2 dX5_worst_84 rfl ?_
      refine v_iload_n C 3 dX5_worst_85 rfl ?_
      refine v_iload C 6 dX5_worst_86 rfl ?_
      refine v_callV3v C 0 rfl rfl rfl (fun l9 r9 h9 => k_X5_toldSum (l := l9) hq  h9) gX5_worst_X5_toldSum rfl nI_X5_toldSum ⟨rfl, rfl, Nat.le_of_ble_eq_true rfl, Nat.le_of_ble_eq_true rfl⟩ dX5_worst_88 (Nat.le_of_ble_eq_true rfl) (fun r13 => ?_)
      refine v_callV2v C 6 rfl rfl rfl (fun l9 r9 h9 => k_X1_less (l := l9) hq  h9) gX5_worst_X1_less rfl nI_X1_less ⟨rfl, rfl, Nat.le_of_ble_eq_true rfl, Nat.le_of_ble_eq_true rfl⟩ dX5_worst_91 (Nat.le_of_ble_eq_true rfl) (fun r14 => ?_)
      refine v_lstore C (lv' := [(8, .long r14.1), (0, .ref (q 0)), (1, .int a1), (2, .int a2), (3, .int a3), (4, .int v7), (5, .long v8), (7, .int v9)]) dX5_worst_94 (by decide) rfl ?_
      refine v_iload C 5 dX5_worst_96 rfl ?_
      refine v_bipush C dX5_worst_98 (v := (-5)) (by decide) ?_
      refine v_jn2 (wj := (fun v16 v17 => (xW q cs n nd es kn knd kes img tl ta tn sl r14.2 wt un ed kwt kun ked tb sb sz sbs G K P wk wh))) (pcj := 119) (lvj := (fun v16 v17 => [(0, .ref (q 0)), (1, .int a1), (2, .int a2), (3, .int a3), (4, .int v16), (5, .long v17), (7, .int v9)])) (stj := (fun v16 v17 => [])) (fun v16 v17 => ?_) (fun k15 hk15 => ?_)
      · refine v_iinc_nm C (lvf := fun x18 => [(7, .int x18), (0, .ref (q 0)), (1, .int a1), (2, .int a2), (3, .int a3), (4, .int v16), (5, .long v17)]) 6 dX5_worst_119 rfl rfl (by decide) (fun _ => rfl) (fun x18 => ?_)
        refine v_goto C dX5_worst_122 (tgt := 55) (by decide) ?_
        exact v_sub [1, 2, 3, 4, 5, 6, 0] rfl (ih v16 v17 x18 r14.2)
      · refine v_jn0 (wj := ((xW q cs n nd es kn knd kes img tl ta tn sl r14.2 wt un ed kwt kun ked tb sb sz sbs G K P wk wh))) (pcj := 111) (lvj := ([(0, .ref (q 0)), (1, .int a1), (2, .int a2), (3, .int a3), (7, .int v9), (8, .long r14.1)])) (stj := ([])) ?_ (fun k19 hk19 => ?_)
        · refine v_iload C 4 dX5_worst_111 rfl ?_
          refine v_istore C (lv' := [(4, .int v9), (0, .ref (q 0)), (1, .int a1), (2, .int a2), (3, .int a3), (7, .int v9), (8, .long r14.1)]) dX5_worst_113 (by decide) rfl ?_
          refine v_lload C 6 dX5_worst_115 rfl ?_
          refine v_lstore C (lv' := [(5, .long r14.1), (4, .int v9), (0, .ref (q 0)), (1, .int a1), (2, .int a2), (3, .int a3), (7, .int v9), (8, .long r14.1)]) dX5_worst_117 (by decide) rfl ?_
          exact v_sub [2, 3, 4, 5, 1, 0, 6] rfl (hk15 v9 r14.1)
        · refine v_icmp_eq C dX5_worst_100 (tgt := 111) (by decide) ?_ ?_
          · exact v_sub [1, 2, 3, 4, 7, 0] rfl (hk19)
          · refine v_lload C 0 dX5_worst_103 rfl ?_
            refine v_lload C 6 dX5_worst_105 rfl ?_
            refine v_lcmp_le C dX5_worst_107 dX5_worst_108 (tgt := 119) (by decide) ?_ ?_
            · exact v_sub [1, 2, 3, 4, 5, 6, 7] rfl (hk15 v7 v8)
            · exact v_sub [1, 2, 3, 4, 7, 0] rfl (hk19)

set_option maxRecDepth 100000 in
set_option maxHeartbeats 4000000 in
theorem k_X5_worst {l : Launch} {a1 : Int32} {a2 : Int32} {a3 : Int32}  {res : Int32 × Bool} (hq : (xA q).Nodup)  (hf : f_X5_worst n bey sz G P a1 a2 a3 = some res) : kMet l yX5_worst wsX5_worst { frames := 3, cells := 0, slots := 0, locals := 69 } D vwCl (xT cs) (xN tF) (xA q) [.ref (q 0), .int a1, .int a2, .int a3] (xW q cs n nd es kn knd kes img tl ta tn sl bey wt un ed kwt kun ked tb sb sz sbs G K P wk wh) (some (.int res.1)) (xW q cs n nd es kn knd kes img tl ta tn sl res.2 wt un ed kwt kun ked tb sb sz sbs G K P wk wh) := by
  have iX0 : ∀ w ∈ wsX00, w ∈ wsX5_worst := fun _ h => List.mem_cons_of_mem _ (List.mem_append_left _ (List.mem_append_left _ (List.mem_append_right _ h)))
  have iX1 : ∀ w ∈ wsX10, w ∈ wsX5_worst := fun _ h => List.mem_cons_of_mem _ (List.mem_append_left _ (List.mem_append_right _ h))
  have iX5 : ∀ w ∈ wsX50, w ∈ wsX5_worst := fun _ h => List.mem_cons_of_mem _ (List.mem_append_left _ (List.mem_append_left _ (List.mem_append_left _ (List.mem_append_right _ h))))
  refine kMet.of (cc := cX5_worst) (nL := 10) (ret := (some .int)) (own := RX5) (lv := [(0, .ref (q 0)), (1, .int a1), (2, .int a2), (3, .int a3)]) (by decide +kernel) rfl rfl xN_ok hq (Nat.le_of_ble_eq_true rfl) rfl (fun X C => ?_)
  refine VF.of hf ?_
  unfold f_X5_worst
  refine v_iload_n C 1 dX5_worst_0 rfl ?_
  refine v_callSP1v C (fun l9 r9 h9 => k_X5_isGame (l := l9) h9) gX5_worst_X5_isGame rfl nI_X5_isGame ⟨rfl, rfl, Nat.le_of_ble_eq_true rfl, Nat.le_of_ble_eq_true rfl⟩ dX5_worst_1 (Nat.le_of_ble_eq_true rfl) (fun r1 => ?_)
  refine v_ifb_eq C (b := r1) dX5_worst_4 (tgt := 14) (by decide) ?_ ?_
  · refine v_iconst C dX5_worst_14 (v := (-1)) (by decide) ?_
    exact v_iret (rvf := fun (res : Int32 × Bool) => (some (.int res.1))) (wf := fun (res : Int32 × Bool) => (xW q cs n nd es kn knd kes img tl ta tn sl res.2 wt un ed kwt kun ked tb sb sz sbs G K P wk wh)) C dX5_worst_15 rfl rfl
  · refine v_iload_n C 2 dX5_worst_7 rfl ?_
    refine v_callSP1v C (fun l9 r9 h9 => k_X5_isRow (l := l9) h9) gX5_worst_X5_isRow rfl nI_X5_isRow ⟨rfl, rfl, Nat.le_of_ble_eq_true rfl, Nat.le_of_ble_eq_true rfl⟩ dX5_worst_8 (Nat.le_of_ble_eq_true rfl) (fun r2 => ?_)
    refine v_ifb_ne C (b := r2) dX5_worst_11 (tgt := 16) (by decide) ?_ ?_
    · refine v_aload_n C 0 dX5_worst_16 rfl ?_
      refine v_get C (T := TX5) (n := 10) (C9 := RX5) iX5 0 rfl rfl 5 (by decide) (List.mem_of_getElem? (i := 1) rfl) rfl rfl dX5_worst_17 ?_
      refine v_iload_n C 2 dX5_worst_20 rfl ?_
      refine v_iload_n C 3 dX5_worst_21 rfl ?_
      refine v_aload_n C 0 dX5_worst_22 rfl ?_
      refine v_get C (T := TX5) (n := 10) (C9 := RX5) iX5 0 rfl rfl 0 (by decide) (List.mem_of_getElem? (i := 2) rfl) rfl rfl dX5_worst_23 ?_
      refine v_get C (T := TX0) (n := 7) (C9 := RX0) iX0 1 rfl rfl 0 (by decide) (List.mem_of_getElem? (i := 3) rfl) rfl rfl dX5_worst_26 ?_
      refine v_callV3v C 5 rfl rfl rfl (fun l9 r9 h9 => k_X3_holds (l := l9) hq  h9) gX5_worst_X3_holds rfl nI_X3_holds ⟨rfl, rfl, Nat.le_of_ble_eq_true rfl, Nat.le_of_ble_eq_true rfl⟩ dX5_worst_29 (Nat.le_of_ble_eq_true rfl) (fun r3 => ?_)
      refine v_ifb_ne C (b := r3) dX5_worst_32 (tgt := 38) (by decide) ?_ ?_
      · refine v_aload_n C 0 dX5_worst_38 rfl ?_
        refine v_get C (T := TX5) (n := 10) (C9 := RX5) iX5 0 rfl rfl 6 (by decide) (List.mem_of_getElem? (i := 4) rfl) rfl rfl dX5_worst_39 ?_
        refine v_callV0n C 6 rfl rfl rfl (fun l9 r9 h9 => k_X1_begin (l := l9) hq  h9) gX5_worst_X1_begin rfl nI_X1_begin ⟨rfl, rfl, Nat.le_of_ble_eq_true rfl, Nat.le_of_ble_eq_true rfl⟩ dX5_worst_42 (Nat.le_of_ble_eq_true rfl) (fun r4 => ?_)
        refine v_bipush C dX5_worst_45 (v := (-5)) (by decide) ?_
        refine v_istore C (lv' := [(4, .int (-5)), (0, .ref (q 0)), (1, .int a1), (2, .int a2), (3, .int a3)]) dX5_worst_47 (by decide) rfl ?_
        refine v_lconst C dX5_worst_49 (v := 0) (by decide) ?_
        refine v_lstore C (lv' := [(5, .long 0), (4, .int (-5)), (0, .ref (q 0)), (1, .int a1), (2, .int a2), (3, .int a3)]) dX5_worst_50 (by decide) rfl ?_
        refine v_iconst C dX5_worst_52 (v := 1) (by decide) ?_
        refine v_istore C (lv' := [(7, .int 1), (5, .long 0), (4, .int (-5)), (0, .ref (q 0)), (1, .int a1), (2, .int a2), (3, .int a3)]) dX5_worst_53 (by decide) rfl ?_
        refine v_sub [3, 4, 5, 6, 2, 1, 0] rfl (lp_X5_worst_1 hq C  _ (fun v20 bey21 => ?_) FU (-5) 0 1 r4)
        refine v_aload_n C 0 dX5_worst_125 rfl ?_
        refine v_get C (T := TX5) (n := 10) (C9 := RX5) iX5 0 rfl rfl 6 (by decide) (List.mem_of_getElem? (i := 4) rfl) rfl rfl dX5_worst_126 ?_
        refine v_get C (T := TX1) (n := 1) (C9 := RX1) iX1 6 rfl rfl 0 (by decide) (List.mem_of_getElem? (i := 6) rfl) rfl rfl dX5_worst_129 ?_
        refine v_ifb_eq C (b := bey21) dX5_worst_132 (tgt := 140) (by decide) ?_ ?_
        · refine v_iload C 1 dX5_worst_140 rfl ?_
          exact v_iret (rvf := fun (res : Int32 × Bool) => (some (.int res.1))) (wf := fun (res : Int32 × Bool) => (xW q cs n nd es kn knd kes img tl ta tn sl res.2 wt un ed kwt kun ked tb sb sz sbs G K P wk wh)) C dX5_worst_142 rfl rfl
        · refine v_bipush C dX5_worst_135 (v := (-6)) (by decide) ?_
          refine v_goto C dX5_worst_137 (tgt := 142) (by decide) ?_
          exact v_iret (rvf := fun (res : Int32 × Bool) => (some (.int res.1))) (wf := fun (res : Int32 × Bool) => (xW q cs n nd es kn knd kes img tl ta tn sl res.2 wt un ed kwt kun ked tb sb sz sbs G K P wk wh)) C dX5_worst_142 rfl rfl
      · refine v_bipush C dX5_worst_35 (v := (-3)) (by decide) ?_
        exact v_iret (rvf := fun (res : Int32 × Bool) => (some (.int res.1))) (wf := fun (res : Int32 × Bool) => (xW q cs n nd es kn knd kes img tl ta tn sl res.2 wt un ed kwt kun ked tb sb sz sbs G K P wk wh)) C dX5_worst_37 rfl rfl
    · refine v_iconst C dX5_worst_14 (v := (-1)) (by decide) ?_
      exact v_iret (rvf := fun (res : Int32 × Bool) => (some (.int res.1))) (wf := fun (res : Int32 × Bool) => (xW q cs n nd es kn knd kes img tl ta tn sl res.2 wt un ed kwt kun ked tb sb sz sbs G K P wk wh)) C dX5_worst_15 rfl rfl

def f_X5_excess (n : Int32) (bey : Bool) (sz : Nat → Int32) (G : Nat → Nat → Int64) (P : Nat → Nat → Int64) (a1 : Int32) (a2 : Int32) (a3 : Int32) (a4 : Int32) : Option (Int64 × Bool) :=
(f_X5_isGame a1).bind (fun (r1 : Bool) =>
if r1 = true then (
(f_X0_hasSet n a4).bind (fun (r2 : Bool) =>
if r2 = true then (
(f_X3_holds sz a2 a3 n).bind (fun (r3 : Bool) =>
if r3 = true then (
(f_X1_begin bey).bind (fun (r4 : Bool) =>
ck (inb a1 4) (
ck (inb a4 512) (
(f_X5_toldSum n r4 sz P a2 a3 a4).bind (fun (r6 : Int64 × Bool) =>
(f_X1_less r6.2 ((G a1.toNatClampNeg) a4.toNatClampNeg) r6.1).bind (fun (r7 : Int64 × Bool) =>
if r7.2 = true then (
some ((-9223372036854775808), r7.2)) else (
some (r7.1, r7.2)))))))) else (
some ((-9223372036854775808), bey)))) else (
some ((-9223372036854775808), bey)))) else (
some ((-9223372036854775808), bey)))

theorem nI_X5_excess : NameIn yX5_excess 4 := ⟨by decide +kernel, by decide +kernel, by decide +kernel⟩
set_option maxRecDepth 100000 in
set_option maxHeartbeats 4000000 in
theorem k_X5_excess {l : Launch} {a1 : Int32} {a2 : Int32} {a3 : Int32} {a4 : Int32}  {res : Int64 × Bool} (hq : (xA q).Nodup)  (hf : f_X5_excess n bey sz G P a1 a2 a3 a4 = some res) : kMet l yX5_excess wsX5_excess { frames := 3, cells := 0, slots := 0, locals := 69 } D vwCl (xT cs) (xN tF) (xA q) [.ref (q 0), .int a1, .int a2, .int a3, .int a4] (xW q cs n nd es kn knd kes img tl ta tn sl bey wt un ed kwt kun ked tb sb sz sbs G K P wk wh) (some (.long res.1)) (xW q cs n nd es kn knd kes img tl ta tn sl res.2 wt un ed kwt kun ked tb sb sz sbs G K P wk wh) := by
  have iX0 : ∀ w ∈ wsX00, w ∈ wsX5_excess := fun _ h => List.mem_cons_of_mem _ (List.mem_append_left _ (List.mem_append_left _ (List.mem_append_right _ h)))
  have iX1 : ∀ w ∈ wsX10, w ∈ wsX5_excess := fun _ h => List.mem_cons_of_mem _ (List.mem_append_left _ (List.mem_append_right _ h))
  have iX5 : ∀ w ∈ wsX50, w ∈ wsX5_excess := fun _ h => List.mem_cons_of_mem _ (List.mem_append_left _ (List.mem_append_left _ (List.mem_append_left _ (List.mem_append_right _ h))))
  refine kMet.of (cc := cX5_excess) (nL := 7) (ret := (some .long)) (own := RX5) (lv := [(0, .ref (q 0)), (1, .int a1), (2, .int a2), (3, .int a3), (4, .int a4)]) (by decide +kernel) rfl rfl xN_ok hq (Nat.le_of_ble_eq_true rfl) rfl (fun X C => ?_)
  refine VF.of hf ?_
  unfold f_X5_excess
  refine v_iload_n C 1 dX5_excess_0 rfl ?_
  refine v_callSP1v C (fun l9 r9 h9 => k_X5_isGame (l := l9) h9) gX5_excess_X5_isGame rfl nI_X5_isGame ⟨rfl, rfl, Nat.le_of_ble_eq_true rfl, Nat.le_of_ble_eq_true rfl⟩ dX5_excess_1 (Nat.le_of_ble_eq_true rfl) (fun r1 => ?_)
  refine v_ifb_eq C (b := r1) dX5_excess_4 (tgt := 38) (by decide) ?_ ?_
  · refine v_ldc2 C (v := (-9223372036854775808)) (List.mem_of_getElem? (i := 4) rfl) dX5_excess_38 ?_
    exact v_lret (rvf := fun (res : Int64 × Bool) => (some (.long res.1))) (wf := fun (res : Int64 × Bool) => (xW q cs n nd es kn knd kes img tl ta tn sl res.2 wt un ed kwt kun ked tb sb sz sbs G K P wk wh)) C dX5_excess_41 rfl rfl
  · refine v_aload_n C 0 dX5_excess_7 rfl ?_
    refine v_get C (T := TX5) (n := 10) (C9 := RX5) iX5 0 rfl rfl 0 (by decide) (List.mem_of_getElem? (i := 1) rfl) rfl rfl dX5_excess_8 ?_
    refine v_iload C 4 dX5_excess_11 rfl ?_
    refine v_callV1v C 1 rfl rfl rfl (fun l9 r9 h9 => k_X0_hasSet (l := l9) hq  h9) gX5_excess_X0_hasSet rfl nI_X0_hasSet ⟨rfl, rfl, Nat.le_of_ble_eq_true rfl, Nat.le_of_ble_eq_true rfl⟩ dX5_excess_13 (Nat.le_of_ble_eq_true rfl) (fun r2 => ?_)
    refine v_ifb_eq C (b := r2) dX5_excess_16 (tgt := 38) (by decide) ?_ ?_
    · refine v_ldc2 C (v := (-9223372036854775808)) (List.mem_of_getElem? (i := 4) rfl) dX5_excess_38 ?_
      exact v_lret (rvf := fun (res : Int64 × Bool) => (some (.long res.1))) (wf := fun (res : Int64 × Bool) => (xW q cs n nd es kn knd kes img tl ta tn sl res.2 wt un ed kwt kun ked tb sb sz sbs G K P wk wh)) C dX5_excess_41 rfl rfl
    · refine v_aload_n C 0 dX5_excess_19 rfl ?_
      refine v_get C (T := TX5) (n := 10) (C9 := RX5) iX5 0 rfl rfl 5 (by decide) (List.mem_of_getElem? (i := 2) rfl) rfl rfl dX5_excess_20 ?_
      refine v_iload_n C 2 dX5_excess_23 rfl ?_
      refine v_iload_n C 3 dX5_excess_24 rfl ?_
      refine v_aload_n C 0 dX5_excess_25 rfl ?_
      refine v_get C (T := TX5) (n := 10) (C9 := RX5) iX5 0 rfl rfl 0 (by decide) (List.mem_of_getElem? (i := 1) rfl) rfl rfl dX5_excess_26 ?_
      refine v_get C (T := TX0) (n := 7) (C9 := RX0) iX0 1 rfl rfl 0 (by decide) (List.mem_of_getElem? (i := 3) rfl) rfl rfl dX5_excess_29 ?_
      refine v_callV3v C 5 rfl rfl rfl (fun l9 r9 h9 => k_X3_holds (l := l9) hq  h9) gX5_excess_X3_holds rfl nI_X3_holds ⟨rfl, rfl, Nat.le_of_ble_eq_true rfl, Nat.le_of_ble_eq_true rfl⟩ dX5_excess_32 (Nat.le_of_ble_eq_true rfl) (fun r3 => ?_)
      refine v_ifb_ne C (b := r3) dX5_excess_35 (tgt := 42) (by decide) ?_ ?_
      · refine v_aload_n C 0 dX5_excess_42 rfl ?_
        refine v_get C (T := TX5) (n := 10) (C9 := RX5) iX5 0 rfl rfl 6 (by decide) (List.mem_of_getElem? (i := 5) rfl) rfl rfl dX5_excess_43 ?_
        refine v_callV0n C 6 rfl rfl rfl (fun l9 r9 h9 => k_X1_begin (l := l9) hq  h9) gX5_excess_X1_begin rfl nI_X1_begin ⟨rfl, rfl, Nat.le_of_ble_eq_true rfl, Nat.le_of_ble_eq_true rfl⟩ dX5_excess_46 (Nat.le_of_ble_eq_true rfl) (fun r4 => ?_)
        refine v_aload_n C 0 dX5_excess_49 rfl ?_
        refine v_get C (T := TX5) (n := 10) (C9 := RX5) iX5 0 rfl rfl 6 (by decide) (List.mem_of_getElem? (i := 5) rfl) rfl rfl dX5_excess_50 ?_
        refine v_aload_n C 0 dX5_excess_53 rfl ?_
        refine v_get C (T := TX5) (n := 10) (C9 := RX5) iX5 0 rfl rfl 0 (by decide) (List.mem_of_getElem? (i := 1) rfl) rfl rfl dX5_excess_54 ?_
        refine v_get C (T := TX0) (n := 7) (C9 := RX0) iX0 1 rfl rfl 6 (by decide) (List.mem_of_getElem? (i := 6) rfl) rfl rfl dX5_excess_57 ?_
        refine v_iload_n C 1 dX5_excess_60 rfl ?_
        refine v_aalda C (ad := fun j9 => q (22 + j9)) 10 3 rfl rfl (fun _ h9 => if_pos h9) dX5_excess_61 (fun hb5 => ?_)
        have hj5 := inb_lt hb5
        refine v_iload C 4 dX5_excess_62 rfl ?_
        refine v_lald C (22 + a1.toNatClampNeg) 1 (xW_G hj5) rfl dX5_excess_64 ?_
        refine v_aload_n C 0 dX5_excess_65 rfl ?_
        refine v_iload_n C 2 dX5_excess_66 rfl ?_
        refine v_iload_n C 3 dX5_excess_67 rfl ?_
        refine v_iload C 4 dX5_excess_68 rfl ?_
        refine v_callV3v C 0 rfl rfl rfl (fun l9 r9 h9 => k_X5_toldSum (l := l9) hq  h9) gX5_excess_X5_toldSum rfl nI_X5_toldSum ⟨rfl, rfl, Nat.le_of_ble_eq_true rfl, Nat.le_of_ble_eq_true rfl⟩ dX5_excess_70 (Nat.le_of_ble_eq_true rfl) (fun r6 => ?_)
        refine v_callV2v C 6 rfl rfl rfl (fun l9 r9 h9 => k_X1_less (l := l9) hq  h9) gX5_excess_X1_less rfl nI_X1_less ⟨rfl, rfl, Nat.le_of_ble_eq_true rfl, Nat.le_of_ble_eq_true rfl⟩ dX5_excess_73 (Nat.le_of_ble_eq_true rfl) (fun r7 => ?_)
        refine v_lstore C (lv' := [(5, .long r7.1), (0, .ref (q 0)), (1, .int a1), (2, .int a2), (3, .int a3), (4, .int a4)]) dX5_excess_76 (by decide) rfl ?_
        refine v_aload_n C 1 dX5_excess_78 rfl ?_
        refine v_get C (T := TX5) (n := 10) (C9 := RX5) iX5 0 rfl rfl 6 (by decide) (List.mem_of_getElem? (i := 5) rfl) rfl rfl dX5_excess_79 ?_
        refine v_get C (T := TX1) (n := 1) (C9 := RX1) iX1 6 rfl rfl 0 (by decide) (List.mem_of_getElem? (i := 7) rfl) rfl rfl dX5_excess_82 ?_
        refine v_ifb_eq C (b := r7.2) dX5_excess_85 (tgt := 94) (by decide) ?_ ?_
        · refine v_lload C 0 dX5_excess_94 rfl ?_
          exact v_lret (rvf := fun (res : Int64 × Bool) => (some (.long res.1))) (wf := fun (res : Int64 × Bool) => (xW q cs n nd es kn knd kes img tl ta tn sl res.2 wt un ed kwt kun ked tb sb sz sbs G K P wk wh)) C dX5_excess_96 rfl rfl
        · refine v_ldc2 C (v := (-9223372036854775808)) (List.mem_of_getElem? (i := 4) rfl) dX5_excess_88 ?_
          refine v_goto C dX5_excess_91 (tgt := 96) (by decide) ?_
          exact v_lret (rvf := fun (res : Int64 × Bool) => (some (.long res.1))) (wf := fun (res : Int64 × Bool) => (xW q cs n nd es kn knd kes img tl ta tn sl res.2 wt un ed kwt kun ked tb sb sz sbs G K P wk wh)) C dX5_excess_96 rfl rfl
      · refine v_ldc2 C (v := (-9223372036854775808)) (List.mem_of_getElem? (i := 4) rfl) dX5_excess_38 ?_
        exact v_lret (rvf := fun (res : Int64 × Bool) => (some (.long res.1))) (wf := fun (res : Int64 × Bool) => (xW q cs n nd es kn knd kes img tl ta tn sl res.2 wt un ed kwt kun ked tb sb sz sbs G K P wk wh)) C dX5_excess_41 rfl rfl

end WK
