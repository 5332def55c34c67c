section WK
variable {q : Nat → Nat} {cs : Nat → ClassId} {D : va_G} {tF : Nat} {n : Int32} {nd : Int32} {es : Int32} {kn : Int32} {knd : Int32} {kes : Int32} {img : Bool} {tl : Int32} {ta : Int32} {tn : Int64} {sl : Int32} {bey : Bool} {wt : Nat → Int32} {un : Nat → Int32} {ed : Nat → Int32} {kwt : Nat → Int32} {kun : Nat → Int32} {ked : Nat → Int32} {tb : Nat → Int32} {sb : Nat → Int32} {sz : Nat → Int32} {sbs : Nat → Int32} {G : Nat → Nat → Int64} {K : Nat → Nat → Int64} {P : Nat → Nat → Int64} {wk : Nat → Int64} {wh : Nat → Int64}
def f_X5_owen (n : Int32) (bey : Bool) (un : Nat → Int32) (G : Nat → Nat → Int64) (a1 : Int32) (a2 : Int32) (a3 : Int32) : Option (Int64 × Bool) :=
(f_X5_isGame a1).bind (fun (r1 : Bool) =>
if r1 = true then (
(f_X0_hasPartner n a2).bind (fun (r2 : Bool) =>
if r2 = true then (
(f_X5_isPart a3).bind (fun (r3 : Bool) =>
if r3 = true then (
(f_X1_begin bey).bind (fun (r4 : Bool) =>
ck (inb a1 4) (
(f_X5_owenAbove n r4 un (G a1.toNatClampNeg) a2).bind (fun (r6 : Int64 × Bool) =>
ck (inb a2 9) (
(f_J6_bitCount_0f7a4 (un a2.toNatClampNeg)).bind (fun (r7 : Int32) =>
(f_X0_countUnions n un).bind (fun (r8 : Int32) =>
(f_X5_factorial r8).bind (fun (r9 : Int32) =>
(f_X5_factorial r7).bind (fun (r10 : Int32) =>
nm (r9 * r10) (fun (x11 : Int32) =>
if r6.2 = true then (
some ((-9223372036854775808), r6.2)) else (
(f_X5_lowest r6.1 x11.toInt64 a3).bind (fun (r12 : Int64) =>
some (r12, r6.2))))))))))))) else (
some ((-9223372036854775808), bey)))) else (
some ((-9223372036854775808), bey)))) else (
some ((-9223372036854775808), bey)))

theorem nI_X5_owen : NameIn yX5_owen 3 := ⟨by decide +kernel, by decide +kernel, by decide +kernel⟩
set_option maxRecDepth 100000 in
set_option maxHeartbeats 4000000 in
theorem k_X5_owen {l : Launch} {a1 : Int32} {a2 : Int32} {a3 : Int32}  {res : Int64 × Bool} (hq : (xA q).Nodup)  (hf : f_X5_owen n bey un G a1 a2 a3 = some res) : kMet l yX5_owen wsX5_owen { frames := 4, cells := 0, slots := 0, locals := 98 } D vwCl (xT cs) (xN tF) (xA q) [.ref (q 0), .int a1, .int a2, .int a3] (xW q cs n nd es kn knd kes img tl ta tn sl bey wt un ed kwt kun ked tb sb sz sbs G K P wk wh) (some (.long res.1)) (xW q cs n nd es kn knd kes img tl ta tn sl res.2 wt un ed kwt kun ked tb sb sz sbs G K P wk wh) := by
  have iX0 : ∀ w ∈ wsX00, w ∈ wsX5_owen := fun _ h => List.mem_cons_of_mem _ (List.mem_append_left _ (List.mem_append_right _ h))
  have iX1 : ∀ w ∈ wsX10, w ∈ wsX5_owen := fun _ h => List.mem_cons_of_mem _ (List.mem_append_right _ h)
  have iX5 : ∀ w ∈ wsX50, w ∈ wsX5_owen := fun _ h => List.mem_cons_of_mem _ (List.mem_append_left _ (List.mem_append_left _ (List.mem_append_right _ h)))
  refine kMet.of (cc := cX5_owen) (nL := 8) (ret := (some .long)) (own := RX5) (lv := [(0, .ref (q 0)), (1, .int a1), (2, .int a2), (3, .int a3)]) (by decide +kernel) rfl rfl xN_ok hq (Nat.le_of_ble_eq_true rfl) rfl (fun X C => ?_)
  refine VF.of hf ?_
  unfold f_X5_owen
  refine v_iload_n C 1 dX5_owen_0 rfl ?_
  refine v_callSP1v C (fun l9 r9 h9 => k_X5_isGame (l := l9) h9) gX5_owen_X5_isGame rfl nI_X5_isGame ⟨rfl, rfl, Nat.le_of_ble_eq_true rfl, Nat.le_of_ble_eq_true rfl⟩ dX5_owen_1 (Nat.le_of_ble_eq_true rfl) (fun r1 => ?_)
  refine v_ifb_eq C (b := r1) dX5_owen_4 (tgt := 25) (by decide) ?_ ?_
  · refine v_ldc2 C (v := (-9223372036854775808)) (List.mem_of_getElem? (i := 2) rfl) dX5_owen_25 ?_
    exact v_lret (rvf := fun (res : Int64 × Bool) => (some (.long res.1))) (wf := fun (res : Int64 × Bool) => (xW q cs n nd es kn knd kes img tl ta tn sl res.2 wt un ed kwt kun ked tb sb sz sbs G K P wk wh)) C dX5_owen_28 rfl rfl
  · refine v_aload_n C 0 dX5_owen_7 rfl ?_
    refine v_get C (T := TX5) (n := 10) (C9 := RX5) iX5 0 rfl rfl 0 (by decide) (List.mem_of_getElem? (i := 1) rfl) rfl rfl dX5_owen_8 ?_
    refine v_iload_n C 2 dX5_owen_11 rfl ?_
    refine v_callV1v C 1 rfl rfl rfl (fun l9 r9 h9 => k_X0_hasPartner (l := l9) hq  h9) gX5_owen_X0_hasPartner rfl nI_X0_hasPartner ⟨rfl, rfl, Nat.le_of_ble_eq_true rfl, Nat.le_of_ble_eq_true rfl⟩ dX5_owen_12 (Nat.le_of_ble_eq_true rfl) (fun r2 => ?_)
    refine v_ifb_eq C (b := r2) dX5_owen_15 (tgt := 25) (by decide) ?_ ?_
    · refine v_ldc2 C (v := (-9223372036854775808)) (List.mem_of_getElem? (i := 2) rfl) dX5_owen_25 ?_
      exact v_lret (rvf := fun (res : Int64 × Bool) => (some (.long res.1))) (wf := fun (res : Int64 × Bool) => (xW q cs n nd es kn knd kes img tl ta tn sl res.2 wt un ed kwt kun ked tb sb sz sbs G K P wk wh)) C dX5_owen_28 rfl rfl
    · refine v_iload_n C 3 dX5_owen_18 rfl ?_
      refine v_callSP1v C (fun l9 r9 h9 => k_X5_isPart (l := l9) h9) gX5_owen_X5_isPart rfl nI_X5_isPart ⟨rfl, rfl, Nat.le_of_ble_eq_true rfl, Nat.le_of_ble_eq_true rfl⟩ dX5_owen_19 (Nat.le_of_ble_eq_true rfl) (fun r3 => ?_)
      refine v_ifb_ne C (b := r3) dX5_owen_22 (tgt := 29) (by decide) ?_ ?_
      · refine v_aload_n C 0 dX5_owen_29 rfl ?_
        refine v_get C (T := TX5) (n := 10) (C9 := RX5) iX5 0 rfl rfl 6 (by decide) (List.mem_of_getElem? (i := 3) rfl) rfl rfl dX5_owen_30 ?_
        refine v_callV0n C 6 rfl rfl rfl (fun l9 r9 h9 => k_X1_begin (l := l9) hq  h9) gX5_owen_X1_begin rfl nI_X1_begin ⟨rfl, rfl, Nat.le_of_ble_eq_true rfl, Nat.le_of_ble_eq_true rfl⟩ dX5_owen_33 (Nat.le_of_ble_eq_true rfl) (fun r4 => ?_)
        refine v_aload_n C 0 dX5_owen_36 rfl ?_
        refine v_aload_n C 0 dX5_owen_37 rfl ?_
        refine v_get C (T := TX5) (n := 10) (C9 := RX5) iX5 0 rfl rfl 0 (by decide) (List.mem_of_getElem? (i := 1) rfl) rfl rfl dX5_owen_38 ?_
        refine v_get C (T := TX0) (n := 7) (C9 := RX0) iX0 1 rfl rfl 6 (by decide) (List.mem_of_getElem? (i := 4) rfl) rfl rfl dX5_owen_41 ?_
        refine v_iload_n C 1 dX5_owen_44 rfl ?_
        refine v_aalda C (ad := fun j9 => q (22 + j9)) 10 3 rfl rfl (fun _ h9 => if_pos h9) dX5_owen_45 (fun hb5 => ?_)
        have hj5 := inb_lt hb5
        refine v_iload_n C 2 dX5_owen_46 rfl ?_
        refine v_callV2v C 0 rfl rfl rfl (fun l9 r9 h9 => k_X5_owenAbove (l := l9) hq hj5 h9) gX5_owen_X5_owenAbove rfl nI_X5_owenAbove ⟨rfl, rfl, Nat.le_of_ble_eq_true rfl, Nat.le_of_ble_eq_true rfl⟩ dX5_owen_47 (Nat.le_of_ble_eq_true rfl) (fun r6 => ?_)
        refine v_lstore C (lv' := [(4, .long r6.1), (0, .ref (q 0)), (1, .int a1), (2, .int a2), (3, .int a3)]) dX5_owen_50 (by decide) rfl ?_
        refine v_aload_n C 1 dX5_owen_52 rfl ?_
        refine v_get C (T := TX5) (n := 10) (C9 := RX5) iX5 0 rfl rfl 0 (by decide) (List.mem_of_getElem? (i := 1) rfl) rfl rfl dX5_owen_53 ?_
        refine v_get C (T := TX0) (n := 7) (C9 := RX0) iX0 1 rfl rfl 4 (by decide) (List.mem_of_getElem? (i := 5) rfl) rfl rfl dX5_owen_56 ?_
        refine v_iload_n C 3 dX5_owen_59 rfl ?_
        refine v_iald C 8 0 rfl rfl dX5_owen_60 ?_
        refine v_callSP1v C (fun l9 r9 h9 => k_J6_bitCount_0f7a4 (l := l9) h9) gX5_owen_J6_bitCount_0f7a4 rfl nI_J6_bitCount_0f7a4 ⟨rfl, rfl, Nat.le_of_ble_eq_true rfl, Nat.le_of_ble_eq_true rfl⟩ dX5_owen_61 (Nat.le_of_ble_eq_true rfl) (fun r7 => ?_)
        refine v_istore C (lv' := [(6, .int r7), (4, .long r6.1), (0, .ref (q 0)), (1, .int a1), (2, .int a2), (3, .int a3)]) dX5_owen_64 (by decide) rfl ?_
        refine v_aload_n C 2 dX5_owen_66 rfl ?_
        refine v_get C (T := TX5) (n := 10) (C9 := RX5) iX5 0 rfl rfl 0 (by decide) (List.mem_of_getElem? (i := 1) rfl) rfl rfl dX5_owen_67 ?_
        refine v_callV0v C 1 rfl rfl rfl (fun l9 r9 h9 => k_X0_countUnions (l := l9) hq  h9) gX5_owen_X0_countUnions rfl nI_X0_countUnions ⟨rfl, rfl, Nat.le_of_ble_eq_true rfl, Nat.le_of_ble_eq_true rfl⟩ dX5_owen_70 (Nat.le_of_ble_eq_true rfl) (fun r8 => ?_)
        refine v_callS1v C (fun l9 r9 h9 => k_X5_factorial (l := l9) hq  h9) gX5_owen_X5_factorial rfl nI_X5_factorial ⟨rfl, rfl, Nat.le_of_ble_eq_true rfl, Nat.le_of_ble_eq_true rfl⟩ dX5_owen_73 (Nat.le_of_ble_eq_true rfl) (fun r9 => ?_)
        refine v_iload C 0 dX5_owen_76 rfl ?_
        refine v_callS1v C (fun l9 r9 h9 => k_X5_factorial (l := l9) hq  h9) gX5_owen_X5_factorial rfl nI_X5_factorial ⟨rfl, rfl, Nat.le_of_ble_eq_true rfl, Nat.le_of_ble_eq_true rfl⟩ dX5_owen_78 (Nat.le_of_ble_eq_true rfl) (fun r10 => ?_)
        refine v_imul C dX5_owen_81 ?_
        refine v_istore_nm C (lvf := fun x11 => [(7, .int x11), (6, .int r7), (4, .long r6.1), (0, .ref (q 0)), (1, .int a1), (2, .int a2), (3, .int a3)]) dX5_owen_82 (by decide) (fun _ => rfl) (fun x11 => ?_)
        refine v_aload_n C 3 dX5_owen_84 rfl ?_
        refine v_get C (T := TX5) (n := 10) (C9 := RX5) iX5 0 rfl rfl 6 (by decide) (List.mem_of_getElem? (i := 3) rfl) rfl rfl dX5_owen_85 ?_
        refine v_get C (T := TX1) (n := 1) (C9 := RX1) iX1 6 rfl rfl 0 (by decide) (List.mem_of_getElem? (i := 6) rfl) rfl rfl dX5_owen_88 ?_
        refine v_ifb_eq C (b := r6.2) dX5_owen_91 (tgt := 100) (by decide) ?_ ?_
        · refine v_lload C 2 dX5_owen_100 rfl ?_
          refine v_iload C 0 dX5_owen_102 rfl ?_
          refine v_i2l C dX5_owen_104 ?_
          refine v_iload_n C 6 dX5_owen_105 rfl ?_
          refine v_callSP3v C (fun l9 r9 h9 => k_X5_lowest (l := l9) h9) gX5_owen_X5_lowest rfl nI_X5_lowest ⟨rfl, rfl, Nat.le_of_ble_eq_true rfl, Nat.le_of_ble_eq_true rfl⟩ dX5_owen_106 (Nat.le_of_ble_eq_true rfl) (fun r12 => ?_)
          exact v_lret (rvf := fun (res : Int64 × Bool) => (some (.long res.1))) (wf := fun (res : Int64 × Bool) => (xW q cs n nd es kn knd kes img tl ta tn sl res.2 wt un ed kwt kun ked tb sb sz sbs G K P wk wh)) C dX5_owen_109 rfl rfl
        · refine v_ldc2 C (v := (-9223372036854775808)) (List.mem_of_getElem? (i := 2) rfl) dX5_owen_94 ?_
          refine v_goto C dX5_owen_97 (tgt := 109) (by decide) ?_
          exact v_lret (rvf := fun (res : Int64 × Bool) => (some (.long res.1))) (wf := fun (res : Int64 × Bool) => (xW q cs n nd es kn knd kes img tl ta tn sl res.2 wt un ed kwt kun ked tb sb sz sbs G K P wk wh)) C dX5_owen_109 rfl rfl
      · refine v_ldc2 C (v := (-9223372036854775808)) (List.mem_of_getElem? (i := 2) rfl) dX5_owen_25 ?_
        exact v_lret (rvf := fun (res : Int64 × Bool) => (some (.long res.1))) (wf := fun (res : Int64 × Bool) => (xW q cs n nd es kn knd kes img tl ta tn sl res.2 wt un ed kwt kun ked tb sb sz sbs G K P wk wh)) C dX5_owen_28 rfl rfl

def B_X5_lessItsDividends_1 (wk : Nat → Int64) (a2 : Int32) (rec1 : Int64 → Int32 → Int32 → Bool → Option (Int64 × Bool))  (v2 : Int64) (v3 : Int32) (v4 : Int32) (bey5 : Bool) : Option (Int64 × Bool) :=
(f_J6_bitCount_0f7a4 a2).bind (fun (r6 : Int32) =>
if (v4 : Int32) < ((1 <<< (r6 &&& 31)) - 1) then (
(f_X5_nextWithin v3 a2).bind (fun (r7 : Int32) =>
ck (inb r7 512) (
(f_X1_less bey5 v2 (wk r7.toNatClampNeg)).bind (fun (r8 : Int64 × Bool) =>
nm (v4 + 1) (fun (x9 : Int32) =>
rec1 r8.1 r7 x9 r8.2))))) else (
some (v2, bey5)))
def L_X5_lessItsDividends_1 (wk : Nat → Int64) (a2 : Int32)  : Nat → Int64 → Int32 → Int32 → Bool → Option (Int64 × Bool)
  | 0, _, _, _, _ => none
  | m9 + 1, v2, v3, v4, bey5 => B_X5_lessItsDividends_1 wk a2 (L_X5_lessItsDividends_1 wk a2 m9)  v2 v3 v4 bey5

def f_X5_lessItsDividends (bey : Bool) (wk : Nat → Int64) (a1 : Int64) (a2 : Int32) : Option (Int64 × Bool) :=
L_X5_lessItsDividends_1 wk a2  FU a1 0 1 bey

theorem nI_X5_lessItsDividends : NameIn yX5_lessItsDividends 2 := ⟨by decide +kernel, by decide +kernel, by decide +kernel⟩
set_option maxRecDepth 100000 in
set_option maxHeartbeats 4000000 in
theorem lp_X5_lessItsDividends_1 {X : CX} {res : Int64 × Bool} {a2 : Int32}   (hq : (xA q).Nodup) (C : Ok X cX5_lessItsDividends 8 (some .long) wsX5_lessItsDividends RX5 { frames := 1, cells := 0, slots := 0, locals := 26 } D vwCl (xT cs) (xA q) (xN tF) (some (.long res.1)) (xW q cs n nd es kn knd kes img tl ta tn sl res.2 wt un ed kwt kun ked tb sb sz sbs G K P wk wh))  : ∀ fuel : Nat, ∀ v2 : Int64, ∀ v3 : Int32, ∀ v4 : Int32, ∀ bey5 : Bool, VF X res (L_X5_lessItsDividends_1 wk a2 fuel v2 v3 v4 bey5) (xW q cs n nd es kn knd kes img tl ta tn sl bey5 wt un ed kwt kun ked tb sb sz sbs G K P wk wh) 9 [(0, .ref (q 0)), (3, .int a2), (4, .long v2), (6, .int v3), (7, .int v4)] [] := by
  have iX5 : ∀ w ∈ wsX50, w ∈ wsX5_lessItsDividends := fun _ h => List.mem_cons_of_mem _ (List.mem_append_left _ (List.mem_append_right _ h))
  intro fuel
  induction fuel with
  | zero =>
    intro _ _ _ _
    exact v_none
  | succ fuel ih =>
    intro v2 v3 v4 bey5
    show VF X res (B_X5_lessItsDividends_1 wk a2 (L_X5_lessItsDividends_1 wk a2 fuel)  v2 v3 v4 bey5) _ _ _ _
    unfold B_X5_lessItsDividends_1
    refine v_iload C 4 dX5_lessItsDividends_9 rfl ?_
    refine v_iconst C dX5_lessItsDividends_11 (v := 1) (by decide) ?_
    refine v_iload_n C 1 dX5_lessItsDividends_12 rfl ?_
    refine v_callSP1v C (fun l9 r9 h9 => k_J6_bitCount_0f7a4 (l := l9) h9) gX5_lessItsDividends_J6_bitCount_0f7a4 rfl nI_J6_bitCount_0f7a4 ⟨rfl, rfl, Nat.le_of_ble_eq_true rfl, Nat.le_of_ble_eq_true rfl⟩ dX5_lessItsDividends_13 (Nat.le_of_ble_eq_true rfl) (fun r6 => ?_)
    refine v_ishl C dX5_lessItsDividends_16 ?_
    refine v_iconst C dX5_lessItsDividends_17 (v := 1) (by decide) ?_
    refine v_isub C dX5_lessItsDividends_18 ?_
    refine v_icmp_ge C dX5_lessItsDividends_19 (tgt := 54) (by decide) ?_ ?_
    · refine v_lload C 2 dX5_lessItsDividends_54 rfl ?_
      exact v_lret (rvf := fun (res : Int64 × Bool) => (some (.long res.1))) (wf := fun (res : Int64 × Bool) => (xW q cs n nd es kn knd kes img tl ta tn sl res.2 wt un ed kwt kun ked tb sb sz sbs G K P wk wh)) C dX5_lessItsDividends_56 rfl rfl
    · refine v_iload C 3 dX5_lessItsDividends_22 rfl ?_
      refine v_iload_n C 1 dX5_lessItsDividends_24 rfl ?_
      refine v_callSP2v C (fun l9 r9 h9 => k_X5_nextWithin (l := l9) h9) gX5_lessItsDividends_X5_nextWithin rfl nI_X5_nextWithin ⟨rfl, rfl, Nat.le_of_ble_eq_true rfl, Nat.le_of_ble_eq_true rfl⟩ dX5_lessItsDividends_25 (Nat.le_of_ble_eq_true rfl) (fun r7 => ?_)
      refine v_istore C (lv' := [(6, .int r7), (0, .ref (q 0)), (3, .int a2), (4, .long v2), (7, .int v4)]) dX5_lessItsDividends_28 (by decide) rfl ?_
      refine v_aload_n C 1 dX5_lessItsDividends_30 rfl ?_
      refine v_get C (T := TX5) (n := 10) (C9 := RX5) iX5 0 rfl rfl 6 (by decide) (List.mem_of_getElem? (i := 1) rfl) rfl rfl dX5_lessItsDividends_31 ?_
      refine v_lload C 3 dX5_lessItsDividends_34 rfl ?_
      refine v_aload_n C 1 dX5_lessItsDividends_36 rfl ?_
      refine v_get C (T := TX5) (n := 10) (C9 := RX5) iX5 0 rfl rfl 7 (by decide) (List.mem_of_getElem? (i := 2) rfl) rfl rfl dX5_lessItsDividends_37 ?_
      refine v_iload C 0 dX5_lessItsDividends_40 rfl ?_
      refine v_lald C 19 1 rfl rfl dX5_lessItsDividends_42 ?_
      refine v_callV2v C 6 rfl rfl rfl (fun l9 r9 h9 => k_X1_less (l := l9) hq  h9) gX5_lessItsDividends_X1_less rfl nI_X1_less ⟨rfl, rfl, Nat.le_of_ble_eq_true rfl, Nat.le_of_ble_eq_true rfl⟩ dX5_lessItsDividends_43 (Nat.le_of_ble_eq_true rfl) (fun r8 => ?_)
      refine v_lstore C (lv' := [(4, .long r8.1), (6, .int r7), (0, .ref (q 0)), (3, .int a2), (7, .int v4)]) dX5_lessItsDividends_46 (by decide) rfl ?_
      refine v_iinc_nm C (lvf := fun x9 => [(7, .int x9), (4, .long r8.1), (6, .int r7), (0, .ref (q 0)), (3, .int a2)]) 4 dX5_lessItsDividends_48 rfl rfl (by decide) (fun _ => rfl) (fun x9 => ?_)
      refine v_goto C dX5_lessItsDividends_51 (tgt := 9) (by decide) ?_
      exact v_sub [3, 4, 1, 2, 0] rfl (ih r8.1 r7 x9 r8.2)

set_option maxRecDepth 100000 in
set_option maxHeartbeats 4000000 in
theorem k_X5_lessItsDividends {l : Launch} {a1 : Int64} {a2 : Int32}  {res : Int64 × Bool} (hq : (xA q).Nodup)  (hf : f_X5_lessItsDividends bey wk a1 a2 = some res) : kMet l yX5_lessItsDividends wsX5_lessItsDividends { frames := 1, cells := 0, slots := 0, locals := 26 } D vwCl (xT cs) (xN tF) (xA q) [.ref (q 0), .long a1, .int a2] (xW q cs n nd es kn knd kes img tl ta tn sl bey wt un ed kwt kun ked tb sb sz sbs G K P wk wh) (some (.long res.1)) (xW q cs n nd es kn knd kes img tl ta tn sl res.2 wt un ed kwt kun ked tb sb sz sbs G K P wk wh) := by
  refine kMet.of (cc := cX5_lessItsDividends) (nL := 8) (ret := (some .long)) (own := RX5) (lv := [(0, .ref (q 0)), (1, .long a1), (3, .int a2)]) (by decide +kernel) rfl rfl xN_ok hq (Nat.le_of_ble_eq_true rfl) rfl (fun X C => ?_)
  refine VF.of hf ?_
  unfold f_X5_lessItsDividends
  refine v_lload_n C 1 dX5_lessItsDividends_0 rfl ?_
  refine v_lstore C (lv' := [(4, .long a1), (0, .ref (q 0)), (1, .long a1), (3, .int a2)]) dX5_lessItsDividends_1 (by decide) rfl ?_
  refine v_iconst C dX5_lessItsDividends_3 (v := 0) (by decide) ?_
  refine v_istore C (lv' := [(6, .int 0), (4, .long a1), (0, .ref (q 0)), (1, .long a1), (3, .int a2)]) dX5_lessItsDividends_4 (by decide) rfl ?_
  refine v_iconst C dX5_lessItsDividends_6 (v := 1) (by decide) ?_
  refine v_istore C (lv' := [(7, .int 1), (6, .int 0), (4, .long a1), (0, .ref (q 0)), (1, .long a1), (3, .int a2)]) dX5_lessItsDividends_7 (by decide) rfl ?_
  refine v_sub [3, 5, 2, 1, 0] rfl (lp_X5_lessItsDividends_1 hq C   FU a1 0 1 bey)

def B_X5_dividend_1 (G : Nat → Nat → Int64) (a1 : Int32) (a2 : Int32) (rec5 : Int32 → Int32 → Bool → (Nat → Int64) → Option (Int64 × Bool × (Nat → Int64))) (kx6 : Bool → (Nat → Int64) → Option (Int64 × Bool × (Nat → Int64))) (v7 : Int32) (v8 : Int32) (bey9 : Bool) (wk10 : Nat → Int64) : Option (Int64 × Bool × (Nat → Int64)) :=
(f_J6_bitCount_0f7a4 a2).bind (fun (r11 : Int32) =>
if (v8 : Int32) < (1 <<< (r11 &&& 31)) then (
(f_X5_nextWithin v7 a2).bind (fun (r12 : Int32) =>
ck (inb a1 4) (
ck (inb r12 512) (
(f_X5_lessItsDividends bey9 wk10 ((G a1.toNatClampNeg) r12.toNatClampNeg) r12).bind (fun (r14 : Int64 × Bool) =>
ck (inb r12 512) (
nm (vp_updL wk10 r12.toNatClampNeg r14.1) (fun (wk15 : Nat → Int64) =>
nm (v8 + 1) (fun (x16 : Int32) =>
rec5 r12 x16 r14.2 wk15)))))))) else (
kx6 bey9 wk10))
def L_X5_dividend_1 (G : Nat → Nat → Int64) (a1 : Int32) (a2 : Int32) (kx6 : Bool → (Nat → Int64) → Option (Int64 × Bool × (Nat → Int64))) : Nat → Int32 → Int32 → Bool → (Nat → Int64) → Option (Int64 × Bool × (Nat → Int64))
  | 0, _, _, _, _ => none
  | m9 + 1, v7, v8, bey9, wk10 => B_X5_dividend_1 G a1 a2 (L_X5_dividend_1 G a1 a2 kx6 m9) kx6 v7 v8 bey9 wk10

def f_X5_dividend (n : Int32) (bey : Bool) (G : Nat → Nat → Int64) (wk : Nat → Int64) (a1 : Int32) (a2 : Int32) : Option (Int64 × Bool × (Nat → Int64)) :=
(f_X5_isGame a1).bind (fun (r1 : Bool) =>
if r1 = true then (
(f_X0_hasSet n a2).bind (fun (r2 : Bool) =>
if r2 = true then (
(f_X1_begin bey).bind (fun (r3 : Bool) =>
ck (inb (0 : Int32) 512) (
nm (vp_updL wk (0 : Int32).toNatClampNeg 0) (fun (wk4 : Nat → Int64) =>
L_X5_dividend_1 G a1 a2 (fun (bey17 : Bool) (wk18 : Nat → Int64) =>
if bey17 = true then (
some ((-9223372036854775808), bey17, wk18)) else (
ck (inb a2 512) (
some (wk18 a2.toNatClampNeg, bey17, wk18)))) FU 0 1 r3 wk4)))) else (
some ((-9223372036854775808), bey, wk)))) else (
some ((-9223372036854775808), bey, wk)))

theorem nI_X5_dividend : NameIn yX5_dividend 2 := ⟨by decide +kernel, by decide +kernel, by decide +kernel⟩
set_option maxRecDepth 100000 in
set_option maxHeartbeats 4000000 in
theorem lp_X5_dividend_1 {X : CX} {res : Int64 × Bool × (Nat → Int64)} {a1 : Int32} {a2 : Int32}   (hq : (xA q).Nodup) (C : Ok X cX5_dividend 5 (some .long) wsX5_dividend RX5 { frames := 2, cells := 0, slots := 0, locals := 53 } D vwCl (xT cs) (xA q) (xN tF) (some (.long res.1)) (xW q cs n nd es kn knd kes img tl ta tn sl res.2.1 wt un ed kwt kun ked tb sb sz sbs G K P res.2.2 wh))  (kx6 : Bool → (Nat → Int64) → Option (Int64 × Bool × (Nat → Int64))) (Jkx6 : ∀ beyZz : Bool, ∀ wkZz : Nat → Int64, VF X res (kx6 beyZz wkZz) (xW q cs n nd es kn knd kes img tl ta tn sl beyZz wt un ed kwt kun ked tb sb sz sbs G K P wkZz wh) 86 [(0, .ref (q 0)), (2, .int a2)] []) : ∀ fuel : Nat, ∀ v7 : Int32, ∀ v8 : Int32, ∀ bey9 : Bool, ∀ wk10 : Nat → Int64, VF X res (L_X5_dividend_1 G a1 a2 kx6 fuel v7 v8 bey9 wk10) (xW q cs n nd es kn knd kes img tl ta tn sl bey9 wt un ed kwt kun ked tb sb sz sbs G K P wk10 wh) 41 [(0, .ref (q 0)), (1, .int a1), (2, .int a2), (3, .int v7), (4, .int v8)] [] := by
  have iX0 : ∀ w ∈ wsX00, w ∈ wsX5_dividend := fun _ h => List.mem_cons_of_mem _ (List.mem_append_left _ (List.mem_append_right _ h))
  have iX5 : ∀ w ∈ wsX50, w ∈ wsX5_dividend := fun _ h => List.mem_cons_of_mem _ (List.mem_append_left _ (List.mem_append_left _ (List.mem_append_right _ h)))
  intro fuel
  induction fuel with
  | zero =>
    intro _ _ _ _
    exact v_none
  | succ fuel ih =>
    intro v7 v8 bey9 wk10
    show VF X res (B_X5_dividend_1 G a1 a2 (L_X5_dividend_1 G a1 a2 kx6 fuel) kx6 v7 v8 bey9 wk10) _ _ _ _
    unfold B_X5_dividend_1
    refine v_iload C 4 dX5_dividend_41 rfl ?_
    refine v_iconst C dX5_dividend_43 (v := 1) (by decide) ?_
    refine v_iload_n C 2 dX5_dividend_44 rfl ?_
    refine v_callSP1v C (fun l9 r9 h9 => k_J6_bitCount_0f7a4 (l := l9) h9) gX5_dividend_J6_bitCount_0f7a4 rfl nI_J6_bitCount_0f7a4 ⟨rfl, rfl, Nat.le_of_ble_eq_true rfl, Nat.le_of_ble_eq_true rfl⟩ dX5_dividend_45 (Nat.le_of_ble_eq_true rfl) (fun r11 => ?_)
    refine v_ishl C dX5_dividend_48 ?_
    refine v_icmp_ge C dX5_dividend_49 (tgt := 86) (by decide) ?_ ?_
    · exact v_sub [0, 2] rfl (Jkx6 bey9 wk10)
    · refine v_iload_n C 3 dX5_dividend_52 rfl ?_
      refine v_iload_n C 2 dX5_dividend_53 rfl ?_
      refine v_callSP2v C (fun l9 r9 h9 => k_X5_nextWithin (l := l9) h9) gX5_dividend_X5_nextWithin rfl nI_X5_nextWithin ⟨rfl, rfl, Nat.le_of_ble_eq_true rfl, Nat.le_of_ble_eq_true rfl⟩ dX5_dividend_54 (Nat.le_of_ble_eq_true rfl) (fun r12 => ?_)
      refine v_istore_n C (lv' := [(3, .int r12), (0, .ref (q 0)), (1, .int a1), (2, .int a2), (4, .int v8)]) dX5_dividend_57 rfl (by decide) rfl ?_
      refine v_aload_n C 1 dX5_dividend_58 rfl ?_
      refine v_get C (T := TX5) (n := 10) (C9 := RX5) iX5 0 rfl rfl 7 (by decide) (List.mem_of_getElem? (i := 4) rfl) rfl rfl dX5_dividend_59 ?_
      refine v_iload_n C 0 dX5_dividend_62 rfl ?_
      refine v_aload_n C 1 dX5_dividend_63 rfl ?_
      refine v_aload_n C 1 dX5_dividend_64 rfl ?_
      refine v_get C (T := TX5) (n := 10) (C9 := RX5) iX5 0 rfl rfl 0 (by decide) (List.mem_of_getElem? (i := 1) rfl) rfl rfl dX5_dividend_65 ?_
      refine v_get C (T := TX0) (n := 7) (C9 := RX0) iX0 1 rfl rfl 6 (by decide) (List.mem_of_getElem? (i := 5) rfl) rfl rfl dX5_dividend_68 ?_
      refine v_iload_n C 2 dX5_dividend_71 rfl ?_
      refine v_aalda C (ad := fun j9 => q (22 + j9)) 10 3 rfl rfl (fun _ h9 => if_pos h9) dX5_dividend_72 (fun hb13 => ?_)
      have hj13 := inb_lt hb13
      refine v_iload_n C 0 dX5_dividend_73 rfl ?_
      refine v_lald C (22 + a1.toNatClampNeg) 1 (xW_G hj13) rfl dX5_dividend_74 ?_
      refine v_iload_n C 0 dX5_dividend_75 rfl ?_
      refine v_callV2v C 0 rfl rfl rfl (fun l9 r9 h9 => k_X5_lessItsDividends (l := l9) hq  h9) gX5_dividend_X5_lessItsDividends rfl nI_X5_lessItsDividends ⟨rfl, rfl, Nat.le_of_ble_eq_true rfl, Nat.le_of_ble_eq_true rfl⟩ dX5_dividend_76 (Nat.le_of_ble_eq_true rfl) (fun r14 => ?_)
      refine v_last_nm C (fun wk15 => (xW q cs n nd es kn knd kes img tl ta tn sl r14.2 wt un ed kwt kun ked tb sb sz sbs G K P wk15 wh)) 19 1 rfl rfl rfl (fun _ => rfl) dX5_dividend_79 (fun wk15 => ?_)
      refine v_iinc_nm C (lvf := fun x16 => [(4, .int x16), (3, .int r12), (0, .ref (q 0)), (1, .int a1), (2, .int a2)]) 4 dX5_dividend_80 rfl rfl (by decide) (fun _ => rfl) (fun x16 => ?_)
      refine v_goto C dX5_dividend_83 (tgt := 41) (by decide) ?_
      exact v_sub [2, 3, 4, 1, 0] rfl (ih r12 x16 r14.2 wk15)

set_option maxRecDepth 100000 in
set_option maxHeartbeats 4000000 in
theorem k_X5_dividend {l : Launch} {a1 : Int32} {a2 : Int32}  {res : Int64 × Bool × (Nat → Int64)} (hq : (xA q).Nodup)  (hf : f_X5_dividend n bey G wk a1 a2 = some res) : kMet l yX5_dividend wsX5_dividend { frames := 2, cells := 0, slots := 0, locals := 53 } D vwCl (xT cs) (xN tF) (xA q) [.ref (q 0), .int a1, .int a2] (xW q cs n nd es kn knd kes img tl ta tn sl bey wt un ed kwt kun ked tb sb sz sbs G K P wk wh) (some (.long res.1)) (xW q cs n nd es kn knd kes img tl ta tn sl res.2.1 wt un ed kwt kun ked tb sb sz sbs G K P res.2.2 wh) := by
  have iX1 : ∀ w ∈ wsX10, w ∈ wsX5_dividend := fun _ h => List.mem_cons_of_mem _ (List.mem_append_right _ h)
  have iX5 : ∀ w ∈ wsX50, w ∈ wsX5_dividend := fun _ h => List.mem_cons_of_mem _ (List.mem_append_left _ (List.mem_append_left _ (List.mem_append_right _ h)))
  refine kMet.of (cc := cX5_dividend) (nL := 5) (ret := (some .long)) (own := RX5) (lv := [(0, .ref (q 0)), (1, .int a1), (2, .int a2)]) (by decide +kernel) rfl rfl xN_ok hq (Nat.le_of_ble_eq_true rfl) rfl (fun X C => ?_)
  refine VF.of hf ?_
  unfold f_X5_dividend
  refine v_iload_n C 1 dX5_dividend_0 rfl ?_
  refine v_callSP1v C (fun l9 r9 h9 => k_X5_isGame (l := l9) h9) gX5_dividend_X5_isGame rfl nI_X5_isGame ⟨rfl, rfl, Nat.le_of_ble_eq_true rfl, Nat.le_of_ble_eq_true rfl⟩ dX5_dividend_1 (Nat.le_of_ble_eq_true rfl) (fun r1 => ?_)
  refine v_ifb_eq C (b := r1) dX5_dividend_4 (tgt := 18) (by decide) ?_ ?_
  · refine v_ldc2 C (v := (-9223372036854775808)) (List.mem_of_getElem? (i := 2) rfl) dX5_dividend_18 ?_
    exact v_lret (rvf := fun (res : Int64 × Bool × (Nat → Int64)) => (some (.long res.1))) (wf := fun (res : Int64 × Bool × (Nat → Int64)) => (xW q cs n nd es kn knd kes img tl ta tn sl res.2.1 wt un ed kwt kun ked tb sb sz sbs G K P res.2.2 wh)) C dX5_dividend_21 rfl rfl
  · refine v_aload_n C 0 dX5_dividend_7 rfl ?_
    refine v_get C (T := TX5) (n := 10) (C9 := RX5) iX5 0 rfl rfl 0 (by decide) (List.mem_of_getElem? (i := 1) rfl) rfl rfl dX5_dividend_8 ?_
    refine v_iload_n C 2 dX5_dividend_11 rfl ?_
    refine v_callV1v C 1 rfl rfl rfl (fun l9 r9 h9 => k_X0_hasSet (l := l9) hq  h9) gX5_dividend_X0_hasSet rfl nI_X0_hasSet ⟨rfl, rfl, Nat.le_of_ble_eq_true rfl, Nat.le_of_ble_eq_true rfl⟩ dX5_dividend_12 (Nat.le_of_ble_eq_true rfl) (fun r2 => ?_)
    refine v_ifb_ne C (b := r2) dX5_dividend_15 (tgt := 22) (by decide) ?_ ?_
    · refine v_aload_n C 0 dX5_dividend_22 rfl ?_
      refine v_get C (T := TX5) (n := 10) (C9 := RX5) iX5 0 rfl rfl 6 (by decide) (List.mem_of_getElem? (i := 3) rfl) rfl rfl dX5_dividend_23 ?_
      refine v_callV0n C 6 rfl rfl rfl (fun l9 r9 h9 => k_X1_begin (l := l9) hq  h9) gX5_dividend_X1_begin rfl nI_X1_begin ⟨rfl, rfl, Nat.le_of_ble_eq_true rfl, Nat.le_of_ble_eq_true rfl⟩ dX5_dividend_26 (Nat.le_of_ble_eq_true rfl) (fun r3 => ?_)
      refine v_aload_n C 0 dX5_dividend_29 rfl ?_
      refine v_get C (T := TX5) (n := 10) (C9 := RX5) iX5 0 rfl rfl 7 (by decide) (List.mem_of_getElem? (i := 4) rfl) rfl rfl dX5_dividend_30 ?_
      refine v_iconst C dX5_dividend_33 (v := 0) (by decide) ?_
      refine v_lconst C dX5_dividend_34 (v := 0) (by decide) ?_
      refine v_last_nm C (fun wk4 => (xW q cs n nd es kn knd kes img tl ta tn sl r3 wt un ed kwt kun ked tb sb sz sbs G K P wk4 wh)) 19 1 rfl rfl rfl (fun _ => rfl) dX5_dividend_35 (fun wk4 => ?_)
      refine v_iconst C dX5_dividend_36 (v := 0) (by decide) ?_
      refine v_istore_n C (lv' := [(3, .int 0), (0, .ref (q 0)), (1, .int a1), (2, .int a2)]) dX5_dividend_37 rfl (by decide) rfl ?_
      refine v_iconst C dX5_dividend_38 (v := 1) (by decide) ?_
      refine v_istore C (lv' := [(4, .int 1), (3, .int 0), (0, .ref (q 0)), (1, .int a1), (2, .int a2)]) dX5_dividend_39 (by decide) rfl ?_
      refine v_sub [2, 3, 4, 1, 0] rfl (lp_X5_dividend_1 hq C  _ (fun bey17 wk18 => ?_) FU 0 1 r3 wk4)
      refine v_aload_n C 0 dX5_dividend_86 rfl ?_
      refine v_get C (T := TX5) (n := 10) (C9 := RX5) iX5 0 rfl rfl 6 (by decide) (List.mem_of_getElem? (i := 3) rfl) rfl rfl dX5_dividend_87 ?_
      refine v_get C (T := TX1) (n := 1) (C9 := RX1) iX1 6 rfl rfl 0 (by decide) (List.mem_of_getElem? (i := 6) rfl) rfl rfl dX5_dividend_90 ?_
      refine v_ifb_eq C (b := bey17) dX5_dividend_93 (tgt := 102) (by decide) ?_ ?_
      · refine v_aload_n C 0 dX5_dividend_102 rfl ?_
        refine v_get C (T := TX5) (n := 10) (C9 := RX5) iX5 0 rfl rfl 7 (by decide) (List.mem_of_getElem? (i := 4) rfl) rfl rfl dX5_dividend_103 ?_
        refine v_iload_n C 1 dX5_dividend_106 rfl ?_
        refine v_lald C 19 1 rfl rfl dX5_dividend_107 ?_
        exact v_lret (rvf := fun (res : Int64 × Bool × (Nat → Int64)) => (some (.long res.1))) (wf := fun (res : Int64 × Bool × (Nat → Int64)) => (xW q cs n nd es kn knd kes img tl ta tn sl res.2.1 wt un ed kwt kun ked tb sb sz sbs G K P res.2.2 wh)) C dX5_dividend_108 rfl rfl
      · refine v_ldc2 C (v := (-9223372036854775808)) (List.mem_of_getElem? (i := 2) rfl) dX5_dividend_96 ?_
        refine v_goto C dX5_dividend_99 (tgt := 108) (by decide) ?_
        exact v_lret (rvf := fun (res : Int64 × Bool × (Nat → Int64)) => (some (.long res.1))) (wf := fun (res : Int64 × Bool × (Nat → Int64)) => (xW q cs n nd es kn knd kes img tl ta tn sl res.2.1 wt un ed kwt kun ked tb sb sz sbs G K P res.2.2 wh)) C dX5_dividend_108 rfl rfl
    · refine v_ldc2 C (v := (-9223372036854775808)) (List.mem_of_getElem? (i := 2) rfl) dX5_dividend_18 ?_
      exact v_lret (rvf := fun (res : Int64 × Bool × (Nat → Int64)) => (some (.long res.1))) (wf := fun (res : Int64 × Bool × (Nat → Int64)) => (xW q cs n nd es kn knd kes img tl ta tn sl res.2.1 wt un ed kwt kun ked tb sb sz sbs G K P res.2.2 wh)) C dX5_dividend_21 rfl rfl

def B_X5_countSetsBySum_2 (x11 : Int32) (rec12 : Int32 → (Nat → Int32) → Option (Int32 × (Nat → Int32))) (kx13 : (Nat → Int32) → Option (Int32 × (Nat → Int32))) (v14 : Int32) (sbs15 : Nat → Int32) : Option (Int32 × (Nat → Int32)) :=
if (v14 : Int32) < 0 then (
kx13 sbs15) else (
nm (v14 + x11) (fun (d16 : Int32) =>
ck (inb d16 8001) (
ck (inb v14 8001) (
ck (inb d16 8001) (
nm (upd sbs15 d16.toNatClampNeg ((sbs15 d16.toNatClampNeg) + (sbs15 v14.toNatClampNeg))) (fun (sbs17 : Nat → Int32) =>
nm (v14 + (-1)) (fun (x18 : Int32) =>
rec12 x18 sbs17)))))))
def L_X5_countSetsBySum_2 (x11 : Int32) (kx13 : (Nat → Int32) → Option (Int32 × (Nat → Int32))) : Nat → Int32 → (Nat → Int32) → Option (Int32 × (Nat → Int32))
  | 0, _, _ => none
  | m9 + 1, v14, sbs15 => B_X5_countSetsBySum_2 x11 (L_X5_countSetsBySum_2 x11 kx13 m9) kx13 v14 sbs15

def B_X5_countSetsBySum_1 (n : Int32) (wt : Nat → Int32) (a1 : Int32) (rec3 : Int32 → Int32 → (Nat → Int32) → Option (Int32 × (Nat → Int32)))  (v4 : Int32) (v5 : Int32) (sbs6 : Nat → Int32) : Option (Int32 × (Nat → Int32)) :=
if (v5 : Int32) < n then (
jn2 (fun (v8 : Int32) (sbs9 : Nat → Int32) =>
nm (v5 + 1) (fun (x10 : Int32) =>
rec3 v8 x10 sbs9)) (fun k7 =>
if (v5 : Int32) = a1 then (
k7 v4 sbs6) else (
ck (inb v5 9) (
nm (wt v5.toNatClampNeg) (fun (x11 : Int32) =>
L_X5_countSetsBySum_2 x11 (fun (sbs19 : Nat → Int32) =>
nm (v4 + x11) (fun (x20 : Int32) =>
k7 x20 sbs19)) FU v4 sbs6))))) else (
some (v4, sbs6))
def L_X5_countSetsBySum_1 (n : Int32) (wt : Nat → Int32) (a1 : Int32)  : Nat → Int32 → Int32 → (Nat → Int32) → Option (Int32 × (Nat → Int32))
  | 0, _, _, _ => none
  | m9 + 1, v4, v5, sbs6 => B_X5_countSetsBySum_1 n wt a1 (L_X5_countSetsBySum_1 n wt a1 m9)  v4 v5 sbs6

def f_X5_countSetsBySum (n : Int32) (wt : Nat → Int32) (sbs : Nat → Int32) (a1 : Int32) : Option (Int32 × (Nat → Int32)) :=
(f_filli sbs (0 : Int32) 8001).bind (fun (sbs1 : Nat → Int32) =>
ck (inb (0 : Int32) 8001) (
nm (upd sbs1 (0 : Int32).toNatClampNeg 1) (fun (sbs2 : Nat → Int32) =>
L_X5_countSetsBySum_1 n wt a1  FU 0 0 sbs2)))

theorem nI_X5_countSetsBySum : NameIn yX5_countSetsBySum 1 := ⟨by decide +kernel, by decide +kernel, by decide +kernel⟩
set_option maxRecDepth 100000 in
set_option maxHeartbeats 4000000 in
theorem lp_X5_countSetsBySum_2 {X : CX} {res : Int32 × (Nat → Int32)} {a1 : Int32}  {v4 : Int32} {v5 : Int32} {x11 : Int32} (hq : (xA q).Nodup) (C : Ok X cX5_countSetsBySum 6 (some .int) wsX5_countSetsBySum RX5 { frames := 1, cells := 0, slots := 0, locals := 23 } D vwCl (xT cs) (xA q) (xN tF) (some (.int res.1)) (xW q cs n nd es kn knd kes img tl ta tn sl bey wt un ed kwt kun ked tb sb sz res.2 G K P wk wh))  (kx13 : (Nat → Int32) → Option (Int32 × (Nat → Int32))) (Jkx13 : ∀ sbsZz : Nat → Int32, VF X res (kx13 sbsZz) (xW q cs n nd es kn knd kes img tl ta tn sl bey wt un ed kwt kun ked tb sb sz sbsZz G K P wk wh) 80 [(0, .ref (q 0)), (1, .int a1), (2, .int v4), (3, .int v5), (4, .int x11)] []) : ∀ fuel : Nat, ∀ v14 : Int32, ∀ sbs15 : Nat → Int32, VF X res (L_X5_countSetsBySum_2 x11 kx13 fuel v14 sbs15) (xW q cs n nd es kn knd kes img tl ta tn sl bey wt un ed kwt kun ked tb sb sz sbs15 G K P wk wh) 49 [(0, .ref (q 0)), (1, .int a1), (2, .int v4), (3, .int v5), (4, .int x11), (5, .int v14)] [] := by
  have iX5 : ∀ w ∈ wsX50, w ∈ wsX5_countSetsBySum := fun _ h => List.mem_cons_of_mem _ (List.mem_append_left _ (List.mem_append_right _ h))
  intro fuel
  induction fuel with
  | zero =>
    intro _ _
    exact v_none
  | succ fuel ih =>
    intro v14 sbs15
    show VF X res (B_X5_countSetsBySum_2 x11 (L_X5_countSetsBySum_2 x11 kx13 fuel) kx13 v14 sbs15) _ _ _ _
    unfold B_X5_countSetsBySum_2
    refine v_iload C 5 dX5_countSetsBySum_49 rfl ?_
    refine v_if_lt C dX5_countSetsBySum_51 (tgt := 80) (by decide) ?_ ?_
    · exact v_sub [0, 1, 2, 3, 4] rfl (Jkx13 sbs15)
    · refine v_aload_n C 0 dX5_countSetsBySum_54 rfl ?_
      refine v_get C (T := TX5) (n := 10) (C9 := RX5) iX5 0 rfl rfl 9 (by decide) (List.mem_of_getElem? (i := 1) rfl) rfl rfl dX5_countSetsBySum_55 ?_
      refine v_iload C 5 dX5_countSetsBySum_58 rfl ?_
      refine v_iload C 4 dX5_countSetsBySum_60 rfl ?_
      refine v_iadd C dX5_countSetsBySum_62 ?_
      refine v_name (mk := fun z9 => [.int z9, .ref (q 21)]) (fun d16 => ?_)
      refine v_dup2 C dX5_countSetsBySum_63 rfl rfl ?_
      refine v_iald C 21 0 rfl rfl dX5_countSetsBySum_64 ?_
      refine v_aload_n C 0 dX5_countSetsBySum_65 rfl ?_
      refine v_get C (T := TX5) (n := 10) (C9 := RX5) iX5 0 rfl rfl 9 (by decide) (List.mem_of_getElem? (i := 1) rfl) rfl rfl dX5_countSetsBySum_66 ?_
      refine v_iload C 5 dX5_countSetsBySum_69 rfl ?_
      refine v_iald C 21 0 rfl rfl dX5_countSetsBySum_71 ?_
      refine v_iadd C dX5_countSetsBySum_72 ?_
      refine v_iast_nm C (fun sbs17 => (xW q cs n nd es kn knd kes img tl ta tn sl bey wt un ed kwt kun ked tb sb sz sbs17 G K P wk wh)) 21 0 rfl rfl rfl (fun _ => rfl) dX5_countSetsBySum_73 (fun sbs17 => ?_)
      refine v_iinc_nm C (lvf := fun x18 => [(5, .int x18), (0, .ref (q 0)), (1, .int a1), (2, .int v4), (3, .int v5), (4, .int x11)]) 5 dX5_countSetsBySum_74 rfl rfl (by decide) (fun _ => rfl) (fun x18 => ?_)
      refine v_goto C dX5_countSetsBySum_77 (tgt := 49) (by decide) ?_
      exact v_sub [1, 2, 3, 4, 5, 0] rfl (ih x18 sbs17)

set_option maxRecDepth 100000 in
set_option maxHeartbeats 4000000 in
theorem lp_X5_countSetsBySum_1 {X : CX} {res : Int32 × (Nat → Int32)} {a1 : Int32}   (hq : (xA q).Nodup) (C : Ok X cX5_countSetsBySum 6 (some .int) wsX5_countSetsBySum RX5 { frames := 1, cells := 0, slots := 0, locals := 23 } D vwCl (xT cs) (xA q) (xN tF) (some (.int res.1)) (xW q cs n nd es kn knd kes img tl ta tn sl bey wt un ed kwt kun ked tb sb sz res.2 G K P wk wh))  : ∀ fuel : Nat, ∀ v4 : Int32, ∀ v5 : Int32, ∀ sbs6 : Nat → Int32, VF X res (L_X5_countSetsBySum_1 n wt a1 fuel v4 v5 sbs6) (xW q cs n nd es kn knd kes img tl ta tn sl bey wt un ed kwt kun ked tb sb sz sbs6 G K P wk wh) 19 [(0, .ref (q 0)), (1, .int a1), (2, .int v4), (3, .int v5)] [] := by
  have iX0 : ∀ w ∈ wsX00, w ∈ wsX5_countSetsBySum := fun _ h => List.mem_cons_of_mem _ (List.mem_append_right _ h)
  have iX5 : ∀ w ∈ wsX50, w ∈ wsX5_countSetsBySum := fun _ h => List.mem_cons_of_mem _ (List.mem_append_left _ (List.mem_append_right _ h))
  intro fuel
  induction fuel with
  | zero =>
    intro _ _ _
    exact v_none
  | succ fuel ih =>
    intro v4 v5 sbs6
    show VF X res (B_X5_countSetsBySum_1 n wt a1 (L_X5_countSetsBySum_1 n wt a1 fuel)  v4 v5 sbs6) _ _ _ _
    unfold B_X5_countSetsBySum_1
    refine v_iload_n C 3 dX5_countSetsBySum_19 rfl ?_
    refine v_aload_n C 0 dX5_countSetsBySum_20 rfl ?_
    refine v_get C (T := TX5) (n := 10) (C9 := RX5) iX5 0 rfl rfl 0 (by decide) (List.mem_of_getElem? (i := 2) rfl) rfl rfl dX5_countSetsBySum_21 ?_
    refine v_get C (T := TX0) (n := 7) (C9 := RX0) iX0 1 rfl rfl 0 (by decide) (List.mem_of_getElem? (i := 3) rfl) rfl rfl dX5_countSetsBySum_24 ?_
    refine v_icmp_ge C dX5_countSetsBySum_27 (tgt := 91) (by decide) ?_ ?_
    · refine v_iload_n C 2 dX5_countSetsBySum_91 rfl ?_
      exact v_iret (rvf := fun (res : Int32 × (Nat → Int32)) => (some (.int res.1))) (wf := fun (res : Int32 × (Nat → Int32)) => (xW q cs n nd es kn knd kes img tl ta tn sl bey wt un ed kwt kun ked tb sb sz res.2 G K P wk wh)) C dX5_countSetsBySum_92 rfl rfl
    · refine v_iload_n C 3 dX5_countSetsBySum_30 rfl ?_
      refine v_iload_n C 1 dX5_countSetsBySum_31 rfl ?_
      refine v_jn2 (wj := (fun v8 sbs9 => (xW q cs n nd es kn knd kes img tl ta tn sl bey wt un ed kwt kun ked tb sb sz sbs9 G K P wk wh))) (pcj := 85) (lvj := (fun v8 sbs9 => [(0, .ref (q 0)), (1, .int a1), (2, .int v8), (3, .int v5)])) (stj := (fun v8 sbs9 => [])) (fun v8 sbs9 => ?_) (fun k7 hk7 => ?_)
      · refine v_iinc_nm C (lvf := fun x10 => [(3, .int x10), (0, .ref (q 0)), (1, .int a1), (2, .int v8)]) 3 dX5_countSetsBySum_85 rfl rfl (by decide) (fun _ => rfl) (fun x10 => ?_)
        refine v_goto C dX5_countSetsBySum_88 (tgt := 19) (by decide) ?_
        exact v_sub [1, 2, 3, 0] rfl (ih v8 x10 sbs9)
      · refine v_icmp_eq C dX5_countSetsBySum_32 (tgt := 85) (by decide) ?_ ?_
        · exact v_sub [0, 1, 2, 3] rfl (hk7 v4 sbs6)
        · refine v_aload_n C 0 dX5_countSetsBySum_35 rfl ?_
          refine v_get C (T := TX5) (n := 10) (C9 := RX5) iX5 0 rfl rfl 0 (by decide) (List.mem_of_getElem? (i := 2) rfl) rfl rfl dX5_countSetsBySum_36 ?_
          refine v_get C (T := TX0) (n := 7) (C9 := RX0) iX0 1 rfl rfl 3 (by decide) (List.mem_of_getElem? (i := 4) rfl) rfl rfl dX5_countSetsBySum_39 ?_
          refine v_iload_n C 3 dX5_countSetsBySum_42 rfl ?_
          refine v_iald C 7 0 rfl rfl dX5_countSetsBySum_43 ?_
          refine v_istore_nm C (lvf := fun x11 => [(4, .int x11), (0, .ref (q 0)), (1, .int a1), (2, .int v4), (3, .int v5)]) dX5_countSetsBySum_44 (by decide) (fun _ => rfl) (fun x11 => ?_)
          refine v_iload_n C 3 dX5_countSetsBySum_46 rfl ?_
          refine v_istore C (lv' := [(5, .int v4), (4, .int x11), (0, .ref (q 0)), (1, .int a1), (2, .int v4), (3, .int v5)]) dX5_countSetsBySum_47 (by decide) rfl ?_
          refine v_sub [2, 3, 4, 5, 1, 0] rfl (lp_X5_countSetsBySum_2 hq C  _ (fun sbs19 => ?_) FU v4 sbs6)
          refine v_iload_n C 2 dX5_countSetsBySum_80 rfl ?_
          refine v_iload C 4 dX5_countSetsBySum_81 rfl ?_
          refine v_iadd C dX5_countSetsBySum_83 ?_
          refine v_istore_n_nm C (lvf := fun x20 => [(2, .int x20), (0, .ref (q 0)), (1, .int a1), (3, .int v5), (4, .int x11)]) dX5_countSetsBySum_84 rfl (by decide) (fun _ => rfl) (fun x20 => ?_)
          exact v_sub [1, 2, 0, 3] rfl (hk7 x20 sbs19)

set_option maxRecDepth 100000 in
set_option maxHeartbeats 4000000 in
theorem k_X5_countSetsBySum {l : Launch} {a1 : Int32}  {res : Int32 × (Nat → Int32)} (hq : (xA q).Nodup)  (hf : f_X5_countSetsBySum n wt sbs a1 = some res) : kMet l yX5_countSetsBySum wsX5_countSetsBySum { frames := 1, cells := 0, slots := 0, locals := 23 } D vwCl (xT cs) (xN tF) (xA q) [.ref (q 0), .int a1] (xW q cs n nd es kn knd kes img tl ta tn sl bey wt un ed kwt kun ked tb sb sz sbs G K P wk wh) (some (.int res.1)) (xW q cs n nd es kn knd kes img tl ta tn sl bey wt un ed kwt kun ked tb sb sz res.2 G K P wk wh) := by
  have iX5 : ∀ w ∈ wsX50, w ∈ wsX5_countSetsBySum := fun _ h => List.mem_cons_of_mem _ (List.mem_append_left _ (List.mem_append_right _ h))
  refine kMet.of (cc := cX5_countSetsBySum) (nL := 6) (ret := (some .int)) (own := RX5) (lv := [(0, .ref (q 0)), (1, .int a1)]) (by decide +kernel) rfl rfl xN_ok hq (Nat.le_of_ble_eq_true rfl) rfl (fun X C => ?_)
  refine VF.of hf ?_
  unfold f_X5_countSetsBySum
  refine v_aload_n C 0 dX5_countSetsBySum_0 rfl ?_
  refine v_get C (T := TX5) (n := 10) (C9 := RX5) iX5 0 rfl rfl 9 (by decide) (List.mem_of_getElem? (i := 1) rfl) rfl rfl dX5_countSetsBySum_1 ?_
  refine v_iconst C dX5_countSetsBySum_4 (v := 0) (by decide) ?_
  refine v_filli_nm C (fun sbs1 => (xW q cs n nd es kn knd kes img tl ta tn sl bey wt un ed kwt kun ked tb sb sz sbs1 G K P wk wh)) (fun l9 F9 D9 h9 => k_filli (l := l9) (by decide) h9) 21 0 rfl rfl rfl (fun _ => rfl) gX5_countSetsBySum_J7_fill_53178 rfl nI_J7_fill_53178 ⟨rfl, rfl, Nat.le_of_ble_eq_true rfl, Nat.le_of_ble_eq_true rfl⟩ dX5_countSetsBySum_5 (Nat.le_of_ble_eq_true rfl) (fun sbs1 => ?_)
  refine v_aload_n C 0 dX5_countSetsBySum_8 rfl ?_
  refine v_get C (T := TX5) (n := 10) (C9 := RX5) iX5 0 rfl rfl 9 (by decide) (List.mem_of_getElem? (i := 1) rfl) rfl rfl dX5_countSetsBySum_9 ?_
  refine v_iconst C dX5_countSetsBySum_12 (v := 0) (by decide) ?_
  refine v_iconst C dX5_countSetsBySum_13 (v := 1) (by decide) ?_
  refine v_iast_nm C (fun sbs2 => (xW q cs n nd es kn knd kes img tl ta tn sl bey wt un ed kwt kun ked tb sb sz sbs2 G K P wk wh)) 21 0 rfl rfl rfl (fun _ => rfl) dX5_countSetsBySum_14 (fun sbs2 => ?_)
  refine v_iconst C dX5_countSetsBySum_15 (v := 0) (by decide) ?_
  refine v_istore_n C (lv' := [(2, .int 0), (0, .ref (q 0)), (1, .int a1)]) dX5_countSetsBySum_16 rfl (by decide) rfl ?_
  refine v_iconst C dX5_countSetsBySum_17 (v := 0) (by decide) ?_
  refine v_istore_n C (lv' := [(3, .int 0), (2, .int 0), (0, .ref (q 0)), (1, .int a1)]) dX5_countSetsBySum_18 rfl (by decide) rfl ?_
  refine v_sub [2, 3, 1, 0] rfl (lp_X5_countSetsBySum_1 hq C   FU 0 0 sbs2)

def B_X5_swingsBySums_1 (nd : Int32) (r1 : Int32 × (Nat → Int32)) (x2 : Int32) (rec3 : Int32 → Int32 → Option (Int32 × (Nat → Int32)))  (v4 : Int32) (v5 : Int32) : Option (Int32 × (Nat → Int32)) :=
if (r1.1 : Int32) < v5 then (
some (v4, r1.2)) else (
jn1 (fun (v7 : Int32) =>
nm (v5 + 1) (fun (x8 : Int32) =>
rec3 v7 x8)) (fun k6 =>
if (v5 : Int32) < nd then (
if (v5 + x2 : Int32) < nd then (
k6 v4) else (
ck (inb v5 8001) (
nm (v4 + (r1.2 v5.toNatClampNeg)) (fun (x9 : Int32) =>
k6 x9)))) else (
k6 v4)))
def L_X5_swingsBySums_1 (nd : Int32) (r1 : Int32 × (Nat → Int32)) (x2 : Int32)  : Nat → Int32 → Int32 → Option (Int32 × (Nat → Int32))
  | 0, _, _ => none
  | m9 + 1, v4, v5 => B_X5_swingsBySums_1 nd r1 x2 (L_X5_swingsBySums_1 nd r1 x2 m9)  v4 v5

def f_X5_swingsBySums (n : Int32) (nd : Int32) (wt : Nat → Int32) (sbs : Nat → Int32) (a1 : Int32) : Option (Int32 × (Nat → Int32)) :=
(f_X5_countSetsBySum n wt sbs a1).bind (fun (r1 : Int32 × (Nat → Int32)) =>
ck (inb a1 9) (
nm (wt a1.toNatClampNeg) (fun (x2 : Int32) =>
L_X5_swingsBySums_1 nd r1 x2  FU 0 0)))

theorem nI_X5_swingsBySums : NameIn yX5_swingsBySums 1 := ⟨by decide +kernel, by decide +kernel, by decide +kernel⟩
set_option maxRecDepth 100000 in
set_option maxHeartbeats 4000000 in
theorem lp_X5_swingsBySums_1 {X : CX} {res : Int32 × (Nat → Int32)}   {r1 : Int32 × (Nat → Int32)} {x2 : Int32} (hq : (xA q).Nodup) (C : Ok X cX5_swingsBySums 6 (some .int) wsX5_swingsBySums RX5 { frames := 2, cells := 0, slots := 0, locals := 48 } D vwCl (xT cs) (xA q) (xN tF) (some (.int res.1)) (xW q cs n nd es kn knd kes img tl ta tn sl bey wt un ed kwt kun ked tb sb sz res.2 G K P wk wh))  : ∀ fuel : Nat, ∀ v4 : Int32, ∀ v5 : Int32, VF X res (L_X5_swingsBySums_1 nd r1 x2 fuel v4 v5) (xW q cs n nd es kn knd kes img tl ta tn sl bey wt un ed kwt kun ked tb sb sz r1.2 G K P wk wh) 22 [(0, .ref (q 0)), (2, .int r1.1), (3, .int x2), (4, .int v4), (5, .int v5)] [] := by
  have iX0 : ∀ w ∈ wsX00, w ∈ wsX5_swingsBySums := fun _ h => List.mem_cons_of_mem _ (List.mem_append_right _ h)
  have iX5 : ∀ w ∈ wsX50, w ∈ wsX5_swingsBySums := fun _ h => List.mem_cons_of_mem _ (List.mem_append_left _ (List.mem_append_right _ h))
  intro fuel
  induction fuel with
  | zero =>
    intro _ _
    exact v_none
  | succ fuel ih =>
    intro v4 v5
    show VF X res (B_X5_swingsBySums_1 nd r1 x2 (L_X5_swingsBySums_1 nd r1 x2 fuel)  v4 v5) _ _ _ _
    unfold B_X5_swingsBySums_1
    refine v_iload C 4 dX5_swingsBySums_22 rfl ?_
    refine v_iload_n C 1 dX5_swingsBySums_24 rfl ?_
    refine v_icmp_gt C dX5_swingsBySums_25 (tgt := 72) (by decide) ?_ ?_
    · refine v_iload C 3 dX5_swingsBySums_72 rfl ?_
      exact v_iret (rvf := fun (res : Int32 × (Nat → Int32)) => (some (.int res.1))) (wf := fun (res : Int32 × (Nat → Int32)) => (xW q cs n nd es kn knd kes img tl ta tn sl bey wt un ed kwt kun ked tb sb sz res.2 G K P wk wh)) C dX5_swingsBySums_74 rfl rfl
    · refine v_iload C 4 dX5_swingsBySums_28 rfl ?_
      refine v_aload_n C 0 dX5_swingsBySums_30 rfl ?_
      refine v_get C (T := TX5) (n := 10) (C9 := RX5) iX5 0 rfl rfl 0 (by decide) (List.mem_of_getElem? (i := 1) rfl) rfl rfl dX5_swingsBySums_31 ?_
      refine v_get C (T := TX0) (n := 7) (C9 := RX0) iX0 1 rfl rfl 1 (by decide) (List.mem_of_getElem? (i := 3) rfl) rfl rfl dX5_swingsBySums_34 ?_
      refine v_jn1 (wj := (fun v7 => (xW q cs n nd es kn knd kes img tl ta tn sl bey wt un ed kwt kun ked tb sb sz r1.2 G K P wk wh))) (pcj := 66) (lvj := (fun v7 => [(0, .ref (q 0)), (2, .int r1.1), (3, .int x2), (4, .int v7), (5, .int v5)])) (stj := (fun v7 => [])) (fun v7 => ?_) (fun k6 hk6 => ?_)
      · refine v_iinc_nm C (lvf := fun x8 => [(5, .int x8), (0, .ref (q 0)), (2, .int r1.1), (3, .int x2), (4, .int v7)]) 4 dX5_swingsBySums_66 rfl rfl (by decide) (fun _ => rfl) (fun x8 => ?_)
        refine v_goto C dX5_swingsBySums_69 (tgt := 22) (by decide) ?_
        exact v_sub [1, 2, 3, 4, 0] rfl (ih v7 x8)
      · refine v_icmp_ge C dX5_swingsBySums_37 (tgt := 66) (by decide) ?_ ?_
        · exact v_sub [0, 1, 2, 3, 4] rfl (hk6 v4)
        · refine v_iload C 4 dX5_swingsBySums_40 rfl ?_
          refine v_iload_n C 2 dX5_swingsBySums_42 rfl ?_
          refine v_iadd C dX5_swingsBySums_43 ?_
          refine v_aload_n C 0 dX5_swingsBySums_44 rfl ?_
          refine v_get C (T := TX5) (n := 10) (C9 := RX5) iX5 0 rfl rfl 0 (by decide) (List.mem_of_getElem? (i := 1) rfl) rfl rfl dX5_swingsBySums_45 ?_
          refine v_get C (T := TX0) (n := 7) (C9 := RX0) iX0 1 rfl rfl 1 (by decide) (List.mem_of_getElem? (i := 3) rfl) rfl rfl dX5_swingsBySums_48 ?_
          refine v_icmp_lt C dX5_swingsBySums_51 (tgt := 66) (by decide) ?_ ?_
          · exact v_sub [0, 1, 2, 3, 4] rfl (hk6 v4)
          · refine v_iload C 3 dX5_swingsBySums_54 rfl ?_
            refine v_aload_n C 0 dX5_swingsBySums_56 rfl ?_
            refine v_get C (T := TX5) (n := 10) (C9 := RX5) iX5 0 rfl rfl 9 (by decide) (List.mem_of_getElem? (i := 4) rfl) rfl rfl dX5_swingsBySums_57 ?_
            refine v_iload C 4 dX5_swingsBySums_60 rfl ?_
            refine v_iald C 21 0 rfl rfl dX5_swingsBySums_62 ?_
            refine v_iadd C dX5_swingsBySums_63 ?_
            refine v_istore_nm C (lvf := fun x9 => [(4, .int x9), (0, .ref (q 0)), (2, .int r1.1), (3, .int x2), (5, .int v5)]) dX5_swingsBySums_64 (by decide) (fun _ => rfl) (fun x9 => ?_)
            exact v_sub [1, 2, 3, 0, 4] rfl (hk6 x9)

set_option maxRecDepth 100000 in
set_option maxHeartbeats 4000000 in
theorem k_X5_swingsBySums {l : Launch} {a1 : Int32}  {res : Int32 × (Nat → Int32)} (hq : (xA q).Nodup)  (hf : f_X5_swingsBySums n nd wt sbs a1 = some res) : kMet l yX5_swingsBySums wsX5_swingsBySums { frames := 2, cells := 0, slots := 0, locals := 48 } D vwCl (xT cs) (xN tF) (xA q) [.ref (q 0), .int a1] (xW q cs n nd es kn knd kes img tl ta tn sl bey wt un ed kwt kun ked tb sb sz sbs G K P wk wh) (some (.int res.1)) (xW q cs n nd es kn knd kes img tl ta tn sl bey wt un ed kwt kun ked tb sb sz res.2 G K P wk wh) := by
  have iX0 : ∀ w ∈ wsX00, w ∈ wsX5_swingsBySums := fun _ h => List.mem_cons_of_mem _ (List.mem_append_right _ h)
  have iX5 : ∀ w ∈ wsX50, w ∈ wsX5_swingsBySums := fun _ h => List.mem_cons_of_mem _ (List.mem_append_left _ (List.mem_append_right _ h))
  refine kMet.of (cc := cX5_swingsBySums) (nL := 6) (ret := (some .int)) (own := RX5) (lv := [(0, .ref (q 0)), (1, .int a1)]) (by decide +kernel) rfl rfl xN_ok hq (Nat.le_of_ble_eq_true rfl) rfl (fun X C => ?_)
  refine VF.of hf ?_
  unfold f_X5_swingsBySums
  refine v_aload_n C 0 dX5_swingsBySums_0 rfl ?_
  refine v_iload_n C 1 dX5_swingsBySums_1 rfl ?_
  refine v_callV1v C 0 rfl rfl rfl (fun l9 r9 h9 => k_X5_countSetsBySum (l := l9) hq  h9) gX5_swingsBySums_X5_countSetsBySum rfl nI_X5_countSetsBySum ⟨rfl, rfl, Nat.le_of_ble_eq_true rfl, Nat.le_of_ble_eq_true rfl⟩ dX5_swingsBySums_2 (Nat.le_of_ble_eq_true rfl) (fun r1 => ?_)
  refine v_istore_n C (lv' := [(2, .int r1.1), (0, .ref (q 0)), (1, .int a1)]) dX5_swingsBySums_5 rfl (by decide) rfl ?_
  refine v_aload_n C 1 dX5_swingsBySums_6 rfl ?_
  refine v_get C (T := TX5) (n := 10) (C9 := RX5) iX5 0 rfl rfl 0 (by decide) (List.mem_of_getElem? (i := 1) rfl) rfl rfl dX5_swingsBySums_7 ?_
  refine v_get C (T := TX0) (n := 7) (C9 := RX0) iX0 1 rfl rfl 3 (by decide) (List.mem_of_getElem? (i := 2) rfl) rfl rfl dX5_swingsBySums_10 ?_
  refine v_iload_n C 2 dX5_swingsBySums_13 rfl ?_
  refine v_iald C 7 0 rfl rfl dX5_swingsBySums_14 ?_
  refine v_istore_n_nm C (lvf := fun x2 => [(3, .int x2), (2, .int r1.1), (0, .ref (q 0)), (1, .int a1)]) dX5_swingsBySums_15 rfl (by decide) (fun _ => rfl) (fun x2 => ?_)
  refine v_iconst C dX5_swingsBySums_16 (v := 0) (by decide) ?_
  refine v_istore C (lv' := [(4, .int 0), (3, .int x2), (2, .int r1.1), (0, .ref (q 0)), (1, .int a1)]) dX5_swingsBySums_17 (by decide) rfl ?_
  refine v_iconst C dX5_swingsBySums_19 (v := 0) (by decide) ?_
  refine v_istore C (lv' := [(5, .int 0), (4, .int 0), (3, .int x2), (2, .int r1.1), (0, .ref (q 0)), (1, .int a1)]) dX5_swingsBySums_20 (by decide) rfl ?_
  refine v_sub [4, 3, 2, 1, 0] rfl (lp_X5_swingsBySums_1 hq C   FU 0 0)

def B_X5_swingsBySets_1 (n : Int32) (nd : Int32) (wt : Nat → Int32) (a1 : Int32) (rec1 : Int32 → Int32 → Option (Int32))  (v2 : Int32) (v3 : Int32) : Option (Int32) :=
(f_X0_sets n).bind (fun (r4 : Int32) =>
if (v3 : Int32) < r4 then (
(f_X0_isSwing n nd wt v3 a1).bind (fun (r5 : Bool) =>
jn1 (fun (v7 : Int32) =>
nm (v3 + 1) (fun (x8 : Int32) =>
rec1 v7 x8)) (fun k6 =>
if r5 = true then (
nm (v2 + 1) (fun (x9 : Int32) =>
k6 x9)) else (
k6 v2)))) else (
some v2))
def L_X5_swingsBySets_1 (n : Int32) (nd : Int32) (wt : Nat → Int32) (a1 : Int32)  : Nat → Int32 → Int32 → Option (Int32)
  | 0, _, _ => none
  | m9 + 1, v2, v3 => B_X5_swingsBySets_1 n nd wt a1 (L_X5_swingsBySets_1 n nd wt a1 m9)  v2 v3

def f_X5_swingsBySets (n : Int32) (nd : Int32) (wt : Nat → Int32) (a1 : Int32) : Option (Int32) :=
L_X5_swingsBySets_1 n nd wt a1  FU 0 0

theorem nI_X5_swingsBySets : NameIn yX5_swingsBySets 1 := ⟨by decide +kernel, by decide +kernel, by decide +kernel⟩
set_option maxRecDepth 100000 in
set_option maxHeartbeats 4000000 in
theorem lp_X5_swingsBySets_1 {X : CX} {res : Int32} {a1 : Int32}   (hq : (xA q).Nodup) (C : Ok X cX5_swingsBySets 4 (some .int) wsX5_swingsBySets RX5 { frames := 4, cells := 0, slots := 0, locals := 87 } D vwCl (xT cs) (xA q) (xN tF) (some (.int res)) (xW q cs n nd es kn knd kes img tl ta tn sl bey wt un ed kwt kun ked tb sb sz sbs G K P wk wh))  : ∀ fuel : Nat, ∀ v2 : Int32, ∀ v3 : Int32, VF X res (L_X5_swingsBySets_1 n nd wt a1 fuel v2 v3) (xW q cs n nd es kn knd kes img tl ta tn sl bey wt un ed kwt kun ked tb sb sz sbs G K P wk wh) 4 [(0, .ref (q 0)), (1, .int a1), (2, .int v2), (3, .int v3)] [] := by
  have iX5 : ∀ w ∈ wsX50, w ∈ wsX5_swingsBySets := fun _ h => List.mem_cons_of_mem _ (List.mem_append_left _ (List.mem_append_right _ h))
  intro fuel
  induction fuel with
  | zero =>
    intro _ _
    exact v_none
  | succ fuel ih =>
    intro v2 v3
    show VF X res (B_X5_swingsBySets_1 n nd wt a1 (L_X5_swingsBySets_1 n nd wt a1 fuel)  v2 v3) _ _ _ _
    unfold B_X5_swingsBySets_1
    refine v_iload_n C 3 dX5_swingsBySets_4 rfl ?_
    refine v_aload_n C 0 dX5_swingsBySets_5 rfl ?_
    refine v_get C (T := TX5) (n := 10) (C9 := RX5) iX5 0 rfl rfl 0 (by decide) (List.mem_of_getElem? (i := 1) rfl) rfl rfl dX5_swingsBySets_6 ?_
    refine v_callV0v C 1 rfl rfl rfl (fun l9 r9 h9 => k_X0_sets (l := l9) hq  h9) gX5_swingsBySets_X0_sets rfl nI_X0_sets ⟨rfl, rfl, Nat.le_of_ble_eq_true rfl, Nat.le_of_ble_eq_true rfl⟩ dX5_swingsBySets_9 (Nat.le_of_ble_eq_true rfl) (fun r4 => ?_)
    refine v_icmp_ge C dX5_swingsBySets_12 (tgt := 36) (by decide) ?_ ?_
    · refine v_iload_n C 2 dX5_swingsBySets_36 rfl ?_
      exact v_iret (rvf := fun (res : Int32) => (some (.int res))) (wf := fun (res : Int32) => (xW q cs n nd es kn knd kes img tl ta tn sl bey wt un ed kwt kun ked tb sb sz sbs G K P wk wh)) C dX5_swingsBySets_37 rfl rfl
    · refine v_aload_n C 0 dX5_swingsBySets_15 rfl ?_
      refine v_get C (T := TX5) (n := 10) (C9 := RX5) iX5 0 rfl rfl 0 (by decide) (List.mem_of_getElem? (i := 1) rfl) rfl rfl dX5_swingsBySets_16 ?_
      refine v_iload_n C 3 dX5_swingsBySets_19 rfl ?_
      refine v_iload_n C 1 dX5_swingsBySets_20 rfl ?_
      refine v_callV2v C 1 rfl rfl rfl (fun l9 r9 h9 => k_X0_isSwing (l := l9) hq  h9) gX5_swingsBySets_X0_isSwing rfl nI_X0_isSwing ⟨rfl, rfl, Nat.le_of_ble_eq_true rfl, Nat.le_of_ble_eq_true rfl⟩ dX5_swingsBySets_21 (Nat.le_of_ble_eq_true rfl) (fun r5 => ?_)
      refine v_jn1 (wj := (fun v7 => (xW q cs n nd es kn knd kes img tl ta tn sl bey wt un ed kwt kun ked tb sb sz sbs G K P wk wh))) (pcj := 30) (lvj := (fun v7 => [(0, .ref (q 0)), (1, .int a1), (2, .int v7), (3, .int v3)])) (stj := (fun v7 => [])) (fun v7 => ?_) (fun k6 hk6 => ?_)
      · refine v_iinc_nm C (lvf := fun x8 => [(3, .int x8), (0, .ref (q 0)), (1, .int a1), (2, .int v7)]) 3 dX5_swingsBySets_30 rfl rfl (by decide) (fun _ => rfl) (fun x8 => ?_)
        refine v_goto C dX5_swingsBySets_33 (tgt := 4) (by decide) ?_
        exact v_sub [1, 2, 3, 0] rfl (ih v7 x8)
      · refine v_ifb_eq C (b := r5) dX5_swingsBySets_24 (tgt := 30) (by decide) ?_ ?_
        · exact v_sub [0, 1, 2, 3] rfl (hk6 v2)
        · refine v_iinc_nm C (lvf := fun x9 => [(2, .int x9), (0, .ref (q 0)), (1, .int a1), (3, .int v3)]) 2 dX5_swingsBySets_27 rfl rfl (by decide) (fun _ => rfl) (fun x9 => ?_)
          exact v_sub [1, 2, 0, 3] rfl (hk6 x9)

set_option maxRecDepth 100000 in
set_option maxHeartbeats 4000000 in
theorem k_X5_swingsBySets {l : Launch} {a1 : Int32}  {res : Int32} (hq : (xA q).Nodup)  (hf : f_X5_swingsBySets n nd wt a1 = some res) : kMet l yX5_swingsBySets wsX5_swingsBySets { frames := 4, cells := 0, slots := 0, locals := 87 } D vwCl (xT cs) (xN tF) (xA q) [.ref (q 0), .int a1] (xW q cs n nd es kn knd kes img tl ta tn sl bey wt un ed kwt kun ked tb sb sz sbs G K P wk wh) (some (.int res)) (xW q cs n nd es kn knd kes img tl ta tn sl bey wt un ed kwt kun ked tb sb sz sbs G K P wk wh) := by
  refine kMet.of (cc := cX5_swingsBySets) (nL := 4) (ret := (some .int)) (own := RX5) (lv := [(0, .ref (q 0)), (1, .int a1)]) (by decide +kernel) rfl rfl xN_ok hq (Nat.le_of_ble_eq_true rfl) rfl (fun X C => ?_)
  refine VF.of hf ?_
  unfold f_X5_swingsBySets
  refine v_iconst C dX5_swingsBySets_0 (v := 0) (by decide) ?_
  refine v_istore_n C (lv' := [(2, .int 0), (0, .ref (q 0)), (1, .int a1)]) dX5_swingsBySets_1 rfl (by decide) rfl ?_
  refine v_iconst C dX5_swingsBySets_2 (v := 0) (by decide) ?_
  refine v_istore_n C (lv' := [(3, .int 0), (2, .int 0), (0, .ref (q 0)), (1, .int a1)]) dX5_swingsBySets_3 rfl (by decide) rfl ?_
  refine v_sub [2, 3, 1, 0] rfl (lp_X5_swingsBySets_1 hq C   FU 0 0)

end WK
