section WK
variable {q : Nat → Nat} {cs : Nat → ClassId} {D : va_G} {tF : Nat} {n : Int32} {nd : Int32} {es : Int32} {kn : Int32} {knd : Int32} {kes : Int32} {img : Bool} {tl : Int32} {ta : Int32} {tn : Int64} {sl : Int32} {bey : Bool} {wt : Nat → Int32} {un : Nat → Int32} {ed : Nat → Int32} {kwt : Nat → Int32} {kun : Nat → Int32} {ked : Nat → Int32} {tb : Nat → Int32} {sb : Nat → Int32} {sz : Nat → Int32} {sbs : Nat → Int32} {G : Nat → Nat → Int64} {K : Nat → Nat → Int64} {P : Nat → Nat → Int64} {wk : Nat → Int64} {wh : Nat → Int64}
def f_X5_edge (n : Int32) (ed : Nat → Int32) (a1 : Int32) (a2 : Int32) (a3 : Int32) : Option (Int32 × (Nat → Int32)) :=
(f_X0_hasTwo n a1 a2).bind (fun (r1 : Bool) =>
if r1 = true then (
if (a3 : Int32) < (-9999) then (
some ((-2), ed)) else (
if (9999 : Int32) < a3 then (
some ((-2), ed)) else (
(f_X5_edgePlace a1 a2).bind (fun (r2 : Int32) =>
ck (inb r2 81) (
jn1 (fun (v4 : Bool) =>
ck (inb r2 81) (
nm (upd ed r2.toNatClampNeg a3) (fun (ed5 : Nat → Int32) =>
if v4 = true then (
some (0, ed5)) else (
some (1, ed5))))) (fun k3 =>
if (ed r2.toNatClampNeg : Int32) = a3 then (
k3 true) else (
k3 false))))))) else (
some ((-1), ed)))

theorem nI_X5_edge : NameIn yX5_edge 3 := ⟨by decide +kernel, by decide +kernel, by decide +kernel⟩
set_option maxRecDepth 100000 in
set_option maxHeartbeats 4000000 in
theorem k_X5_edge {l : Launch} {a1 : Int32} {a2 : Int32} {a3 : Int32}  {res : Int32 × (Nat → Int32)} (hq : (xA q).Nodup)  (hf : f_X5_edge n ed a1 a2 a3 = some res) : kMet l yX5_edge wsX5_edge { frames := 2, cells := 0, slots := 0, locals := 44 } D vwCl (xT cs) (xN tF) (xA q) [.ref (q 0), .int a1, .int a2, .int a3] (xW q cs n nd es kn knd kes img tl ta tn sl bey wt un ed kwt kun ked tb sb sz sbs G K P wk wh) (some (.int res.1)) (xW q cs n nd es kn knd kes img tl ta tn sl bey wt un res.2 kwt kun ked tb sb sz sbs G K P wk wh) := by
  have iX0 : ∀ w ∈ wsX00, w ∈ wsX5_edge := fun _ h => List.mem_cons_of_mem _ (List.mem_append_right _ h)
  have iX5 : ∀ w ∈ wsX50, w ∈ wsX5_edge := fun _ h => List.mem_cons_of_mem _ (List.mem_append_left _ (List.mem_append_right _ h))
  refine kMet.of (cc := cX5_edge) (nL := 6) (ret := (some .int)) (own := RX5) (lv := [(0, .ref (q 0)), (1, .int a1), (2, .int a2), (3, .int a3)]) (by decide +kernel) rfl rfl xN_ok hq (Nat.le_of_ble_eq_true rfl) rfl (fun X C => ?_)
  refine VF.of hf ?_
  unfold f_X5_edge
  refine v_aload_n C 0 dX5_edge_0 rfl ?_
  refine v_get C (T := TX5) (n := 10) (C9 := RX5) iX5 0 rfl rfl 0 (by decide) (List.mem_of_getElem? (i := 1) rfl) rfl rfl dX5_edge_1 ?_
  refine v_iload_n C 1 dX5_edge_4 rfl ?_
  refine v_iload_n C 2 dX5_edge_5 rfl ?_
  refine v_callV2v C 1 rfl rfl rfl (fun l9 r9 h9 => k_X0_hasTwo (l := l9) hq  h9) gX5_edge_X0_hasTwo rfl nI_X0_hasTwo ⟨rfl, rfl, Nat.le_of_ble_eq_true rfl, Nat.le_of_ble_eq_true rfl⟩ dX5_edge_6 (Nat.le_of_ble_eq_true rfl) (fun r1 => ?_)
  refine v_ifb_ne C (b := r1) dX5_edge_9 (tgt := 14) (by decide) ?_ ?_
  · refine v_iload_n C 3 dX5_edge_14 rfl ?_
    refine v_sipush C dX5_edge_15 (v := (-9999)) (by decide) ?_
    refine v_icmp_lt C dX5_edge_18 (tgt := 28) (by decide) ?_ ?_
    · refine v_bipush C dX5_edge_28 (v := (-2)) (by decide) ?_
      exact v_iret (rvf := fun (res : Int32 × (Nat → Int32)) => (some (.int res.1))) (wf := fun (res : Int32 × (Nat → Int32)) => (xW q cs n nd es kn knd kes img tl ta tn sl bey wt un res.2 kwt kun ked tb sb sz sbs G K P wk wh)) C dX5_edge_30 rfl rfl
    · refine v_iload_n C 3 dX5_edge_21 rfl ?_
      refine v_sipush C dX5_edge_22 (v := 9999) (by decide) ?_
      refine v_icmp_le C dX5_edge_25 (tgt := 31) (by decide) ?_ ?_
      · refine v_iload_n C 1 dX5_edge_31 rfl ?_
        refine v_iload_n C 2 dX5_edge_32 rfl ?_
        refine v_callSP2v C (fun l9 r9 h9 => k_X5_edgePlace (l := l9) h9) gX5_edge_X5_edgePlace rfl nI_X5_edgePlace ⟨rfl, rfl, Nat.le_of_ble_eq_true rfl, Nat.le_of_ble_eq_true rfl⟩ dX5_edge_33 (Nat.le_of_ble_eq_true rfl) (fun r2 => ?_)
        refine v_istore C (lv' := [(4, .int r2), (0, .ref (q 0)), (1, .int a1), (2, .int a2), (3, .int a3)]) dX5_edge_36 (by decide) rfl ?_
        refine v_aload_n C 1 dX5_edge_38 rfl ?_
        refine v_get C (T := TX5) (n := 10) (C9 := RX5) iX5 0 rfl rfl 0 (by decide) (List.mem_of_getElem? (i := 1) rfl) rfl rfl dX5_edge_39 ?_
        refine v_get C (T := TX0) (n := 7) (C9 := RX0) iX0 1 rfl rfl 5 (by decide) (List.mem_of_getElem? (i := 2) rfl) rfl rfl dX5_edge_42 ?_
        refine v_iload C 0 dX5_edge_45 rfl ?_
        refine v_iald C 9 0 rfl rfl dX5_edge_47 ?_
        refine v_iload_n C 4 dX5_edge_48 rfl ?_
        refine v_jn1 (wj := (fun v4 => (xW q cs n nd es kn knd kes img tl ta tn sl bey wt un ed kwt kun ked tb sb sz sbs G K P wk wh))) (pcj := 57) (lvj := (fun v4 => [(0, .ref (q 0)), (3, .int a3), (4, .int r2)])) (stj := (fun v4 => [.int (bI v4)])) (fun v4 => ?_) (fun k3 hk3 => ?_)
        · refine v_istore C (lv' := [(5, .int (bI v4)), (0, .ref (q 0)), (3, .int a3), (4, .int r2)]) dX5_edge_57 (by decide) rfl ?_
          refine v_aload_n C 1 dX5_edge_59 rfl ?_
          refine v_get C (T := TX5) (n := 10) (C9 := RX5) iX5 0 rfl rfl 0 (by decide) (List.mem_of_getElem? (i := 1) rfl) rfl rfl dX5_edge_60 ?_
          refine v_get C (T := TX0) (n := 7) (C9 := RX0) iX0 1 rfl rfl 5 (by decide) (List.mem_of_getElem? (i := 2) rfl) rfl rfl dX5_edge_63 ?_
          refine v_iload C 3 dX5_edge_66 rfl ?_
          refine v_iload_n C 2 dX5_edge_68 rfl ?_
          refine v_iast_nm C (fun ed5 => (xW q cs n nd es kn knd kes img tl ta tn sl bey wt un ed5 kwt kun ked tb sb sz sbs G K P wk wh)) 9 0 rfl rfl rfl (fun _ => rfl) dX5_edge_69 (fun ed5 => ?_)
          refine v_iload C 0 dX5_edge_70 rfl ?_
          refine v_ifb_eq C (b := v4) dX5_edge_72 (tgt := 79) (by decide) ?_ ?_
          · refine v_iconst C dX5_edge_79 (v := 1) (by decide) ?_
            exact v_iret (rvf := fun (res : Int32 × (Nat → Int32)) => (some (.int res.1))) (wf := fun (res : Int32 × (Nat → Int32)) => (xW q cs n nd es kn knd kes img tl ta tn sl bey wt un res.2 kwt kun ked tb sb sz sbs G K P wk wh)) C dX5_edge_80 rfl rfl
          · refine v_iconst C dX5_edge_75 (v := 0) (by decide) ?_
            refine v_goto C dX5_edge_76 (tgt := 80) (by decide) ?_
            exact v_iret (rvf := fun (res : Int32 × (Nat → Int32)) => (some (.int res.1))) (wf := fun (res : Int32 × (Nat → Int32)) => (xW q cs n nd es kn knd kes img tl ta tn sl bey wt un res.2 kwt kun ked tb sb sz sbs G K P wk wh)) C dX5_edge_80 rfl rfl
        · refine v_icmp_ne C dX5_edge_49 (tgt := 56) (by decide) ?_ ?_
          · refine v_iconst C dX5_edge_56 (v := 0) (by decide) ?_
            exact v_sub [1, 4, 0] rfl (hk3 false)
          · refine v_iconst C dX5_edge_52 (v := 1) (by decide) ?_
            refine v_goto C dX5_edge_53 (tgt := 57) (by decide) ?_
            exact v_sub [1, 4, 0] rfl (hk3 true)
      · refine v_bipush C dX5_edge_28 (v := (-2)) (by decide) ?_
        exact v_iret (rvf := fun (res : Int32 × (Nat → Int32)) => (some (.int res.1))) (wf := fun (res : Int32 × (Nat → Int32)) => (xW q cs n nd es kn knd kes img tl ta tn sl bey wt un res.2 kwt kun ked tb sb sz sbs G K P wk wh)) C dX5_edge_30 rfl rfl
  · refine v_iconst C dX5_edge_12 (v := (-1)) (by decide) ?_
    exact v_iret (rvf := fun (res : Int32 × (Nat → Int32)) => (some (.int res.1))) (wf := fun (res : Int32 × (Nat → Int32)) => (xW q cs n nd es kn knd kes img tl ta tn sl bey wt un res.2 kwt kun ked tb sb sz sbs G K P wk wh)) C dX5_edge_13 rfl rfl

def f_X5_cut (n : Int32) (ed : Nat → Int32) (a1 : Int32) (a2 : Int32) : Option (Int32 × (Nat → Int32)) :=
(f_X0_hasTwo n a1 a2).bind (fun (r1 : Bool) =>
if r1 = true then (
(f_X5_edgePlace a1 a2).bind (fun (r2 : Int32) =>
ck (inb r2 81) (
if (ed r2.toNatClampNeg : Int32) = 10000 then (
some ((-3), ed)) else (
ck (inb r2 81) (
nm (upd ed r2.toNatClampNeg 10000) (fun (ed3 : Nat → Int32) =>
some (1, ed3))))))) else (
some ((-1), ed)))

theorem nI_X5_cut : NameIn yX5_cut 2 := ⟨by decide +kernel, by decide +kernel, by decide +kernel⟩
set_option maxRecDepth 100000 in
set_option maxHeartbeats 4000000 in
theorem k_X5_cut {l : Launch} {a1 : Int32} {a2 : Int32}  {res : Int32 × (Nat → Int32)} (hq : (xA q).Nodup)  (hf : f_X5_cut n ed a1 a2 = some res) : kMet l yX5_cut wsX5_cut { frames := 2, cells := 0, slots := 0, locals := 44 } D vwCl (xT cs) (xN tF) (xA q) [.ref (q 0), .int a1, .int a2] (xW q cs n nd es kn knd kes img tl ta tn sl bey wt un ed kwt kun ked tb sb sz sbs G K P wk wh) (some (.int res.1)) (xW q cs n nd es kn knd kes img tl ta tn sl bey wt un res.2 kwt kun ked tb sb sz sbs G K P wk wh) := by
  have iX0 : ∀ w ∈ wsX00, w ∈ wsX5_cut := fun _ h => List.mem_cons_of_mem _ (List.mem_append_right _ h)
  have iX5 : ∀ w ∈ wsX50, w ∈ wsX5_cut := fun _ h => List.mem_cons_of_mem _ (List.mem_append_left _ (List.mem_append_right _ h))
  refine kMet.of (cc := cX5_cut) (nL := 4) (ret := (some .int)) (own := RX5) (lv := [(0, .ref (q 0)), (1, .int a1), (2, .int a2)]) (by decide +kernel) rfl rfl xN_ok hq (Nat.le_of_ble_eq_true rfl) rfl (fun X C => ?_)
  refine VF.of hf ?_
  unfold f_X5_cut
  refine v_aload_n C 0 dX5_cut_0 rfl ?_
  refine v_get C (T := TX5) (n := 10) (C9 := RX5) iX5 0 rfl rfl 0 (by decide) (List.mem_of_getElem? (i := 1) rfl) rfl rfl dX5_cut_1 ?_
  refine v_iload_n C 1 dX5_cut_4 rfl ?_
  refine v_iload_n C 2 dX5_cut_5 rfl ?_
  refine v_callV2v C 1 rfl rfl rfl (fun l9 r9 h9 => k_X0_hasTwo (l := l9) hq  h9) gX5_cut_X0_hasTwo rfl nI_X0_hasTwo ⟨rfl, rfl, Nat.le_of_ble_eq_true rfl, Nat.le_of_ble_eq_true rfl⟩ dX5_cut_6 (Nat.le_of_ble_eq_true rfl) (fun r1 => ?_)
  refine v_ifb_ne C (b := r1) dX5_cut_9 (tgt := 14) (by decide) ?_ ?_
  · refine v_iload_n C 1 dX5_cut_14 rfl ?_
    refine v_iload_n C 2 dX5_cut_15 rfl ?_
    refine v_callSP2v C (fun l9 r9 h9 => k_X5_edgePlace (l := l9) h9) gX5_cut_X5_edgePlace rfl nI_X5_edgePlace ⟨rfl, rfl, Nat.le_of_ble_eq_true rfl, Nat.le_of_ble_eq_true rfl⟩ dX5_cut_16 (Nat.le_of_ble_eq_true rfl) (fun r2 => ?_)
    refine v_istore_n C (lv' := [(3, .int r2), (0, .ref (q 0)), (1, .int a1), (2, .int a2)]) dX5_cut_19 rfl (by decide) rfl ?_
    refine v_aload_n C 1 dX5_cut_20 rfl ?_
    refine v_get C (T := TX5) (n := 10) (C9 := RX5) iX5 0 rfl rfl 0 (by decide) (List.mem_of_getElem? (i := 1) rfl) rfl rfl dX5_cut_21 ?_
    refine v_get C (T := TX0) (n := 7) (C9 := RX0) iX0 1 rfl rfl 5 (by decide) (List.mem_of_getElem? (i := 2) rfl) rfl rfl dX5_cut_24 ?_
    refine v_iload_n C 0 dX5_cut_27 rfl ?_
    refine v_iald C 9 0 rfl rfl dX5_cut_28 ?_
    refine v_sipush C dX5_cut_29 (v := 10000) (by decide) ?_
    refine v_icmp_ne C dX5_cut_32 (tgt := 38) (by decide) ?_ ?_
    · refine v_aload_n C 1 dX5_cut_38 rfl ?_
      refine v_get C (T := TX5) (n := 10) (C9 := RX5) iX5 0 rfl rfl 0 (by decide) (List.mem_of_getElem? (i := 1) rfl) rfl rfl dX5_cut_39 ?_
      refine v_get C (T := TX0) (n := 7) (C9 := RX0) iX0 1 rfl rfl 5 (by decide) (List.mem_of_getElem? (i := 2) rfl) rfl rfl dX5_cut_42 ?_
      refine v_iload_n C 0 dX5_cut_45 rfl ?_
      refine v_sipush C dX5_cut_46 (v := 10000) (by decide) ?_
      refine v_iast_nm C (fun ed3 => (xW q cs n nd es kn knd kes img tl ta tn sl bey wt un ed3 kwt kun ked tb sb sz sbs G K P wk wh)) 9 0 rfl rfl rfl (fun _ => rfl) dX5_cut_49 (fun ed3 => ?_)
      refine v_iconst C dX5_cut_50 (v := 1) (by decide) ?_
      exact v_iret (rvf := fun (res : Int32 × (Nat → Int32)) => (some (.int res.1))) (wf := fun (res : Int32 × (Nat → Int32)) => (xW q cs n nd es kn knd kes img tl ta tn sl bey wt un res.2 kwt kun ked tb sb sz sbs G K P wk wh)) C dX5_cut_51 rfl rfl
    · refine v_bipush C dX5_cut_35 (v := (-3)) (by decide) ?_
      exact v_iret (rvf := fun (res : Int32 × (Nat → Int32)) => (some (.int res.1))) (wf := fun (res : Int32 × (Nat → Int32)) => (xW q cs n nd es kn knd kes img tl ta tn sl bey wt un res.2 kwt kun ked tb sb sz sbs G K P wk wh)) C dX5_cut_37 rfl rfl
  · refine v_iconst C dX5_cut_12 (v := (-1)) (by decide) ?_
    exact v_iret (rvf := fun (res : Int32 × (Nat → Int32)) => (some (.int res.1))) (wf := fun (res : Int32 × (Nat → Int32)) => (xW q cs n nd es kn knd kes img tl ta tn sl bey wt un res.2 kwt kun ked tb sb sz sbs G K P wk wh)) C dX5_cut_13 rfl rfl

def f_X5_unite (n : Int32) (un : Nat → Int32) (a1 : Int32) (a2 : Int32) : Option (Int32 × (Nat → Int32)) :=
(f_X0_hasPartner n a1).bind (fun (r1 : Bool) =>
if r1 = true then (
(f_X0_hasPartner n a2).bind (fun (r2 : Bool) =>
if r2 = true then (
(f_X0_bringTogether n un a1 a2).bind (fun (r3 : (Nat → Int32)) =>
ck (inb a1 9) (
(f_X5_leastOf (r3 a1.toNatClampNeg)).bind (fun (r4 : Int32) =>
some (r4, r3))))) else (
some ((-1), un)))) else (
some ((-1), un)))

theorem nI_X5_unite : NameIn yX5_unite 2 := ⟨by decide +kernel, by decide +kernel, by decide +kernel⟩
set_option maxRecDepth 100000 in
set_option maxHeartbeats 4000000 in
theorem k_X5_unite {l : Launch} {a1 : Int32} {a2 : Int32}  {res : Int32 × (Nat → Int32)} (hq : (xA q).Nodup)  (hf : f_X5_unite n un a1 a2 = some res) : kMet l yX5_unite wsX5_unite { frames := 2, cells := 0, slots := 0, locals := 45 } D vwCl (xT cs) (xN tF) (xA q) [.ref (q 0), .int a1, .int a2] (xW q cs n nd es kn knd kes img tl ta tn sl bey wt un ed kwt kun ked tb sb sz sbs G K P wk wh) (some (.int res.1)) (xW q cs n nd es kn knd kes img tl ta tn sl bey wt res.2 ed kwt kun ked tb sb sz sbs G K P wk wh) := by
  have iX0 : ∀ w ∈ wsX00, w ∈ wsX5_unite := fun _ h => List.mem_cons_of_mem _ (List.mem_append_right _ h)
  have iX5 : ∀ w ∈ wsX50, w ∈ wsX5_unite := fun _ h => List.mem_cons_of_mem _ (List.mem_append_left _ (List.mem_append_right _ h))
  refine kMet.of (cc := cX5_unite) (nL := 3) (ret := (some .int)) (own := RX5) (lv := [(0, .ref (q 0)), (1, .int a1), (2, .int a2)]) (by decide +kernel) rfl rfl xN_ok hq (Nat.le_of_ble_eq_true rfl) rfl (fun X C => ?_)
  refine VF.of hf ?_
  unfold f_X5_unite
  refine v_aload_n C 0 dX5_unite_0 rfl ?_
  refine v_get C (T := TX5) (n := 10) (C9 := RX5) iX5 0 rfl rfl 0 (by decide) (List.mem_of_getElem? (i := 1) rfl) rfl rfl dX5_unite_1 ?_
  refine v_iload_n C 1 dX5_unite_4 rfl ?_
  refine v_callV1v C 1 rfl rfl rfl (fun l9 r9 h9 => k_X0_hasPartner (l := l9) hq  h9) gX5_unite_X0_hasPartner rfl nI_X0_hasPartner ⟨rfl, rfl, Nat.le_of_ble_eq_true rfl, Nat.le_of_ble_eq_true rfl⟩ dX5_unite_5 (Nat.le_of_ble_eq_true rfl) (fun r1 => ?_)
  refine v_ifb_eq C (b := r1) dX5_unite_8 (tgt := 22) (by decide) ?_ ?_
  · refine v_iconst C dX5_unite_22 (v := (-1)) (by decide) ?_
    exact v_iret (rvf := fun (res : Int32 × (Nat → Int32)) => (some (.int res.1))) (wf := fun (res : Int32 × (Nat → Int32)) => (xW q cs n nd es kn knd kes img tl ta tn sl bey wt res.2 ed kwt kun ked tb sb sz sbs G K P wk wh)) C dX5_unite_23 rfl rfl
  · refine v_aload_n C 0 dX5_unite_11 rfl ?_
    refine v_get C (T := TX5) (n := 10) (C9 := RX5) iX5 0 rfl rfl 0 (by decide) (List.mem_of_getElem? (i := 1) rfl) rfl rfl dX5_unite_12 ?_
    refine v_iload_n C 2 dX5_unite_15 rfl ?_
    refine v_callV1v C 1 rfl rfl rfl (fun l9 r9 h9 => k_X0_hasPartner (l := l9) hq  h9) gX5_unite_X0_hasPartner rfl nI_X0_hasPartner ⟨rfl, rfl, Nat.le_of_ble_eq_true rfl, Nat.le_of_ble_eq_true rfl⟩ dX5_unite_16 (Nat.le_of_ble_eq_true rfl) (fun r2 => ?_)
    refine v_ifb_ne C (b := r2) dX5_unite_19 (tgt := 24) (by decide) ?_ ?_
    · refine v_aload_n C 0 dX5_unite_24 rfl ?_
      refine v_get C (T := TX5) (n := 10) (C9 := RX5) iX5 0 rfl rfl 0 (by decide) (List.mem_of_getElem? (i := 1) rfl) rfl rfl dX5_unite_25 ?_
      refine v_iload_n C 1 dX5_unite_28 rfl ?_
      refine v_iload_n C 2 dX5_unite_29 rfl ?_
      refine v_callV2n C 1 rfl rfl rfl (fun l9 r9 h9 => k_X0_bringTogether (l := l9) hq  h9) gX5_unite_X0_bringTogether rfl nI_X0_bringTogether ⟨rfl, rfl, Nat.le_of_ble_eq_true rfl, Nat.le_of_ble_eq_true rfl⟩ dX5_unite_30 (Nat.le_of_ble_eq_true rfl) (fun r3 => ?_)
      refine v_aload_n C 0 dX5_unite_33 rfl ?_
      refine v_get C (T := TX5) (n := 10) (C9 := RX5) iX5 0 rfl rfl 0 (by decide) (List.mem_of_getElem? (i := 1) rfl) rfl rfl dX5_unite_34 ?_
      refine v_get C (T := TX0) (n := 7) (C9 := RX0) iX0 1 rfl rfl 4 (by decide) (List.mem_of_getElem? (i := 2) rfl) rfl rfl dX5_unite_37 ?_
      refine v_iload_n C 1 dX5_unite_40 rfl ?_
      refine v_iald C 8 0 rfl rfl dX5_unite_41 ?_
      refine v_callSP1v C (fun l9 r9 h9 => k_X5_leastOf (l := l9) h9) gX5_unite_X5_leastOf rfl nI_X5_leastOf ⟨rfl, rfl, Nat.le_of_ble_eq_true rfl, Nat.le_of_ble_eq_true rfl⟩ dX5_unite_42 (Nat.le_of_ble_eq_true rfl) (fun r4 => ?_)
      exact v_iret (rvf := fun (res : Int32 × (Nat → Int32)) => (some (.int res.1))) (wf := fun (res : Int32 × (Nat → Int32)) => (xW q cs n nd es kn knd kes img tl ta tn sl bey wt res.2 ed kwt kun ked tb sb sz sbs G K P wk wh)) C dX5_unite_45 rfl rfl
    · refine v_iconst C dX5_unite_22 (v := (-1)) (by decide) ?_
      exact v_iret (rvf := fun (res : Int32 × (Nat → Int32)) => (some (.int res.1))) (wf := fun (res : Int32 × (Nat → Int32)) => (xW q cs n nd es kn knd kes img tl ta tn sl bey wt res.2 ed kwt kun ked tb sb sz sbs G K P wk wh)) C dX5_unite_23 rfl rfl

def f_X5_feed (tl : Int32) (tb : Nat → Int32) (a1 : Int32) : Option (Int32 × Int32 × (Nat → Int32)) :=
if (a1 : Int32) < 1 then (
some ((-2), tl, tb)) else (
if (127 : Int32) < a1 then (
some ((-2), tl, tb)) else (
(f_X4_append tl tb a1.toInt8.toInt32).bind (fun (r1 : Bool × Int32 × (Nat → Int32)) =>
if r1.1 = true then (
some (r1.2.1, r1.2.1, r1.2.2)) else (
some ((-4), r1.2.1, r1.2.2)))))

theorem nI_X5_feed : NameIn yX5_feed 1 := ⟨by decide +kernel, by decide +kernel, by decide +kernel⟩
set_option maxRecDepth 100000 in
set_option maxHeartbeats 4000000 in
theorem k_X5_feed {l : Launch} {a1 : Int32}  {res : Int32 × Int32 × (Nat → Int32)} (hq : (xA q).Nodup)  (hf : f_X5_feed tl tb a1 = some res) : kMet l yX5_feed wsX5_feed { frames := 1, cells := 0, slots := 0, locals := 21 } D vwCl (xT cs) (xN tF) (xA q) [.ref (q 0), .int a1] (xW q cs n nd es kn knd kes img tl ta tn sl bey wt un ed kwt kun ked tb sb sz sbs G K P wk wh) (some (.int res.1)) (xW q cs n nd es kn knd kes img res.2.1 ta tn sl bey wt un ed kwt kun ked res.2.2 sb sz sbs G K P wk wh) := by
  have iX4 : ∀ w ∈ wsX40, w ∈ wsX5_feed := fun _ h => List.mem_cons_of_mem _ (List.mem_append_right _ h)
  have iX5 : ∀ w ∈ wsX50, w ∈ wsX5_feed := fun _ h => List.mem_cons_of_mem _ (List.mem_append_left _ (List.mem_append_right _ h))
  refine kMet.of (cc := cX5_feed) (nL := 2) (ret := (some .int)) (own := RX5) (lv := [(0, .ref (q 0)), (1, .int a1)]) (by decide +kernel) rfl rfl xN_ok hq (Nat.le_of_ble_eq_true rfl) rfl (fun X C => ?_)
  refine VF.of hf ?_
  unfold f_X5_feed
  refine v_iload_n C 1 dX5_feed_0 rfl ?_
  refine v_iconst C dX5_feed_1 (v := 1) (by decide) ?_
  refine v_icmp_lt C dX5_feed_2 (tgt := 11) (by decide) ?_ ?_
  · refine v_bipush C dX5_feed_11 (v := (-2)) (by decide) ?_
    exact v_iret (rvf := fun (res : Int32 × Int32 × (Nat → Int32)) => (some (.int res.1))) (wf := fun (res : Int32 × Int32 × (Nat → Int32)) => (xW q cs n nd es kn knd kes img res.2.1 ta tn sl bey wt un ed kwt kun ked res.2.2 sb sz sbs G K P wk wh)) C dX5_feed_13 rfl rfl
  · refine v_iload_n C 1 dX5_feed_5 rfl ?_
    refine v_bipush C dX5_feed_6 (v := 127) (by decide) ?_
    refine v_icmp_le C dX5_feed_8 (tgt := 14) (by decide) ?_ ?_
    · refine v_aload_n C 0 dX5_feed_14 rfl ?_
      refine v_get C (T := TX5) (n := 10) (C9 := RX5) iX5 0 rfl rfl 3 (by decide) (List.mem_of_getElem? (i := 1) rfl) rfl rfl dX5_feed_15 ?_
      refine v_iload_n C 1 dX5_feed_18 rfl ?_
      refine v_i2b C dX5_feed_19 ?_
      refine v_callV1v C 3 rfl rfl rfl (fun l9 r9 h9 => k_X4_append (l := l9) hq  h9) gX5_feed_X4_append rfl nI_X4_append ⟨rfl, rfl, Nat.le_of_ble_eq_true rfl, Nat.le_of_ble_eq_true rfl⟩ dX5_feed_20 (Nat.le_of_ble_eq_true rfl) (fun r1 => ?_)
      refine v_ifb_eq C (b := r1.1) dX5_feed_23 (tgt := 36) (by decide) ?_ ?_
      · refine v_bipush C dX5_feed_36 (v := (-4)) (by decide) ?_
        exact v_iret (rvf := fun (res : Int32 × Int32 × (Nat → Int32)) => (some (.int res.1))) (wf := fun (res : Int32 × Int32 × (Nat → Int32)) => (xW q cs n nd es kn knd kes img res.2.1 ta tn sl bey wt un ed kwt kun ked res.2.2 sb sz sbs G K P wk wh)) C dX5_feed_38 rfl rfl
      · refine v_aload_n C 0 dX5_feed_26 rfl ?_
        refine v_get C (T := TX5) (n := 10) (C9 := RX5) iX5 0 rfl rfl 3 (by decide) (List.mem_of_getElem? (i := 1) rfl) rfl rfl dX5_feed_27 ?_
        refine v_get C (T := TX4) (n := 4) (C9 := RX4) iX4 3 rfl rfl 1 (by decide) (List.mem_of_getElem? (i := 2) rfl) rfl rfl dX5_feed_30 ?_
        refine v_goto C dX5_feed_33 (tgt := 38) (by decide) ?_
        exact v_iret (rvf := fun (res : Int32 × Int32 × (Nat → Int32)) => (some (.int res.1))) (wf := fun (res : Int32 × Int32 × (Nat → Int32)) => (xW q cs n nd es kn knd kes img res.2.1 ta tn sl bey wt un ed kwt kun ked res.2.2 sb sz sbs G K P wk wh)) C dX5_feed_38 rfl rfl
    · refine v_bipush C dX5_feed_11 (v := (-2)) (by decide) ?_
      exact v_iret (rvf := fun (res : Int32 × Int32 × (Nat → Int32)) => (some (.int res.1))) (wf := fun (res : Int32 × Int32 × (Nat → Int32)) => (xW q cs n nd es kn knd kes img res.2.1 ta tn sl bey wt un ed kwt kun ked res.2.2 sb sz sbs G K P wk wh)) C dX5_feed_13 rfl rfl

def f_X5_clear (tl : Int32) : Option (Int32 × Int32) :=
(f_X4_wipe tl).bind (fun (r1 : Int32) =>
some (tl, r1))

theorem nI_X5_clear : NameIn yX5_clear 0 := ⟨by decide +kernel, by decide +kernel, by decide +kernel⟩
set_option maxRecDepth 100000 in
set_option maxHeartbeats 4000000 in
theorem k_X5_clear {l : Launch}   {res : Int32 × Int32} (hq : (xA q).Nodup)  (hf : f_X5_clear tl = some res) : kMet l yX5_clear wsX5_clear { frames := 1, cells := 0, slots := 0, locals := 20 } D vwCl (xT cs) (xN tF) (xA q) [.ref (q 0)] (xW q cs n nd es kn knd kes img tl ta tn sl bey wt un ed kwt kun ked tb sb sz sbs G K P wk wh) (some (.int res.1)) (xW q cs n nd es kn knd kes img res.2 ta tn sl bey wt un ed kwt kun ked tb sb sz sbs G K P wk wh) := by
  have iX4 : ∀ w ∈ wsX40, w ∈ wsX5_clear := fun _ h => List.mem_cons_of_mem _ (List.mem_append_right _ h)
  have iX5 : ∀ w ∈ wsX50, w ∈ wsX5_clear := fun _ h => List.mem_cons_of_mem _ (List.mem_append_left _ (List.mem_append_right _ h))
  refine kMet.of (cc := cX5_clear) (nL := 2) (ret := (some .int)) (own := RX5) (lv := [(0, .ref (q 0))]) (by decide +kernel) rfl rfl xN_ok hq (Nat.le_of_ble_eq_true rfl) rfl (fun X C => ?_)
  refine VF.of hf ?_
  unfold f_X5_clear
  refine v_aload_n C 0 dX5_clear_0 rfl ?_
  refine v_get C (T := TX5) (n := 10) (C9 := RX5) iX5 0 rfl rfl 3 (by decide) (List.mem_of_getElem? (i := 1) rfl) rfl rfl dX5_clear_1 ?_
  refine v_get C (T := TX4) (n := 4) (C9 := RX4) iX4 3 rfl rfl 1 (by decide) (List.mem_of_getElem? (i := 2) rfl) rfl rfl dX5_clear_4 ?_
  refine v_istore_n C (lv' := [(1, .int tl), (0, .ref (q 0))]) dX5_clear_7 rfl (by decide) rfl ?_
  refine v_aload_n C 1 dX5_clear_8 rfl ?_
  refine v_get C (T := TX5) (n := 10) (C9 := RX5) iX5 0 rfl rfl 3 (by decide) (List.mem_of_getElem? (i := 1) rfl) rfl rfl dX5_clear_9 ?_
  refine v_callV0n C 3 rfl rfl rfl (fun l9 r9 h9 => k_X4_wipe (l := l9) hq  h9) gX5_clear_X4_wipe rfl nI_X4_wipe ⟨rfl, rfl, Nat.le_of_ble_eq_true rfl, Nat.le_of_ble_eq_true rfl⟩ dX5_clear_12 (Nat.le_of_ble_eq_true rfl) (fun r1 => ?_)
  refine v_iload_n C 0 dX5_clear_15 rfl ?_
  exact v_iret (rvf := fun (res : Int32 × Int32) => (some (.int res.1))) (wf := fun (res : Int32 × Int32) => (xW q cs n nd es kn knd kes img res.2 ta tn sl bey wt un ed kwt kun ked tb sb sz sbs G K P wk wh)) C dX5_clear_16 rfl rfl

def B_X5_settle_1 (n : Int32) (wk : Nat → Int64) (a1 : Int32) (rec2 : Int32 → Int32 → (Nat → Nat → Int64) → Option (Int32 × (Nat → Nat → Int64)))  (v3 : Int32) (v4 : Int32) (G5 : Nat → Nat → Int64) : Option (Int32 × (Nat → Nat → Int64)) :=
(f_X0_sets n).bind (fun (r6 : Int32) =>
if (v4 : Int32) < r6 then (
ck (inb v4 512) (
ck (inb v4 512) (
jn2 (fun (v8 : Int32) (G9 : Nat → Nat → Int64) =>
nm (v4 + 1) (fun (x10 : Int32) =>
rec2 v8 x10 G9)) (fun k7 =>
if ((G5 a1.toNatClampNeg) v4.toNatClampNeg : Int64) = (wk v4.toNatClampNeg) then (
k7 v3 G5) else (
ck (inb v4 512) (
ck (inb v4 512) (
nm (vp_updL (G5 a1.toNatClampNeg) v4.toNatClampNeg (wk v4.toNatClampNeg)) (fun (F11 : Nat → Int64) =>
nm (va_up G5 a1.toNatClampNeg F11) (fun (G12 : Nat → Nat → Int64) =>
nm (v3 + 1) (fun (x13 : Int32) =>
k7 x13 G12)))))))))) else (
some (v3, G5)))
def L_X5_settle_1 (n : Int32) (wk : Nat → Int64) (a1 : Int32)  : Nat → Int32 → Int32 → (Nat → Nat → Int64) → Option (Int32 × (Nat → Nat → Int64))
  | 0, _, _, _ => none
  | m9 + 1, v3, v4, G5 => B_X5_settle_1 n wk a1 (L_X5_settle_1 n wk a1 m9)  v3 v4 G5

def f_X5_settle (n : Int32) (G : Nat → Nat → Int64) (wk : Nat → Int64) (a1 : Int32) : Option (Int32 × (Nat → Nat → Int64)) :=
ck (inb a1 4) (
L_X5_settle_1 n wk a1  FU 0 0 G)

theorem nI_X5_settle : NameIn yX5_settle 1 := ⟨by decide +kernel, by decide +kernel, by decide +kernel⟩
set_option maxRecDepth 100000 in
set_option maxHeartbeats 4000000 in
theorem lp_X5_settle_1 {X : CX} {res : Int32 × (Nat → Nat → Int64)} {a1 : Int32}   (hq : (xA q).Nodup) (C : Ok X cX5_settle 5 (some .int) wsX5_settle RX5 { frames := 1, cells := 0, slots := 0, locals := 20 } D vwCl (xT cs) (xA q) (xN tF) (some (.int res.1)) (xW q cs n nd es kn knd kes img tl ta tn sl bey wt un ed kwt kun ked tb sb sz sbs res.2 K P wk wh)) (hj1 : a1.toNatClampNeg < 4) : ∀ fuel : Nat, ∀ v3 : Int32, ∀ v4 : Int32, ∀ G5 : Nat → Nat → Int64, VF X res (L_X5_settle_1 n wk a1 fuel v3 v4 G5) (xW q cs n nd es kn knd kes img tl ta tn sl bey wt un ed kwt kun ked tb sb sz sbs G5 K P wk wh) 15 [(0, .ref (q 0)), (2, .ref (q (22 + a1.toNatClampNeg))), (3, .int v3), (4, .int v4)] [] := by
  have iX5 : ∀ w ∈ wsX50, w ∈ wsX5_settle := fun _ h => List.mem_cons_of_mem _ (List.mem_append_left _ (List.mem_append_right _ h))
  intro fuel
  induction fuel with
  | zero =>
    intro _ _ _
    exact v_none
  | succ fuel ih =>
    intro v3 v4 G5
    show VF X res (B_X5_settle_1 n wk a1 (L_X5_settle_1 n wk a1 fuel)  v3 v4 G5) _ _ _ _
    unfold B_X5_settle_1
    refine v_iload C 3 dX5_settle_15 rfl ?_
    refine v_aload_n C 0 dX5_settle_17 rfl ?_
    refine v_get C (T := TX5) (n := 10) (C9 := RX5) iX5 0 rfl rfl 0 (by decide) (List.mem_of_getElem? (i := 1) rfl) rfl rfl dX5_settle_18 ?_
    refine v_callV0v C 1 rfl rfl rfl (fun l9 r9 h9 => k_X0_sets (l := l9) hq  h9) gX5_settle_X0_sets rfl nI_X0_sets ⟨rfl, rfl, Nat.le_of_ble_eq_true rfl, Nat.le_of_ble_eq_true rfl⟩ dX5_settle_21 (Nat.le_of_ble_eq_true rfl) (fun r6 => ?_)
    refine v_icmp_ge C dX5_settle_24 (tgt := 62) (by decide) ?_ ?_
    · refine v_iload_n C 2 dX5_settle_62 rfl ?_
      exact v_iret (rvf := fun (res : Int32 × (Nat → Nat → Int64)) => (some (.int res.1))) (wf := fun (res : Int32 × (Nat → Nat → Int64)) => (xW q cs n nd es kn knd kes img tl ta tn sl bey wt un ed kwt kun ked tb sb sz sbs res.2 K P wk wh)) C dX5_settle_63 rfl rfl
    · refine v_aload_n C 1 dX5_settle_27 rfl ?_
      refine v_iload C 3 dX5_settle_28 rfl ?_
      refine v_lald C (22 + a1.toNatClampNeg) 1 (xW_G hj1) rfl dX5_settle_30 ?_
      refine v_aload_n C 0 dX5_settle_31 rfl ?_
      refine v_get C (T := TX5) (n := 10) (C9 := RX5) iX5 0 rfl rfl 7 (by decide) (List.mem_of_getElem? (i := 3) rfl) rfl rfl dX5_settle_32 ?_
      refine v_iload C 3 dX5_settle_35 rfl ?_
      refine v_lald C 19 1 rfl rfl dX5_settle_37 ?_
      refine v_jn2 (wj := (fun v8 G9 => (xW q cs n nd es kn knd kes img tl ta tn sl bey wt un ed kwt kun ked tb sb sz sbs G9 K P wk wh))) (pcj := 56) (lvj := (fun v8 G9 => [(0, .ref (q 0)), (2, .ref (q (22 + a1.toNatClampNeg))), (3, .int v8), (4, .int v4)])) (stj := (fun v8 G9 => [])) (fun v8 G9 => ?_) (fun k7 hk7 => ?_)
      · refine v_iinc_nm C (lvf := fun x10 => [(4, .int x10), (0, .ref (q 0)), (2, .ref (q (22 + a1.toNatClampNeg))), (3, .int v8)]) 3 dX5_settle_56 rfl rfl (by decide) (fun _ => rfl) (fun x10 => ?_)
        refine v_goto C dX5_settle_59 (tgt := 15) (by decide) ?_
        exact v_sub [1, 2, 3, 0] rfl (ih v8 x10 G9)
      · refine v_lcmp_eq C dX5_settle_38 dX5_settle_39 (tgt := 56) (by decide) ?_ ?_
        · exact v_sub [0, 1, 2, 3] rfl (hk7 v3 G5)
        · refine v_aload_n C 1 dX5_settle_42 rfl ?_
          refine v_iload C 3 dX5_settle_43 rfl ?_
          refine v_aload_n C 0 dX5_settle_45 rfl ?_
          refine v_get C (T := TX5) (n := 10) (C9 := RX5) iX5 0 rfl rfl 7 (by decide) (List.mem_of_getElem? (i := 3) rfl) rfl rfl dX5_settle_46 ?_
          refine v_iload C 3 dX5_settle_49 rfl ?_
          refine v_lald C 19 1 rfl rfl dX5_settle_51 ?_
          refine v_last_nm C (fun F11 => (xW q cs n nd es kn knd kes img tl ta tn sl bey wt un ed kwt kun ked tb sb sz sbs (va_up G5 a1.toNatClampNeg F11) K P wk wh)) (22 + a1.toNatClampNeg) 1 (xW_G hj1) rfl rfl (fun _ => xW_G_set hj1) dX5_settle_52 (fun F11 => ?_)
          refine v_namew (wf := fun G12 => (xW q cs n nd es kn knd kes img tl ta tn sl bey wt un ed kwt kun ked tb sb sz sbs G12 K P wk wh)) (fun G12 => ?_)
          refine v_iinc_nm C (lvf := fun x13 => [(3, .int x13), (0, .ref (q 0)), (2, .ref (q (22 + a1.toNatClampNeg))), (4, .int v4)]) 2 dX5_settle_53 rfl rfl (by decide) (fun _ => rfl) (fun x13 => ?_)
          exact v_sub [1, 2, 0, 3] rfl (hk7 x13 G12)

set_option maxRecDepth 100000 in
set_option maxHeartbeats 4000000 in
theorem k_X5_settle {l : Launch} {a1 : Int32}  {res : Int32 × (Nat → Nat → Int64)} (hq : (xA q).Nodup)  (hf : f_X5_settle n G wk a1 = some res) : kMet l yX5_settle wsX5_settle { frames := 1, cells := 0, slots := 0, locals := 20 } D vwCl (xT cs) (xN tF) (xA q) [.ref (q 0), .int a1] (xW q cs n nd es kn knd kes img tl ta tn sl bey wt un ed kwt kun ked tb sb sz sbs G K P wk wh) (some (.int res.1)) (xW q cs n nd es kn knd kes img tl ta tn sl bey wt un ed kwt kun ked tb sb sz sbs res.2 K P wk wh) := by
  have iX0 : ∀ w ∈ wsX00, w ∈ wsX5_settle := fun _ h => List.mem_cons_of_mem _ (List.mem_append_right _ h)
  have iX5 : ∀ w ∈ wsX50, w ∈ wsX5_settle := fun _ h => List.mem_cons_of_mem _ (List.mem_append_left _ (List.mem_append_right _ h))
  refine kMet.of (cc := cX5_settle) (nL := 5) (ret := (some .int)) (own := RX5) (lv := [(0, .ref (q 0)), (1, .int a1)]) (by decide +kernel) rfl rfl xN_ok hq (Nat.le_of_ble_eq_true rfl) rfl (fun X C => ?_)
  refine VF.of hf ?_
  unfold f_X5_settle
  refine v_aload_n C 0 dX5_settle_0 rfl ?_
  refine v_get C (T := TX5) (n := 10) (C9 := RX5) iX5 0 rfl rfl 0 (by decide) (List.mem_of_getElem? (i := 1) rfl) rfl rfl dX5_settle_1 ?_
  refine v_get C (T := TX0) (n := 7) (C9 := RX0) iX0 1 rfl rfl 6 (by decide) (List.mem_of_getElem? (i := 2) rfl) rfl rfl dX5_settle_4 ?_
  refine v_iload_n C 1 dX5_settle_7 rfl ?_
  refine v_aalda C (ad := fun j9 => q (22 + j9)) 10 3 rfl rfl (fun _ h9 => if_pos h9) dX5_settle_8 (fun hb1 => ?_)
  have hj1 := inb_lt hb1
  refine v_astore_n C (lv' := [(2, .ref (q (22 + a1.toNatClampNeg))), (0, .ref (q 0)), (1, .int a1)]) dX5_settle_9 rfl (by decide) rfl ?_
  refine v_iconst C dX5_settle_10 (v := 0) (by decide) ?_
  refine v_istore_n C (lv' := [(3, .int 0), (2, .ref (q (22 + a1.toNatClampNeg))), (0, .ref (q 0)), (1, .int a1)]) dX5_settle_11 rfl (by decide) rfl ?_
  refine v_iconst C dX5_settle_12 (v := 0) (by decide) ?_
  refine v_istore C (lv' := [(4, .int 0), (3, .int 0), (2, .ref (q (22 + a1.toNatClampNeg))), (0, .ref (q 0)), (1, .int a1)]) dX5_settle_13 (by decide) rfl ?_
  refine v_sub [3, 2, 1, 0] rfl (lp_X5_settle_1 hq C hj1  FU 0 0 G)

def f_X5_read (n : Int32) (tl : Int32) (ta : Int32) (tn : Int64) (tb : Nat → Int32) (G : Nat → Nat → Int64) (wk : Nat → Int64) (a1 : Int32) : Option (Int32 × Int32 × Int32 × Int64 × (Nat → Nat → Int64) × (Nat → Int64)) :=
(f_X5_isGame a1).bind (fun (r1 : Bool) =>
if r1 = true then (
ck (inb a1 4) (
(f_X0_sets n).bind (fun (r3 : Int32) =>
ck (cpk (0 : Int32) (0 : Int32) r3 512 512) (
nm (va_cpy (G a1.toNatClampNeg) wk (0 : Int32).toNatClampNeg (0 : Int32).toNatClampNeg r3.toNatClampNeg) (fun (wk4 : Nat → Int64) =>
(f_X4_readInto tl ta tn tb wk4 n).bind (fun (r5 : Int32 × Int32 × Int64 × (Nat → Int64)) =>
(f_X4_wipe tl).bind (fun (r6 : Int32) =>
if (0 : Int32) < r5.1 then (
(f_X5_settle n G r5.2.2.2 a1).bind (fun (r7 : Int32 × (Nat → Nat → Int64)) =>
some (r5.1, r6, r5.2.1, r5.2.2.1, r7.2, r5.2.2.2))) else (
some (r5.1, r6, r5.2.1, r5.2.2.1, G, r5.2.2.2))))))))) else (
some ((-1), tl, ta, tn, G, wk)))

theorem nI_X5_read : NameIn yX5_read 1 := ⟨by decide +kernel, by decide +kernel, by decide +kernel⟩
set_option maxRecDepth 100000 in
set_option maxHeartbeats 4000000 in
theorem k_X5_read {l : Launch} {a1 : Int32}  {res : Int32 × Int32 × Int32 × Int64 × (Nat → Nat → Int64) × (Nat → Int64)} (hq : (xA q).Nodup)  (hf : f_X5_read n tl ta tn tb G wk a1 = some res) : kMet l yX5_read wsX5_read { frames := 5, cells := 0, slots := 0, locals := 114 } D vwCl (xT cs) (xN tF) (xA q) [.ref (q 0), .int a1] (xW q cs n nd es kn knd kes img tl ta tn sl bey wt un ed kwt kun ked tb sb sz sbs G K P wk wh) (some (.int res.1)) (xW q cs n nd es kn knd kes img res.2.1 res.2.2.1 res.2.2.2.1 sl bey wt un ed kwt kun ked tb sb sz sbs res.2.2.2.2.1 K P res.2.2.2.2.2 wh) := by
  have iX0 : ∀ w ∈ wsX00, w ∈ wsX5_read := fun _ h => List.mem_cons_of_mem _ (List.mem_append_left _ (List.mem_append_right _ h))
  have iX5 : ∀ w ∈ wsX50, w ∈ wsX5_read := fun _ h => List.mem_cons_of_mem _ (List.mem_append_left _ (List.mem_append_left _ (List.mem_append_right _ h)))
  refine kMet.of (cc := cX5_read) (nL := 3) (ret := (some .int)) (own := RX5) (lv := [(0, .ref (q 0)), (1, .int a1)]) (by decide +kernel) rfl rfl xN_ok hq (Nat.le_of_ble_eq_true rfl) rfl (fun X C => ?_)
  refine VF.of hf ?_
  unfold f_X5_read
  refine v_iload_n C 1 dX5_read_0 rfl ?_
  refine v_callSP1v C (fun l9 r9 h9 => k_X5_isGame (l := l9) h9) gX5_read_X5_isGame rfl nI_X5_isGame ⟨rfl, rfl, Nat.le_of_ble_eq_true rfl, Nat.le_of_ble_eq_true rfl⟩ dX5_read_1 (Nat.le_of_ble_eq_true rfl) (fun r1 => ?_)
  refine v_ifb_ne C (b := r1) dX5_read_4 (tgt := 9) (by decide) ?_ ?_
  · refine v_aload_n C 0 dX5_read_9 rfl ?_
    refine v_get C (T := TX5) (n := 10) (C9 := RX5) iX5 0 rfl rfl 0 (by decide) (List.mem_of_getElem? (i := 1) rfl) rfl rfl dX5_read_10 ?_
    refine v_get C (T := TX0) (n := 7) (C9 := RX0) iX0 1 rfl rfl 6 (by decide) (List.mem_of_getElem? (i := 2) rfl) rfl rfl dX5_read_13 ?_
    refine v_iload_n C 1 dX5_read_16 rfl ?_
    refine v_aalda C (ad := fun j9 => q (22 + j9)) 10 3 rfl rfl (fun _ h9 => if_pos h9) dX5_read_17 (fun hb2 => ?_)
    have hj2 := inb_lt hb2
    refine v_iconst C dX5_read_18 (v := 0) (by decide) ?_
    refine v_aload_n C 0 dX5_read_19 rfl ?_
    refine v_get C (T := TX5) (n := 10) (C9 := RX5) iX5 0 rfl rfl 7 (by decide) (List.mem_of_getElem? (i := 3) rfl) rfl rfl dX5_read_20 ?_
    refine v_iconst C dX5_read_23 (v := 0) (by decide) ?_
    refine v_aload_n C 0 dX5_read_24 rfl ?_
    refine v_get C (T := TX5) (n := 10) (C9 := RX5) iX5 0 rfl rfl 0 (by decide) (List.mem_of_getElem? (i := 1) rfl) rfl rfl dX5_read_25 ?_
    refine v_callV0v C 1 rfl rfl rfl (fun l9 r9 h9 => k_X0_sets (l := l9) hq  h9) gX5_read_X0_sets rfl nI_X0_sets ⟨rfl, rfl, Nat.le_of_ble_eq_true rfl, Nat.le_of_ble_eq_true rfl⟩ dX5_read_28 (Nat.le_of_ble_eq_true rfl) (fun r3 => ?_)
    refine v_copyl_nm C (fun wk4 => (xW q cs n nd es kn knd kes img tl ta tn sl bey wt un ed kwt kun ked tb sb sz sbs G K P wk4 wh)) (List.mem_of_getElem? (i := 4) rfl) (List.mem_of_getElem? (i := 5) rfl) (List.mem_of_getElem? (i := 6) rfl) (List.mem_of_getElem? (i := 7) rfl) (22 + a1.toNatClampNeg) 19 1 1 (xW_G hj2) rfl rfl rfl rfl (fun _ => rfl) (Nat.le_of_ble_eq_true rfl) (Nat.le_of_ble_eq_true rfl) dX5_read_31 (fun wk4 => ?_)
    refine v_aload_n C 0 dX5_read_34 rfl ?_
    refine v_get C (T := TX5) (n := 10) (C9 := RX5) iX5 0 rfl rfl 3 (by decide) (List.mem_of_getElem? (i := 8) rfl) rfl rfl dX5_read_35 ?_
    refine v_aload_n C 0 dX5_read_38 rfl ?_
    refine v_get C (T := TX5) (n := 10) (C9 := RX5) iX5 0 rfl rfl 7 (by decide) (List.mem_of_getElem? (i := 3) rfl) rfl rfl dX5_read_39 ?_
    refine v_aload_n C 0 dX5_read_42 rfl ?_
    refine v_get C (T := TX5) (n := 10) (C9 := RX5) iX5 0 rfl rfl 0 (by decide) (List.mem_of_getElem? (i := 1) rfl) rfl rfl dX5_read_43 ?_
    refine v_get C (T := TX0) (n := 7) (C9 := RX0) iX0 1 rfl rfl 0 (by decide) (List.mem_of_getElem? (i := 9) rfl) rfl rfl dX5_read_46 ?_
    refine v_callV2v C 3 rfl rfl rfl (fun l9 r9 h9 => k_X4_readInto (l := l9) hq  h9) gX5_read_X4_readInto rfl nI_X4_readInto ⟨rfl, rfl, Nat.le_of_ble_eq_true rfl, Nat.le_of_ble_eq_true rfl⟩ dX5_read_49 (Nat.le_of_ble_eq_true rfl) (fun r5 => ?_)
    refine v_istore_n C (lv' := [(2, .int r5.1), (0, .ref (q 0)), (1, .int a1)]) dX5_read_52 rfl (by decide) rfl ?_
    refine v_aload_n C 1 dX5_read_53 rfl ?_
    refine v_get C (T := TX5) (n := 10) (C9 := RX5) iX5 0 rfl rfl 3 (by decide) (List.mem_of_getElem? (i := 8) rfl) rfl rfl dX5_read_54 ?_
    refine v_callV0n C 3 rfl rfl rfl (fun l9 r9 h9 => k_X4_wipe (l := l9) hq  h9) gX5_read_X4_wipe rfl nI_X4_wipe ⟨rfl, rfl, Nat.le_of_ble_eq_true rfl, Nat.le_of_ble_eq_true rfl⟩ dX5_read_57 (Nat.le_of_ble_eq_true rfl) (fun r6 => ?_)
    refine v_iload_n C 0 dX5_read_60 rfl ?_
    refine v_if_le C dX5_read_61 (tgt := 70) (by decide) ?_ ?_
    · refine v_iload_n C 0 dX5_read_70 rfl ?_
      exact v_iret (rvf := fun (res : Int32 × Int32 × Int32 × Int64 × (Nat → Nat → Int64) × (Nat → Int64)) => (some (.int res.1))) (wf := fun (res : Int32 × Int32 × Int32 × Int64 × (Nat → Nat → Int64) × (Nat → Int64)) => (xW q cs n nd es kn knd kes img res.2.1 res.2.2.1 res.2.2.2.1 sl bey wt un ed kwt kun ked tb sb sz sbs res.2.2.2.2.1 K P res.2.2.2.2.2 wh)) C dX5_read_71 rfl rfl
    · refine v_aload_n C 1 dX5_read_64 rfl ?_
      refine v_iload_n C 2 dX5_read_65 rfl ?_
      refine v_callV1v C 0 rfl rfl rfl (fun l9 r9 h9 => k_X5_settle (l := l9) hq  h9) gX5_read_X5_settle rfl nI_X5_settle ⟨rfl, rfl, Nat.le_of_ble_eq_true rfl, Nat.le_of_ble_eq_true rfl⟩ dX5_read_66 (Nat.le_of_ble_eq_true rfl) (fun r7 => ?_)
      refine v_pop C dX5_read_69 rfl ?_
      refine v_iload_n C 0 dX5_read_70 rfl ?_
      exact v_iret (rvf := fun (res : Int32 × Int32 × Int32 × Int64 × (Nat → Nat → Int64) × (Nat → Int64)) => (some (.int res.1))) (wf := fun (res : Int32 × Int32 × Int32 × Int64 × (Nat → Nat → Int64) × (Nat → Int64)) => (xW q cs n nd es kn knd kes img res.2.1 res.2.2.1 res.2.2.2.1 sl bey wt un ed kwt kun ked tb sb sz sbs res.2.2.2.2.1 K P res.2.2.2.2.2 wh)) C dX5_read_71 rfl rfl
  · refine v_iconst C dX5_read_7 (v := (-1)) (by decide) ?_
    exact v_iret (rvf := fun (res : Int32 × Int32 × Int32 × Int64 × (Nat → Nat → Int64) × (Nat → Int64)) => (some (.int res.1))) (wf := fun (res : Int32 × Int32 × Int32 × Int64 × (Nat → Nat → Int64) × (Nat → Int64)) => (xW q cs n nd es kn knd kes img res.2.1 res.2.2.1 res.2.2.2.1 sl bey wt un ed kwt kun ked tb sb sz sbs res.2.2.2.2.1 K P res.2.2.2.2.2 wh)) C dX5_read_8 rfl rfl

def B_X5_settleMade_1 (n : Int32) (wk : Nat → Int64) (r1 : Int32 × (Nat → Nat → Int64)) (rec2 : Int32 → Int32 → Option (Int32 × (Nat → Nat → Int64)))  (v3 : Int32) (v4 : Int32) : Option (Int32 × (Nat → Nat → Int64)) :=
(f_X0_sets n).bind (fun (r5 : Int32) =>
if (v4 : Int32) < r5 then (
ck (inb v4 512) (
jn1 (fun (v7 : Int32) =>
nm (v4 + 1) (fun (x8 : Int32) =>
rec2 v7 x8)) (fun k6 =>
if (wk v4.toNatClampNeg : Int64) = 0 then (
k6 v3) else (
nm (v3 + 1) (fun (x9 : Int32) =>
k6 x9))))) else (
some (v3, r1.2)))
def L_X5_settleMade_1 (n : Int32) (wk : Nat → Int64) (r1 : Int32 × (Nat → Nat → Int64))  : Nat → Int32 → Int32 → Option (Int32 × (Nat → Nat → Int64))
  | 0, _, _ => none
  | m9 + 1, v3, v4 => B_X5_settleMade_1 n wk r1 (L_X5_settleMade_1 n wk r1 m9)  v3 v4

def f_X5_settleMade (n : Int32) (G : Nat → Nat → Int64) (wk : Nat → Int64) (a1 : Int32) : Option (Int32 × (Nat → Nat → Int64)) :=
(f_X5_settle n G wk a1).bind (fun (r1 : Int32 × (Nat → Nat → Int64)) =>
L_X5_settleMade_1 n wk r1  FU 0 0)

theorem nI_X5_settleMade : NameIn yX5_settleMade 1 := ⟨by decide +kernel, by decide +kernel, by decide +kernel⟩
set_option maxRecDepth 100000 in
set_option maxHeartbeats 4000000 in
theorem lp_X5_settleMade_1 {X : CX} {res : Int32 × (Nat → Nat → Int64)}   {r1 : Int32 × (Nat → Nat → Int64)} (hq : (xA q).Nodup) (C : Ok X cX5_settleMade 4 (some .int) wsX5_settleMade RX5 { frames := 2, cells := 0, slots := 0, locals := 44 } D vwCl (xT cs) (xA q) (xN tF) (some (.int res.1)) (xW q cs n nd es kn knd kes img tl ta tn sl bey wt un ed kwt kun ked tb sb sz sbs res.2 K P wk wh))  : ∀ fuel : Nat, ∀ v3 : Int32, ∀ v4 : Int32, VF X res (L_X5_settleMade_1 n wk r1 fuel v3 v4) (xW q cs n nd es kn knd kes img tl ta tn sl bey wt un ed kwt kun ked tb sb sz sbs r1.2 K P wk wh) 10 [(0, .ref (q 0)), (2, .int v3), (3, .int v4)] [] := by
  have iX5 : ∀ w ∈ wsX50, w ∈ wsX5_settleMade := fun _ h => List.mem_cons_of_mem _ (List.mem_append_left _ (List.mem_append_right _ h))
  intro fuel
  induction fuel with
  | zero =>
    intro _ _
    exact v_none
  | succ fuel ih =>
    intro v3 v4
    show VF X res (B_X5_settleMade_1 n wk r1 (L_X5_settleMade_1 n wk r1 fuel)  v3 v4) _ _ _ _
    unfold B_X5_settleMade_1
    refine v_iload_n C 2 dX5_settleMade_10 rfl ?_
    refine v_aload_n C 0 dX5_settleMade_11 rfl ?_
    refine v_get C (T := TX5) (n := 10) (C9 := RX5) iX5 0 rfl rfl 0 (by decide) (List.mem_of_getElem? (i := 1) rfl) rfl rfl dX5_settleMade_12 ?_
    refine v_callV0v C 1 rfl rfl rfl (fun l9 r9 h9 => k_X0_sets (l := l9) hq  h9) gX5_settleMade_X0_sets rfl nI_X0_sets ⟨rfl, rfl, Nat.le_of_ble_eq_true rfl, Nat.le_of_ble_eq_true rfl⟩ dX5_settleMade_15 (Nat.le_of_ble_eq_true rfl) (fun r5 => ?_)
    refine v_icmp_ge C dX5_settleMade_18 (tgt := 41) (by decide) ?_ ?_
    · refine v_iload_n C 1 dX5_settleMade_41 rfl ?_
      exact v_iret (rvf := fun (res : Int32 × (Nat → Nat → Int64)) => (some (.int res.1))) (wf := fun (res : Int32 × (Nat → Nat → Int64)) => (xW q cs n nd es kn knd kes img tl ta tn sl bey wt un ed kwt kun ked tb sb sz sbs res.2 K P wk wh)) C dX5_settleMade_42 rfl rfl
    · refine v_aload_n C 0 dX5_settleMade_21 rfl ?_
      refine v_get C (T := TX5) (n := 10) (C9 := RX5) iX5 0 rfl rfl 7 (by decide) (List.mem_of_getElem? (i := 2) rfl) rfl rfl dX5_settleMade_22 ?_
      refine v_iload_n C 2 dX5_settleMade_25 rfl ?_
      refine v_lald C 19 1 rfl rfl dX5_settleMade_26 ?_
      refine v_lconst C dX5_settleMade_27 (v := 0) (by decide) ?_
      refine v_jn1 (wj := (fun v7 => (xW q cs n nd es kn knd kes img tl ta tn sl bey wt un ed kwt kun ked tb sb sz sbs r1.2 K P wk wh))) (pcj := 35) (lvj := (fun v7 => [(0, .ref (q 0)), (2, .int v7), (3, .int v4)])) (stj := (fun v7 => [])) (fun v7 => ?_) (fun k6 hk6 => ?_)
      · refine v_iinc_nm C (lvf := fun x8 => [(3, .int x8), (0, .ref (q 0)), (2, .int v7)]) 2 dX5_settleMade_35 rfl rfl (by decide) (fun _ => rfl) (fun x8 => ?_)
        refine v_goto C dX5_settleMade_38 (tgt := 10) (by decide) ?_
        exact v_sub [1, 2, 0] rfl (ih v7 x8)
      · refine v_lcmp_eq C dX5_settleMade_28 dX5_settleMade_29 (tgt := 35) (by decide) ?_ ?_
        · exact v_sub [0, 1, 2] rfl (hk6 v3)
        · refine v_iinc_nm C (lvf := fun x9 => [(2, .int x9), (0, .ref (q 0)), (3, .int v4)]) 1 dX5_settleMade_32 rfl rfl (by decide) (fun _ => rfl) (fun x9 => ?_)
          exact v_sub [1, 0, 2] rfl (hk6 x9)

set_option maxRecDepth 100000 in
set_option maxHeartbeats 4000000 in
theorem k_X5_settleMade {l : Launch} {a1 : Int32}  {res : Int32 × (Nat → Nat → Int64)} (hq : (xA q).Nodup)  (hf : f_X5_settleMade n G wk a1 = some res) : kMet l yX5_settleMade wsX5_settleMade { frames := 2, cells := 0, slots := 0, locals := 44 } D vwCl (xT cs) (xN tF) (xA q) [.ref (q 0), .int a1] (xW q cs n nd es kn knd kes img tl ta tn sl bey wt un ed kwt kun ked tb sb sz sbs G K P wk wh) (some (.int res.1)) (xW q cs n nd es kn knd kes img tl ta tn sl bey wt un ed kwt kun ked tb sb sz sbs res.2 K P wk wh) := by
  refine kMet.of (cc := cX5_settleMade) (nL := 4) (ret := (some .int)) (own := RX5) (lv := [(0, .ref (q 0)), (1, .int a1)]) (by decide +kernel) rfl rfl xN_ok hq (Nat.le_of_ble_eq_true rfl) rfl (fun X C => ?_)
  refine VF.of hf ?_
  unfold f_X5_settleMade
  refine v_aload_n C 0 dX5_settleMade_0 rfl ?_
  refine v_iload_n C 1 dX5_settleMade_1 rfl ?_
  refine v_callV1v C 0 rfl rfl rfl (fun l9 r9 h9 => k_X5_settle (l := l9) hq  h9) gX5_settleMade_X5_settle rfl nI_X5_settle ⟨rfl, rfl, Nat.le_of_ble_eq_true rfl, Nat.le_of_ble_eq_true rfl⟩ dX5_settleMade_2 (Nat.le_of_ble_eq_true rfl) (fun r1 => ?_)
  refine v_pop C dX5_settleMade_5 rfl ?_
  refine v_iconst C dX5_settleMade_6 (v := 0) (by decide) ?_
  refine v_istore_n C (lv' := [(2, .int 0), (0, .ref (q 0)), (1, .int a1)]) dX5_settleMade_7 rfl (by decide) rfl ?_
  refine v_iconst C dX5_settleMade_8 (v := 0) (by decide) ?_
  refine v_istore_n C (lv' := [(3, .int 0), (2, .int 0), (0, .ref (q 0)), (1, .int a1)]) dX5_settleMade_9 rfl (by decide) rfl ?_
  refine v_sub [2, 1, 0] rfl (lp_X5_settleMade_1 hq C   FU 0 0)

def B_X5_make_1 (n : Int32) (nd : Int32) (es : Int32) (wt : Nat → Int32) (ed : Nat → Int32) (a1 : Int32) (a2 : Int32) (rec2 : Int32 → (Nat → Nat → Int64) → (Nat → Int64) → Option (Int32 × (Nat → Nat → Int64) × (Nat → Int64)))  (v3 : Int32) (G4 : Nat → Nat → Int64) (wk5 : Nat → Int64) : Option (Int32 × (Nat → Nat → Int64) × (Nat → Int64)) :=
(f_X0_sets n).bind (fun (r6 : Int32) =>
if (v3 : Int32) < r6 then (
jn1 (fun (v9 : Int64) =>
ck (inb v3 512) (
nm (vp_updL wk5 v3.toNatClampNeg v9) (fun (wk10 : Nat → Int64) =>
nm (v3 + 1) (fun (x11 : Int32) =>
rec2 x11 G4 wk10)))) (fun k8 =>
if (v3 : Int32) = 0 then (
k8 0) else (
(f_X0_madeValue n nd es wt ed a2 v3).bind (fun (r12 : Int64) =>
k8 r12)))) else (
(f_X5_settleMade n G4 wk5 a1).bind (fun (r7 : Int32 × (Nat → Nat → Int64)) =>
some (r7.1, r7.2, wk5))))
def L_X5_make_1 (n : Int32) (nd : Int32) (es : Int32) (wt : Nat → Int32) (ed : Nat → Int32) (a1 : Int32) (a2 : Int32)  : Nat → Int32 → (Nat → Nat → Int64) → (Nat → Int64) → Option (Int32 × (Nat → Nat → Int64) × (Nat → Int64))
  | 0, _, _, _ => none
  | m9 + 1, v3, G4, wk5 => B_X5_make_1 n nd es wt ed a1 a2 (L_X5_make_1 n nd es wt ed a1 a2 m9)  v3 G4 wk5

def f_X5_make (n : Int32) (nd : Int32) (es : Int32) (wt : Nat → Int32) (ed : Nat → Int32) (G : Nat → Nat → Int64) (wk : Nat → Int64) (a1 : Int32) (a2 : Int32) : Option (Int32 × (Nat → Nat → Int64) × (Nat → Int64)) :=
(f_X5_isGame a1).bind (fun (r1 : Bool) =>
if r1 = true then (
if (a2 : Int32) < 0 then (
some ((-1), G, wk)) else (
if (4 : Int32) < a2 then (
some ((-1), G, wk)) else (
L_X5_make_1 n nd es wt ed a1 a2  FU 0 G wk))) else (
some ((-1), G, wk)))

theorem nI_X5_make : NameIn yX5_make 2 := ⟨by decide +kernel, by decide +kernel, by decide +kernel⟩
set_option maxRecDepth 100000 in
set_option maxHeartbeats 4000000 in
theorem lp_X5_make_1 {X : CX} {res : Int32 × (Nat → Nat → Int64) × (Nat → Int64)} {a1 : Int32} {a2 : Int32}   (hq : (xA q).Nodup) (C : Ok X cX5_make 4 (some .int) wsX5_make RX5 { frames := 4, cells := 0, slots := 0, locals := 91 } D vwCl (xT cs) (xA q) (xN tF) (some (.int res.1)) (xW q cs n nd es kn knd kes img tl ta tn sl bey wt un ed kwt kun ked tb sb sz sbs res.2.1 K P res.2.2 wh))  : ∀ fuel : Nat, ∀ v3 : Int32, ∀ G4 : Nat → Nat → Int64, ∀ wk5 : Nat → Int64, VF X res (L_X5_make_1 n nd es wt ed a1 a2 fuel v3 G4 wk5) (xW q cs n nd es kn knd kes img tl ta tn sl bey wt un ed kwt kun ked tb sb sz sbs G4 K P wk5 wh) 20 [(0, .ref (q 0)), (1, .int a1), (2, .int a2), (3, .int v3)] [] := by
  have iX5 : ∀ w ∈ wsX50, w ∈ wsX5_make := fun _ h => List.mem_cons_of_mem _ (List.mem_append_left _ (List.mem_append_right _ h))
  intro fuel
  induction fuel with
  | zero =>
    intro _ _ _
    exact v_none
  | succ fuel ih =>
    intro v3 G4 wk5
    show VF X res (B_X5_make_1 n nd es wt ed a1 a2 (L_X5_make_1 n nd es wt ed a1 a2 fuel)  v3 G4 wk5) _ _ _ _
    unfold B_X5_make_1
    refine v_iload_n C 3 dX5_make_20 rfl ?_
    refine v_aload_n C 0 dX5_make_21 rfl ?_
    refine v_get C (T := TX5) (n := 10) (C9 := RX5) iX5 0 rfl rfl 0 (by decide) (List.mem_of_getElem? (i := 1) rfl) rfl rfl dX5_make_22 ?_
    refine v_callV0v C 1 rfl rfl rfl (fun l9 r9 h9 => k_X0_sets (l := l9) hq  h9) gX5_make_X0_sets rfl nI_X0_sets ⟨rfl, rfl, Nat.le_of_ble_eq_true rfl, Nat.le_of_ble_eq_true rfl⟩ dX5_make_25 (Nat.le_of_ble_eq_true rfl) (fun r6 => ?_)
    refine v_icmp_ge C dX5_make_28 (tgt := 60) (by decide) ?_ ?_
    · refine v_aload_n C 0 dX5_make_60 rfl ?_
      refine v_iload_n C 1 dX5_make_61 rfl ?_
      refine v_callV1v C 0 rfl rfl rfl (fun l9 r9 h9 => k_X5_settleMade (l := l9) hq  h9) gX5_make_X5_settleMade rfl nI_X5_settleMade ⟨rfl, rfl, Nat.le_of_ble_eq_true rfl, Nat.le_of_ble_eq_true rfl⟩ dX5_make_62 (Nat.le_of_ble_eq_true rfl) (fun r7 => ?_)
      exact v_iret (rvf := fun (res : Int32 × (Nat → Nat → Int64) × (Nat → Int64)) => (some (.int res.1))) (wf := fun (res : Int32 × (Nat → Nat → Int64) × (Nat → Int64)) => (xW q cs n nd es kn knd kes img tl ta tn sl bey wt un ed kwt kun ked tb sb sz sbs res.2.1 K P res.2.2 wh)) C dX5_make_65 rfl rfl
    · refine v_aload_n C 0 dX5_make_31 rfl ?_
      refine v_get C (T := TX5) (n := 10) (C9 := RX5) iX5 0 rfl rfl 7 (by decide) (List.mem_of_getElem? (i := 2) rfl) rfl rfl dX5_make_32 ?_
      refine v_iload_n C 3 dX5_make_35 rfl ?_
      refine v_iload_n C 3 dX5_make_36 rfl ?_
      refine v_jn1 (wj := (fun v9 => (xW q cs n nd es kn knd kes img tl ta tn sl bey wt un ed kwt kun ked tb sb sz sbs G4 K P wk5 wh))) (pcj := 53) (lvj := (fun v9 => [(0, .ref (q 0)), (1, .int a1), (2, .int a2), (3, .int v3)])) (stj := (fun v9 => [.long v9, .int v3, .ref (q 19)])) (fun v9 => ?_) (fun k8 hk8 => ?_)
      · refine v_last_nm C (fun wk10 => (xW q cs n nd es kn knd kes img tl ta tn sl bey wt un ed kwt kun ked tb sb sz sbs G4 K P wk10 wh)) 19 1 rfl rfl rfl (fun _ => rfl) dX5_make_53 (fun wk10 => ?_)
        refine v_iinc_nm C (lvf := fun x11 => [(3, .int x11), (0, .ref (q 0)), (1, .int a1), (2, .int a2)]) 3 dX5_make_54 rfl rfl (by decide) (fun _ => rfl) (fun x11 => ?_)
        refine v_goto C dX5_make_57 (tgt := 20) (by decide) ?_
        exact v_sub [1, 2, 3, 0] rfl (ih x11 G4 wk10)
      · refine v_if_ne C dX5_make_37 (tgt := 44) (by decide) ?_ ?_
        · refine v_aload_n C 0 dX5_make_44 rfl ?_
          refine v_get C (T := TX5) (n := 10) (C9 := RX5) iX5 0 rfl rfl 0 (by decide) (List.mem_of_getElem? (i := 1) rfl) rfl rfl dX5_make_45 ?_
          refine v_iload_n C 2 dX5_make_48 rfl ?_
          refine v_iload_n C 3 dX5_make_49 rfl ?_
          refine v_callV2v C 1 rfl rfl rfl (fun l9 r9 h9 => k_X0_madeValue (l := l9) hq  h9) gX5_make_X0_madeValue rfl nI_X0_madeValue ⟨rfl, rfl, Nat.le_of_ble_eq_true rfl, Nat.le_of_ble_eq_true rfl⟩ dX5_make_50 (Nat.le_of_ble_eq_true rfl) (fun r12 => ?_)
          exact v_sub [0, 1, 2, 3] rfl (hk8 r12)
        · refine v_lconst C dX5_make_40 (v := 0) (by decide) ?_
          refine v_goto C dX5_make_41 (tgt := 53) (by decide) ?_
          exact v_sub [0, 1, 2, 3] rfl (hk8 0)

set_option maxRecDepth 100000 in
set_option maxHeartbeats 4000000 in
theorem k_X5_make {l : Launch} {a1 : Int32} {a2 : Int32}  {res : Int32 × (Nat → Nat → Int64) × (Nat → Int64)} (hq : (xA q).Nodup)  (hf : f_X5_make n nd es wt ed G wk a1 a2 = some res) : kMet l yX5_make wsX5_make { frames := 4, cells := 0, slots := 0, locals := 91 } D vwCl (xT cs) (xN tF) (xA q) [.ref (q 0), .int a1, .int a2] (xW q cs n nd es kn knd kes img tl ta tn sl bey wt un ed kwt kun ked tb sb sz sbs G K P wk wh) (some (.int res.1)) (xW q cs n nd es kn knd kes img tl ta tn sl bey wt un ed kwt kun ked tb sb sz sbs res.2.1 K P res.2.2 wh) := by
  refine kMet.of (cc := cX5_make) (nL := 4) (ret := (some .int)) (own := RX5) (lv := [(0, .ref (q 0)), (1, .int a1), (2, .int a2)]) (by decide +kernel) rfl rfl xN_ok hq (Nat.le_of_ble_eq_true rfl) rfl (fun X C => ?_)
  refine VF.of hf ?_
  unfold f_X5_make
  refine v_iload_n C 1 dX5_make_0 rfl ?_
  refine v_callSP1v C (fun l9 r9 h9 => k_X5_isGame (l := l9) h9) gX5_make_X5_isGame rfl nI_X5_isGame ⟨rfl, rfl, Nat.le_of_ble_eq_true rfl, Nat.le_of_ble_eq_true rfl⟩ dX5_make_1 (Nat.le_of_ble_eq_true rfl) (fun r1 => ?_)
  refine v_ifb_eq C (b := r1) dX5_make_4 (tgt := 16) (by decide) ?_ ?_
  · refine v_iconst C dX5_make_16 (v := (-1)) (by decide) ?_
    exact v_iret (rvf := fun (res : Int32 × (Nat → Nat → Int64) × (Nat → Int64)) => (some (.int res.1))) (wf := fun (res : Int32 × (Nat → Nat → Int64) × (Nat → Int64)) => (xW q cs n nd es kn knd kes img tl ta tn sl bey wt un ed kwt kun ked tb sb sz sbs res.2.1 K P res.2.2 wh)) C dX5_make_17 rfl rfl
  · refine v_iload_n C 2 dX5_make_7 rfl ?_
    refine v_if_lt C dX5_make_8 (tgt := 16) (by decide) ?_ ?_
    · refine v_iconst C dX5_make_16 (v := (-1)) (by decide) ?_
      exact v_iret (rvf := fun (res : Int32 × (Nat → Nat → Int64) × (Nat → Int64)) => (some (.int res.1))) (wf := fun (res : Int32 × (Nat → Nat → Int64) × (Nat → Int64)) => (xW q cs n nd es kn knd kes img tl ta tn sl bey wt un ed kwt kun ked tb sb sz sbs res.2.1 K P res.2.2 wh)) C dX5_make_17 rfl rfl
    · refine v_iload_n C 2 dX5_make_11 rfl ?_
      refine v_iconst C dX5_make_12 (v := 4) (by decide) ?_
      refine v_icmp_le C dX5_make_13 (tgt := 18) (by decide) ?_ ?_
      · refine v_iconst C dX5_make_18 (v := 0) (by decide) ?_
        refine v_istore_n C (lv' := [(3, .int 0), (0, .ref (q 0)), (1, .int a1), (2, .int a2)]) dX5_make_19 rfl (by decide) rfl ?_
        refine v_sub [1, 2, 3, 0] rfl (lp_X5_make_1 hq C   FU 0 G wk)
      · refine v_iconst C dX5_make_16 (v := (-1)) (by decide) ?_
        exact v_iret (rvf := fun (res : Int32 × (Nat → Nat → Int64) × (Nat → Int64)) => (some (.int res.1))) (wf := fun (res : Int32 × (Nat → Nat → Int64) × (Nat → Int64)) => (xW q cs n nd es kn knd kes img tl ta tn sl bey wt un ed kwt kun ked tb sb sz sbs res.2.1 K P res.2.2 wh)) C dX5_make_17 rfl rfl

end WK
