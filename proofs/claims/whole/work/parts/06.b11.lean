section WK
variable {q : Nat → Nat} {cs : Nat → ClassId} {D : va_G} {tF : Nat} {n : Int32} {nd : Int32} {es : Int32} {kn : Int32} {knd : Int32} {kes : Int32} {img : Bool} {tl : Int32} {ta : Int32} {tn : Int64} {sl : Int32} {bey : Bool} {wt : Nat → Int32} {un : Nat → Int32} {ed : Nat → Int32} {kwt : Nat → Int32} {kun : Nat → Int32} {ked : Nat → Int32} {tb : Nat → Int32} {sb : Nat → Int32} {sz : Nat → Int32} {sbs : Nat → Int32} {G : Nat → Nat → Int64} {K : Nat → Nat → Int64} {P : Nat → Nat → Int64} {wk : Nat → Int64} {wh : Nat → Int64}
def f_X5_isOfKind (n : Int32) (bey : Bool) (vs : Nat → Int64) (a2 : Int32) (a3 : Int32) : Option (Bool × Bool) :=
if (a3 : Int32) = 0 then (
(f_X5_addsAlways n bey vs a2 0).bind (fun (r1 : Bool × Bool) =>
some (r1.1, r1.2))) else (
if (a3 : Int32) = 1 then (
ck (inb (1 <<< (a2 &&& 31)) 512) (
(f_X5_addsAlways n bey vs a2 (vs (1 <<< (a2 &&& 31)).toNatClampNeg)).bind (fun (r2 : Bool × Bool) =>
some (r2.1, r2.2)))) else (
(f_X5_hasVeto n vs a2).bind (fun (r3 : Bool) =>
some (r3, bey))))

theorem nI_X5_isOfKind : NameIn yX5_isOfKind 3 := ⟨by decide +kernel, by decide +kernel, by decide +kernel⟩
set_option maxRecDepth 100000 in
set_option maxHeartbeats 4000000 in
theorem k_X5_isOfKind {l : Launch} {a2 : Int32} {a3 : Int32} {vj : Nat} {res : Bool × Bool} (hq : (xA q).Nodup) (hvj : vj < 4) (hf : f_X5_isOfKind n bey (G vj) a2 a3 = some res) : kMet l yX5_isOfKind wsX5_isOfKind { frames := 3, cells := 0, slots := 0, locals := 76 } D vwCl (xT cs) (xN tF) (xA q) [.ref (q 0), .ref (q (22 + vj)), .int a2, .int a3] (xW q cs n nd es kn knd kes img tl ta tn sl bey wt un ed kwt kun ked tb sb sz sbs G K P wk wh) (some (.int (bI res.1))) (xW q cs n nd es kn knd kes img tl ta tn sl res.2 wt un ed kwt kun ked tb sb sz sbs G K P wk wh) := by
  refine kMet.of (cc := cX5_isOfKind) (nL := 4) (ret := (some .boolean)) (own := RX5) (lv := [(0, .ref (q 0)), (1, .ref (q (22 + vj))), (2, .int a2), (3, .int a3)]) (by decide +kernel) rfl rfl xN_ok hq (Nat.le_of_ble_eq_true rfl) rfl (fun X C => ?_)
  refine VF.of hf ?_
  unfold f_X5_isOfKind
  refine v_iload_n C 3 dX5_isOfKind_0 rfl ?_
  refine v_split (fun h0 => ?_) (fun h0 => ?_)
  · refine v_look C dX5_isOfKind_1 (tgt := 28) (off := 27) (by decide) (by rw [h0]; rfl) (by decide) ?_
    refine v_aload_n C 0 dX5_isOfKind_28 rfl ?_
    refine v_aload_n C 1 dX5_isOfKind_29 rfl ?_
    refine v_iload_n C 2 dX5_isOfKind_30 rfl ?_
    refine v_lconst C dX5_isOfKind_31 (v := 0) (by decide) ?_
    refine v_callV3v C 0 rfl rfl rfl (fun l9 r9 h9 => k_X5_addsAlways (l := l9) hq hvj h9) gX5_isOfKind_X5_addsAlways rfl nI_X5_addsAlways ⟨rfl, rfl, Nat.le_of_ble_eq_true rfl, Nat.le_of_ble_eq_true rfl⟩ dX5_isOfKind_32 (Nat.le_of_ble_eq_true rfl) (fun r1 => ?_)
    exact v_zret (rvf := fun (res : Bool × Bool) => (some (.int (bI res.1)))) (wf := fun (res : Bool × Bool) => (xW q cs n nd es kn knd kes img tl ta tn sl res.2 wt un ed kwt kun ked tb sb sz sbs G K P wk wh)) C dX5_isOfKind_35 rfl rfl
  · refine v_split (fun h1 => ?_) (fun h1 => ?_)
    · refine v_look C dX5_isOfKind_1 (tgt := 36) (off := 35) (by decide) (by rw [h1]; rfl) (by decide) ?_
      refine v_aload_n C 0 dX5_isOfKind_36 rfl ?_
      refine v_aload_n C 1 dX5_isOfKind_37 rfl ?_
      refine v_iload_n C 2 dX5_isOfKind_38 rfl ?_
      refine v_aload_n C 1 dX5_isOfKind_39 rfl ?_
      refine v_iconst C dX5_isOfKind_40 (v := 1) (by decide) ?_
      refine v_iload_n C 2 dX5_isOfKind_41 rfl ?_
      refine v_ishl C dX5_isOfKind_42 ?_
      refine v_lald C (22 + vj) 1 (xW_G hvj) rfl dX5_isOfKind_43 ?_
      refine v_callV3v C 0 rfl rfl rfl (fun l9 r9 h9 => k_X5_addsAlways (l := l9) hq hvj h9) gX5_isOfKind_X5_addsAlways rfl nI_X5_addsAlways ⟨rfl, rfl, Nat.le_of_ble_eq_true rfl, Nat.le_of_ble_eq_true rfl⟩ dX5_isOfKind_44 (Nat.le_of_ble_eq_true rfl) (fun r2 => ?_)
      exact v_zret (rvf := fun (res : Bool × Bool) => (some (.int (bI res.1)))) (wf := fun (res : Bool × Bool) => (xW q cs n nd es kn knd kes img tl ta tn sl res.2 wt un ed kwt kun ked tb sb sz sbs G K P wk wh)) C dX5_isOfKind_47 rfl rfl
    · refine v_look C dX5_isOfKind_1 (tgt := 48) (off := 47) (by decide) ((lv_osw h0 (by decide)).trans ( (lv_osw h1 (by decide)).trans (rfl))) (by decide) ?_
      refine v_aload_n C 0 dX5_isOfKind_48 rfl ?_
      refine v_aload_n C 1 dX5_isOfKind_49 rfl ?_
      refine v_iload_n C 2 dX5_isOfKind_50 rfl ?_
      refine v_callV2v C 0 rfl rfl rfl (fun l9 r9 h9 => k_X5_hasVeto (l := l9) hq hvj h9) gX5_isOfKind_X5_hasVeto rfl nI_X5_hasVeto ⟨rfl, rfl, Nat.le_of_ble_eq_true rfl, Nat.le_of_ble_eq_true rfl⟩ dX5_isOfKind_51 (Nat.le_of_ble_eq_true rfl) (fun r3 => ?_)
      exact v_zret (rvf := fun (res : Bool × Bool) => (some (.int (bI res.1)))) (wf := fun (res : Bool × Bool) => (xW q cs n nd es kn knd kes img tl ta tn sl res.2 wt un ed kwt kun ked tb sb sz sbs G K P wk wh)) C dX5_isOfKind_54 rfl rfl

def B_X5_kind_1 (n : Int32) (G : Nat → Nat → Int64) (a1 : Int32) (a2 : Int32) (rec2 : Int32 → Int32 → Bool → Option (Int32 × Bool))  (v3 : Int32) (v4 : Int32) (bey5 : Bool) : Option (Int32 × Bool) :=
if (v4 : Int32) < n then (
ck (inb a1 4) (
(f_X5_isOfKind n bey5 (G a1.toNatClampNeg) v4 a2).bind (fun (r7 : Bool × Bool) =>
jn1 (fun (v9 : Int32) =>
nm (v4 + 1) (fun (x10 : Int32) =>
rec2 v9 x10 r7.2)) (fun k8 =>
if r7.1 = true then (
nm (v3 ||| (1 <<< (v4 &&& 31))) (fun (x11 : Int32) =>
k8 x11)) else (
k8 v3))))) else (
some (v3, bey5))
def L_X5_kind_1 (n : Int32) (G : Nat → Nat → Int64) (a1 : Int32) (a2 : Int32)  : Nat → Int32 → Int32 → Bool → Option (Int32 × Bool)
  | 0, _, _, _ => none
  | m9 + 1, v3, v4, bey5 => B_X5_kind_1 n G a1 a2 (L_X5_kind_1 n G a1 a2 m9)  v3 v4 bey5

def f_X5_kind (n : Int32) (bey : Bool) (G : Nat → Nat → Int64) (a1 : Int32) (a2 : Int32) : Option (Int32 × Bool) :=
(f_X5_isGame a1).bind (fun (r1 : Bool) =>
if r1 = true then (
if (a2 : Int32) < 0 then (
some ((-1), bey)) else (
if (2 : Int32) < a2 then (
some ((-1), bey)) else (
L_X5_kind_1 n G a1 a2  FU 0 0 bey))) else (
some ((-1), bey)))

theorem nI_X5_kind : NameIn yX5_kind 2 := ⟨by decide +kernel, by decide +kernel, by decide +kernel⟩
set_option maxRecDepth 100000 in
set_option maxHeartbeats 4000000 in
theorem lp_X5_kind_1 {X : CX} {res : Int32 × Bool} {a1 : Int32} {a2 : Int32}   (hq : (xA q).Nodup) (C : Ok X cX5_kind 5 (some .int) wsX5_kind RX5 { frames := 4, cells := 0, slots := 0, locals := 99 } D vwCl (xT cs) (xA q) (xN tF) (some (.int res.1)) (xW q cs n nd es kn knd kes img tl ta tn sl res.2 wt un ed kwt kun ked tb sb sz sbs G K P wk wh))  : ∀ fuel : Nat, ∀ v3 : Int32, ∀ v4 : Int32, ∀ bey5 : Bool, VF X res (L_X5_kind_1 n G a1 a2 fuel v3 v4 bey5) (xW q cs n nd es kn knd kes img tl ta tn sl bey5 wt un ed kwt kun ked tb sb sz sbs G K P wk wh) 23 [(0, .ref (q 0)), (1, .int a1), (2, .int a2), (3, .int v3), (4, .int v4)] [] := by
  have iX0 : ∀ w ∈ wsX00, w ∈ wsX5_kind := fun _ h => List.mem_cons_of_mem _ (List.mem_append_left _ (List.mem_append_right _ h))
  have iX5 : ∀ w ∈ wsX50, w ∈ wsX5_kind := fun _ h => List.mem_cons_of_mem _ (List.mem_append_left _ (List.mem_append_left _ (List.mem_append_right _ h)))
  intro fuel
  induction fuel with
  | zero =>
    intro _ _ _
    exact v_none
  | succ fuel ih =>
    intro v3 v4 bey5
    show VF X res (B_X5_kind_1 n G a1 a2 (L_X5_kind_1 n G a1 a2 fuel)  v3 v4 bey5) _ _ _ _
    unfold B_X5_kind_1
    refine v_iload C 4 dX5_kind_23 rfl ?_
    refine v_aload_n C 0 dX5_kind_25 rfl ?_
    refine v_get C (T := TX5) (n := 10) (C9 := RX5) iX5 0 rfl rfl 0 (by decide) (List.mem_of_getElem? (i := 1) rfl) rfl rfl dX5_kind_26 ?_
    refine v_get C (T := TX0) (n := 7) (C9 := RX0) iX0 1 rfl rfl 0 (by decide) (List.mem_of_getElem? (i := 2) rfl) rfl rfl dX5_kind_29 ?_
    refine v_icmp_ge C dX5_kind_32 (tgt := 67) (by decide) ?_ ?_
    · refine v_iload_n C 3 dX5_kind_67 rfl ?_
      exact v_iret (rvf := fun (res : Int32 × Bool) => (some (.int res.1))) (wf := fun (res : Int32 × Bool) => (xW q cs n nd es kn knd kes img tl ta tn sl res.2 wt un ed kwt kun ked tb sb sz sbs G K P wk wh)) C dX5_kind_68 rfl rfl
    · refine v_aload_n C 0 dX5_kind_35 rfl ?_
      refine v_aload_n C 0 dX5_kind_36 rfl ?_
      refine v_get C (T := TX5) (n := 10) (C9 := RX5) iX5 0 rfl rfl 0 (by decide) (List.mem_of_getElem? (i := 1) rfl) rfl rfl dX5_kind_37 ?_
      refine v_get C (T := TX0) (n := 7) (C9 := RX0) iX0 1 rfl rfl 6 (by decide) (List.mem_of_getElem? (i := 3) rfl) rfl rfl dX5_kind_40 ?_
      refine v_iload_n C 1 dX5_kind_43 rfl ?_
      refine v_aalda C (ad := fun j9 => q (22 + j9)) 10 3 rfl rfl (fun _ h9 => if_pos h9) dX5_kind_44 (fun hb6 => ?_)
      have hj6 := inb_lt hb6
      refine v_iload C 4 dX5_kind_45 rfl ?_
      refine v_iload_n C 2 dX5_kind_47 rfl ?_
      refine v_callV3v C 0 rfl rfl rfl (fun l9 r9 h9 => k_X5_isOfKind (l := l9) hq hj6 h9) gX5_kind_X5_isOfKind rfl nI_X5_isOfKind ⟨rfl, rfl, Nat.le_of_ble_eq_true rfl, Nat.le_of_ble_eq_true rfl⟩ dX5_kind_48 (Nat.le_of_ble_eq_true rfl) (fun r7 => ?_)
      refine v_jn1 (wj := (fun v9 => (xW q cs n nd es kn knd kes img tl ta tn sl r7.2 wt un ed kwt kun ked tb sb sz sbs G K P wk wh))) (pcj := 61) (lvj := (fun v9 => [(0, .ref (q 0)), (1, .int a1), (2, .int a2), (3, .int v9), (4, .int v4)])) (stj := (fun v9 => [])) (fun v9 => ?_) (fun k8 hk8 => ?_)
      · refine v_iinc_nm C (lvf := fun x10 => [(4, .int x10), (0, .ref (q 0)), (1, .int a1), (2, .int a2), (3, .int v9)]) 4 dX5_kind_61 rfl rfl (by decide) (fun _ => rfl) (fun x10 => ?_)
        refine v_goto C dX5_kind_64 (tgt := 23) (by decide) ?_
        exact v_sub [1, 2, 3, 4, 0] rfl (ih v9 x10 r7.2)
      · refine v_ifb_eq C (b := r7.1) dX5_kind_51 (tgt := 61) (by decide) ?_ ?_
        · exact v_sub [0, 1, 2, 3, 4] rfl (hk8 v3)
        · refine v_iload_n C 3 dX5_kind_54 rfl ?_
          refine v_iconst C dX5_kind_55 (v := 1) (by decide) ?_
          refine v_iload C 4 dX5_kind_56 rfl ?_
          refine v_ishl C dX5_kind_58 ?_
          refine v_ior C dX5_kind_59 ?_
          refine v_istore_n_nm C (lvf := fun x11 => [(3, .int x11), (0, .ref (q 0)), (1, .int a1), (2, .int a2), (4, .int v4)]) dX5_kind_60 rfl (by decide) (fun _ => rfl) (fun x11 => ?_)
          exact v_sub [1, 2, 3, 0, 4] rfl (hk8 x11)

set_option maxRecDepth 100000 in
set_option maxHeartbeats 4000000 in
theorem k_X5_kind {l : Launch} {a1 : Int32} {a2 : Int32}  {res : Int32 × Bool} (hq : (xA q).Nodup)  (hf : f_X5_kind n bey G a1 a2 = some res) : kMet l yX5_kind wsX5_kind { frames := 4, cells := 0, slots := 0, locals := 99 } D vwCl (xT cs) (xN tF) (xA q) [.ref (q 0), .int a1, .int a2] (xW q cs n nd es kn knd kes img tl ta tn sl bey wt un ed kwt kun ked tb sb sz sbs G K P wk wh) (some (.int res.1)) (xW q cs n nd es kn knd kes img tl ta tn sl res.2 wt un ed kwt kun ked tb sb sz sbs G K P wk wh) := by
  refine kMet.of (cc := cX5_kind) (nL := 5) (ret := (some .int)) (own := RX5) (lv := [(0, .ref (q 0)), (1, .int a1), (2, .int a2)]) (by decide +kernel) rfl rfl xN_ok hq (Nat.le_of_ble_eq_true rfl) rfl (fun X C => ?_)
  refine VF.of hf ?_
  unfold f_X5_kind
  refine v_iload_n C 1 dX5_kind_0 rfl ?_
  refine v_callSP1v C (fun l9 r9 h9 => k_X5_isGame (l := l9) h9) gX5_kind_X5_isGame rfl nI_X5_isGame ⟨rfl, rfl, Nat.le_of_ble_eq_true rfl, Nat.le_of_ble_eq_true rfl⟩ dX5_kind_1 (Nat.le_of_ble_eq_true rfl) (fun r1 => ?_)
  refine v_ifb_eq C (b := r1) dX5_kind_4 (tgt := 16) (by decide) ?_ ?_
  · refine v_iconst C dX5_kind_16 (v := (-1)) (by decide) ?_
    exact v_iret (rvf := fun (res : Int32 × Bool) => (some (.int res.1))) (wf := fun (res : Int32 × Bool) => (xW q cs n nd es kn knd kes img tl ta tn sl res.2 wt un ed kwt kun ked tb sb sz sbs G K P wk wh)) C dX5_kind_17 rfl rfl
  · refine v_iload_n C 2 dX5_kind_7 rfl ?_
    refine v_if_lt C dX5_kind_8 (tgt := 16) (by decide) ?_ ?_
    · refine v_iconst C dX5_kind_16 (v := (-1)) (by decide) ?_
      exact v_iret (rvf := fun (res : Int32 × Bool) => (some (.int res.1))) (wf := fun (res : Int32 × Bool) => (xW q cs n nd es kn knd kes img tl ta tn sl res.2 wt un ed kwt kun ked tb sb sz sbs G K P wk wh)) C dX5_kind_17 rfl rfl
    · refine v_iload_n C 2 dX5_kind_11 rfl ?_
      refine v_iconst C dX5_kind_12 (v := 2) (by decide) ?_
      refine v_icmp_le C dX5_kind_13 (tgt := 18) (by decide) ?_ ?_
      · refine v_iconst C dX5_kind_18 (v := 0) (by decide) ?_
        refine v_istore_n C (lv' := [(3, .int 0), (0, .ref (q 0)), (1, .int a1), (2, .int a2)]) dX5_kind_19 rfl (by decide) rfl ?_
        refine v_iconst C dX5_kind_20 (v := 0) (by decide) ?_
        refine v_istore C (lv' := [(4, .int 0), (3, .int 0), (0, .ref (q 0)), (1, .int a1), (2, .int a2)]) dX5_kind_21 (by decide) rfl ?_
        refine v_sub [2, 3, 4, 1, 0] rfl (lp_X5_kind_1 hq C   FU 0 0 bey)
      · refine v_iconst C dX5_kind_16 (v := (-1)) (by decide) ?_
        exact v_iret (rvf := fun (res : Int32 × Bool) => (some (.int res.1))) (wf := fun (res : Int32 × Bool) => (xW q cs n nd es kn knd kes img tl ta tn sl res.2 wt un ed kwt kun ked tb sb sz sbs G K P wk wh)) C dX5_kind_17 rfl rfl

def B_X5_areAlike_1 (n : Int32) (vs : Nat → Int64) (a2 : Int32) (a3 : Int32) (rec1 : Int32 → Option (Bool))  (v2 : Int32) : Option (Bool) :=
(f_X0_sets n).bind (fun (r3 : Int32) =>
if (v2 : Int32) < r3 then (
(f_X5_has v2 a2).bind (fun (r4 : Bool) =>
jn0 (nm (v2 + 1) (fun (x6 : Int32) =>
rec1 x6)) (fun k5 =>
if r4 = true then (
k5) else (
(f_X5_has v2 a3).bind (fun (r7 : Bool) =>
if r7 = true then (
k5) else (
ck (inb (v2 ||| (1 <<< (a2 &&& 31))) 512) (
ck (inb (v2 ||| (1 <<< (a3 &&& 31))) 512) (
if (vs (v2 ||| (1 <<< (a2 &&& 31))).toNatClampNeg : Int64) = (vs (v2 ||| (1 <<< (a3 &&& 31))).toNatClampNeg) then (
k5) else (
some false))))))))) else (
some true))
def L_X5_areAlike_1 (n : Int32) (vs : Nat → Int64) (a2 : Int32) (a3 : Int32)  : Nat → Int32 → Option (Bool)
  | 0, _ => none
  | m9 + 1, v2 => B_X5_areAlike_1 n vs a2 a3 (L_X5_areAlike_1 n vs a2 a3 m9)  v2

def f_X5_areAlike (n : Int32) (vs : Nat → Int64) (a2 : Int32) (a3 : Int32) : Option (Bool) :=
L_X5_areAlike_1 n vs a2 a3  FU 0

theorem nI_X5_areAlike : NameIn yX5_areAlike 3 := ⟨by decide +kernel, by decide +kernel, by decide +kernel⟩
set_option maxRecDepth 100000 in
set_option maxHeartbeats 4000000 in
theorem lp_X5_areAlike_1 {X : CX} {res : Bool} {a2 : Int32} {a3 : Int32} {vj : Nat}  (hq : (xA q).Nodup) (C : Ok X cX5_areAlike 5 (some .boolean) wsX5_areAlike RX5 { frames := 1, cells := 0, slots := 0, locals := 21 } D vwCl (xT cs) (xA q) (xN tF) (some (.int (bI res))) (xW q cs n nd es kn knd kes img tl ta tn sl bey wt un ed kwt kun ked tb sb sz sbs G K P wk wh)) (hvj : vj < 4) : ∀ fuel : Nat, ∀ v2 : Int32, VF X res (L_X5_areAlike_1 n (G vj) a2 a3 fuel v2) (xW q cs n nd es kn knd kes img tl ta tn sl bey wt un ed kwt kun ked tb sb sz sbs G K P wk wh) 3 [(0, .ref (q 0)), (1, .ref (q (22 + vj))), (2, .int a2), (3, .int a3), (4, .int v2)] [] := by
  have iX5 : ∀ w ∈ wsX50, w ∈ wsX5_areAlike := fun _ h => List.mem_cons_of_mem _ (List.mem_append_left _ (List.mem_append_right _ h))
  intro fuel
  induction fuel with
  | zero =>
    intro _
    exact v_none
  | succ fuel ih =>
    intro v2
    show VF X res (B_X5_areAlike_1 n (G vj) a2 a3 (L_X5_areAlike_1 n (G vj) a2 a3 fuel)  v2) _ _ _ _
    unfold B_X5_areAlike_1
    refine v_iload C 4 dX5_areAlike_3 rfl ?_
    refine v_aload_n C 0 dX5_areAlike_5 rfl ?_
    refine v_get C (T := TX5) (n := 10) (C9 := RX5) iX5 0 rfl rfl 0 (by decide) (List.mem_of_getElem? (i := 1) rfl) rfl rfl dX5_areAlike_6 ?_
    refine v_callV0v C 1 rfl rfl rfl (fun l9 r9 h9 => k_X0_sets (l := l9) hq  h9) gX5_areAlike_X0_sets rfl nI_X0_sets ⟨rfl, rfl, Nat.le_of_ble_eq_true rfl, Nat.le_of_ble_eq_true rfl⟩ dX5_areAlike_9 (Nat.le_of_ble_eq_true rfl) (fun r3 => ?_)
    refine v_icmp_ge C dX5_areAlike_12 (tgt := 61) (by decide) ?_ ?_
    · refine v_iconst C dX5_areAlike_61 (v := 1) (by decide) ?_
      exact v_zret (rvf := fun (res : Bool) => (some (.int (bI res)))) (wf := fun (res : Bool) => (xW q cs n nd es kn knd kes img tl ta tn sl bey wt un ed kwt kun ked tb sb sz sbs G K P wk wh)) C dX5_areAlike_62 rfl rfl
    · refine v_iload C 4 dX5_areAlike_15 rfl ?_
      refine v_iload_n C 2 dX5_areAlike_17 rfl ?_
      refine v_callSP2v C (fun l9 r9 h9 => k_X5_has (l := l9) h9) gX5_areAlike_X5_has rfl nI_X5_has ⟨rfl, rfl, Nat.le_of_ble_eq_true rfl, Nat.le_of_ble_eq_true rfl⟩ dX5_areAlike_18 (Nat.le_of_ble_eq_true rfl) (fun r4 => ?_)
      refine v_jn0 (wj := ((xW q cs n nd es kn knd kes img tl ta tn sl bey wt un ed kwt kun ked tb sb sz sbs G K P wk wh))) (pcj := 55) (lvj := ([(0, .ref (q 0)), (1, .ref (q (22 + vj))), (2, .int a2), (3, .int a3), (4, .int v2)])) (stj := ([])) ?_ (fun k5 hk5 => ?_)
      · refine v_iinc_nm C (lvf := fun x6 => [(4, .int x6), (0, .ref (q 0)), (1, .ref (q (22 + vj))), (2, .int a2), (3, .int a3)]) 4 dX5_areAlike_55 rfl rfl (by decide) (fun _ => rfl) (fun x6 => ?_)
        refine v_goto C dX5_areAlike_58 (tgt := 3) (by decide) ?_
        exact v_sub [1, 2, 3, 4, 0] rfl (ih x6)
      · refine v_ifb_ne C (b := r4) dX5_areAlike_21 (tgt := 55) (by decide) ?_ ?_
        · exact v_sub [0, 1, 2, 3, 4] rfl (hk5)
        · refine v_iload C 4 dX5_areAlike_24 rfl ?_
          refine v_iload_n C 3 dX5_areAlike_26 rfl ?_
          refine v_callSP2v C (fun l9 r9 h9 => k_X5_has (l := l9) h9) gX5_areAlike_X5_has rfl nI_X5_has ⟨rfl, rfl, Nat.le_of_ble_eq_true rfl, Nat.le_of_ble_eq_true rfl⟩ dX5_areAlike_27 (Nat.le_of_ble_eq_true rfl) (fun r7 => ?_)
          refine v_ifb_ne C (b := r7) dX5_areAlike_30 (tgt := 55) (by decide) ?_ ?_
          · exact v_sub [0, 1, 2, 3, 4] rfl (hk5)
          · refine v_aload_n C 1 dX5_areAlike_33 rfl ?_
            refine v_iload C 4 dX5_areAlike_34 rfl ?_
            refine v_iconst C dX5_areAlike_36 (v := 1) (by decide) ?_
            refine v_iload_n C 2 dX5_areAlike_37 rfl ?_
            refine v_ishl C dX5_areAlike_38 ?_
            refine v_ior C dX5_areAlike_39 ?_
            refine v_lald C (22 + vj) 1 (xW_G hvj) rfl dX5_areAlike_40 ?_
            refine v_aload_n C 1 dX5_areAlike_41 rfl ?_
            refine v_iload C 4 dX5_areAlike_42 rfl ?_
            refine v_iconst C dX5_areAlike_44 (v := 1) (by decide) ?_
            refine v_iload_n C 3 dX5_areAlike_45 rfl ?_
            refine v_ishl C dX5_areAlike_46 ?_
            refine v_ior C dX5_areAlike_47 ?_
            refine v_lald C (22 + vj) 1 (xW_G hvj) rfl dX5_areAlike_48 ?_
            refine v_lcmp_eq C dX5_areAlike_49 dX5_areAlike_50 (tgt := 55) (by decide) ?_ ?_
            · exact v_sub [0, 1, 2, 3, 4] rfl (hk5)
            · refine v_iconst C dX5_areAlike_53 (v := 0) (by decide) ?_
              exact v_zret (rvf := fun (res : Bool) => (some (.int (bI res)))) (wf := fun (res : Bool) => (xW q cs n nd es kn knd kes img tl ta tn sl bey wt un ed kwt kun ked tb sb sz sbs G K P wk wh)) C dX5_areAlike_54 rfl rfl

set_option maxRecDepth 100000 in
set_option maxHeartbeats 4000000 in
theorem k_X5_areAlike {l : Launch} {a2 : Int32} {a3 : Int32} {vj : Nat} {res : Bool} (hq : (xA q).Nodup) (hvj : vj < 4) (hf : f_X5_areAlike n (G vj) a2 a3 = some res) : kMet l yX5_areAlike wsX5_areAlike { frames := 1, cells := 0, slots := 0, locals := 21 } D vwCl (xT cs) (xN tF) (xA q) [.ref (q 0), .ref (q (22 + vj)), .int a2, .int a3] (xW q cs n nd es kn knd kes img tl ta tn sl bey wt un ed kwt kun ked tb sb sz sbs G K P wk wh) (some (.int (bI res))) (xW q cs n nd es kn knd kes img tl ta tn sl bey wt un ed kwt kun ked tb sb sz sbs G K P wk wh) := by
  refine kMet.of (cc := cX5_areAlike) (nL := 5) (ret := (some .boolean)) (own := RX5) (lv := [(0, .ref (q 0)), (1, .ref (q (22 + vj))), (2, .int a2), (3, .int a3)]) (by decide +kernel) rfl rfl xN_ok hq (Nat.le_of_ble_eq_true rfl) rfl (fun X C => ?_)
  refine VF.of hf ?_
  unfold f_X5_areAlike
  refine v_iconst C dX5_areAlike_0 (v := 0) (by decide) ?_
  refine v_istore C (lv' := [(4, .int 0), (0, .ref (q 0)), (1, .ref (q (22 + vj))), (2, .int a2), (3, .int a3)]) dX5_areAlike_1 (by decide) rfl ?_
  refine v_sub [1, 2, 3, 4, 0] rfl (lp_X5_areAlike_1 hq C hvj  FU 0)

def B_X5_alike_1 (n : Int32) (G : Nat → Nat → Int64) (a1 : Int32) (a2 : Int32) (rec3 : Int32 → Int32 → Option (Int32))  (v4 : Int32) (v5 : Int32) : Option (Int32) :=
if (v5 : Int32) < n then (
ck (inb a1 4) (
(f_X5_areAlike n (G a1.toNatClampNeg) a2 v5).bind (fun (r7 : Bool) =>
jn1 (fun (v9 : Int32) =>
nm (v5 + 1) (fun (x10 : Int32) =>
rec3 v9 x10)) (fun k8 =>
if r7 = true then (
nm (v4 ||| (1 <<< (v5 &&& 31))) (fun (x11 : Int32) =>
k8 x11)) else (
k8 v4))))) else (
some v4)
def L_X5_alike_1 (n : Int32) (G : Nat → Nat → Int64) (a1 : Int32) (a2 : Int32)  : Nat → Int32 → Int32 → Option (Int32)
  | 0, _, _ => none
  | m9 + 1, v4, v5 => B_X5_alike_1 n G a1 a2 (L_X5_alike_1 n G a1 a2 m9)  v4 v5

def f_X5_alike (n : Int32) (G : Nat → Nat → Int64) (a1 : Int32) (a2 : Int32) : Option (Int32) :=
(f_X5_isGame a1).bind (fun (r1 : Bool) =>
if r1 = true then (
(f_X0_hasPartner n a2).bind (fun (r2 : Bool) =>
if r2 = true then (
L_X5_alike_1 n G a1 a2  FU 0 0) else (
some (-1)))) else (
some (-1)))

theorem nI_X5_alike : NameIn yX5_alike 2 := ⟨by decide +kernel, by decide +kernel, by decide +kernel⟩
set_option maxRecDepth 100000 in
set_option maxHeartbeats 4000000 in
theorem lp_X5_alike_1 {X : CX} {res : Int32} {a1 : Int32} {a2 : Int32}   (hq : (xA q).Nodup) (C : Ok X cX5_alike 5 (some .int) wsX5_alike RX5 { frames := 2, cells := 0, slots := 0, locals := 45 } D vwCl (xT cs) (xA q) (xN tF) (some (.int res)) (xW q cs n nd es kn knd kes img tl ta tn sl bey wt un ed kwt kun ked tb sb sz sbs G K P wk wh))  : ∀ fuel : Nat, ∀ v4 : Int32, ∀ v5 : Int32, VF X res (L_X5_alike_1 n G a1 a2 fuel v4 v5) (xW q cs n nd es kn knd kes img tl ta tn sl bey wt un ed kwt kun ked tb sb sz sbs G K P wk wh) 25 [(0, .ref (q 0)), (1, .int a1), (2, .int a2), (3, .int v4), (4, .int v5)] [] := by
  have iX0 : ∀ w ∈ wsX00, w ∈ wsX5_alike := fun _ h => List.mem_cons_of_mem _ (List.mem_append_right _ h)
  have iX5 : ∀ w ∈ wsX50, w ∈ wsX5_alike := fun _ h => List.mem_cons_of_mem _ (List.mem_append_left _ (List.mem_append_right _ h))
  intro fuel
  induction fuel with
  | zero =>
    intro _ _
    exact v_none
  | succ fuel ih =>
    intro v4 v5
    show VF X res (B_X5_alike_1 n G a1 a2 (L_X5_alike_1 n G a1 a2 fuel)  v4 v5) _ _ _ _
    unfold B_X5_alike_1
    refine v_iload C 4 dX5_alike_25 rfl ?_
    refine v_aload_n C 0 dX5_alike_27 rfl ?_
    refine v_get C (T := TX5) (n := 10) (C9 := RX5) iX5 0 rfl rfl 0 (by decide) (List.mem_of_getElem? (i := 1) rfl) rfl rfl dX5_alike_28 ?_
    refine v_get C (T := TX0) (n := 7) (C9 := RX0) iX0 1 rfl rfl 0 (by decide) (List.mem_of_getElem? (i := 2) rfl) rfl rfl dX5_alike_31 ?_
    refine v_icmp_ge C dX5_alike_34 (tgt := 69) (by decide) ?_ ?_
    · refine v_iload_n C 3 dX5_alike_69 rfl ?_
      exact v_iret (rvf := fun (res : Int32) => (some (.int res))) (wf := fun (res : Int32) => (xW q cs n nd es kn knd kes img tl ta tn sl bey wt un ed kwt kun ked tb sb sz sbs G K P wk wh)) C dX5_alike_70 rfl rfl
    · refine v_aload_n C 0 dX5_alike_37 rfl ?_
      refine v_aload_n C 0 dX5_alike_38 rfl ?_
      refine v_get C (T := TX5) (n := 10) (C9 := RX5) iX5 0 rfl rfl 0 (by decide) (List.mem_of_getElem? (i := 1) rfl) rfl rfl dX5_alike_39 ?_
      refine v_get C (T := TX0) (n := 7) (C9 := RX0) iX0 1 rfl rfl 6 (by decide) (List.mem_of_getElem? (i := 3) rfl) rfl rfl dX5_alike_42 ?_
      refine v_iload_n C 1 dX5_alike_45 rfl ?_
      refine v_aalda C (ad := fun j9 => q (22 + j9)) 10 3 rfl rfl (fun _ h9 => if_pos h9) dX5_alike_46 (fun hb6 => ?_)
      have hj6 := inb_lt hb6
      refine v_iload_n C 2 dX5_alike_47 rfl ?_
      refine v_iload C 4 dX5_alike_48 rfl ?_
      refine v_callV3v C 0 rfl rfl rfl (fun l9 r9 h9 => k_X5_areAlike (l := l9) hq hj6 h9) gX5_alike_X5_areAlike rfl nI_X5_areAlike ⟨rfl, rfl, Nat.le_of_ble_eq_true rfl, Nat.le_of_ble_eq_true rfl⟩ dX5_alike_50 (Nat.le_of_ble_eq_true rfl) (fun r7 => ?_)
      refine v_jn1 (wj := (fun v9 => (xW q cs n nd es kn knd kes img tl ta tn sl bey wt un ed kwt kun ked tb sb sz sbs G K P wk wh))) (pcj := 63) (lvj := (fun v9 => [(0, .ref (q 0)), (1, .int a1), (2, .int a2), (3, .int v9), (4, .int v5)])) (stj := (fun v9 => [])) (fun v9 => ?_) (fun k8 hk8 => ?_)
      · refine v_iinc_nm C (lvf := fun x10 => [(4, .int x10), (0, .ref (q 0)), (1, .int a1), (2, .int a2), (3, .int v9)]) 4 dX5_alike_63 rfl rfl (by decide) (fun _ => rfl) (fun x10 => ?_)
        refine v_goto C dX5_alike_66 (tgt := 25) (by decide) ?_
        exact v_sub [1, 2, 3, 4, 0] rfl (ih v9 x10)
      · refine v_ifb_eq C (b := r7) dX5_alike_53 (tgt := 63) (by decide) ?_ ?_
        · exact v_sub [0, 1, 2, 3, 4] rfl (hk8 v4)
        · refine v_iload_n C 3 dX5_alike_56 rfl ?_
          refine v_iconst C dX5_alike_57 (v := 1) (by decide) ?_
          refine v_iload C 4 dX5_alike_58 rfl ?_
          refine v_ishl C dX5_alike_60 ?_
          refine v_ior C dX5_alike_61 ?_
          refine v_istore_n_nm C (lvf := fun x11 => [(3, .int x11), (0, .ref (q 0)), (1, .int a1), (2, .int a2), (4, .int v5)]) dX5_alike_62 rfl (by decide) (fun _ => rfl) (fun x11 => ?_)
          exact v_sub [1, 2, 3, 0, 4] rfl (hk8 x11)

set_option maxRecDepth 100000 in
set_option maxHeartbeats 4000000 in
theorem k_X5_alike {l : Launch} {a1 : Int32} {a2 : Int32}  {res : Int32} (hq : (xA q).Nodup)  (hf : f_X5_alike n G a1 a2 = some res) : kMet l yX5_alike wsX5_alike { frames := 2, cells := 0, slots := 0, locals := 45 } D vwCl (xT cs) (xN tF) (xA q) [.ref (q 0), .int a1, .int a2] (xW q cs n nd es kn knd kes img tl ta tn sl bey wt un ed kwt kun ked tb sb sz sbs G K P wk wh) (some (.int res)) (xW q cs n nd es kn knd kes img tl ta tn sl bey wt un ed kwt kun ked tb sb sz sbs G K P wk wh) := by
  have iX5 : ∀ w ∈ wsX50, w ∈ wsX5_alike := fun _ h => List.mem_cons_of_mem _ (List.mem_append_left _ (List.mem_append_right _ h))
  refine kMet.of (cc := cX5_alike) (nL := 5) (ret := (some .int)) (own := RX5) (lv := [(0, .ref (q 0)), (1, .int a1), (2, .int a2)]) (by decide +kernel) rfl rfl xN_ok hq (Nat.le_of_ble_eq_true rfl) rfl (fun X C => ?_)
  refine VF.of hf ?_
  unfold f_X5_alike
  refine v_iload_n C 1 dX5_alike_0 rfl ?_
  refine v_callSP1v C (fun l9 r9 h9 => k_X5_isGame (l := l9) h9) gX5_alike_X5_isGame rfl nI_X5_isGame ⟨rfl, rfl, Nat.le_of_ble_eq_true rfl, Nat.le_of_ble_eq_true rfl⟩ dX5_alike_1 (Nat.le_of_ble_eq_true rfl) (fun r1 => ?_)
  refine v_ifb_eq C (b := r1) dX5_alike_4 (tgt := 18) (by decide) ?_ ?_
  · refine v_iconst C dX5_alike_18 (v := (-1)) (by decide) ?_
    exact v_iret (rvf := fun (res : Int32) => (some (.int res))) (wf := fun (res : Int32) => (xW q cs n nd es kn knd kes img tl ta tn sl bey wt un ed kwt kun ked tb sb sz sbs G K P wk wh)) C dX5_alike_19 rfl rfl
  · refine v_aload_n C 0 dX5_alike_7 rfl ?_
    refine v_get C (T := TX5) (n := 10) (C9 := RX5) iX5 0 rfl rfl 0 (by decide) (List.mem_of_getElem? (i := 1) rfl) rfl rfl dX5_alike_8 ?_
    refine v_iload_n C 2 dX5_alike_11 rfl ?_
    refine v_callV1v C 1 rfl rfl rfl (fun l9 r9 h9 => k_X0_hasPartner (l := l9) hq  h9) gX5_alike_X0_hasPartner rfl nI_X0_hasPartner ⟨rfl, rfl, Nat.le_of_ble_eq_true rfl, Nat.le_of_ble_eq_true rfl⟩ dX5_alike_12 (Nat.le_of_ble_eq_true rfl) (fun r2 => ?_)
    refine v_ifb_ne C (b := r2) dX5_alike_15 (tgt := 20) (by decide) ?_ ?_
    · refine v_iconst C dX5_alike_20 (v := 0) (by decide) ?_
      refine v_istore_n C (lv' := [(3, .int 0), (0, .ref (q 0)), (1, .int a1), (2, .int a2)]) dX5_alike_21 rfl (by decide) rfl ?_
      refine v_iconst C dX5_alike_22 (v := 0) (by decide) ?_
      refine v_istore C (lv' := [(4, .int 0), (3, .int 0), (0, .ref (q 0)), (1, .int a1), (2, .int a2)]) dX5_alike_23 (by decide) rfl ?_
      refine v_sub [2, 3, 4, 1, 0] rfl (lp_X5_alike_1 hq C   FU 0 0)
    · refine v_iconst C dX5_alike_18 (v := (-1)) (by decide) ?_
      exact v_iret (rvf := fun (res : Int32) => (some (.int res))) (wf := fun (res : Int32) => (xW q cs n nd es kn knd kes img tl ta tn sl bey wt un ed kwt kun ked tb sb sz sbs G K P wk wh)) C dX5_alike_19 rfl rfl

def f_X5_carrier (n : Int32) (bey : Bool) (G : Nat → Nat → Int64) (a1 : Int32) : Option (Int32 × Bool) :=
(f_X5_isGame a1).bind (fun (r1 : Bool) =>
if r1 = true then (
(f_X0_everyone n).bind (fun (r2 : Int32) =>
(f_X5_kind n bey G a1 0).bind (fun (r3 : Int32 × Bool) =>
some (r2 &&& (r3.1 ^^^ (-1)), r3.2)))) else (
some ((-1), bey)))

theorem nI_X5_carrier : NameIn yX5_carrier 1 := ⟨by decide +kernel, by decide +kernel, by decide +kernel⟩
set_option maxRecDepth 100000 in
set_option maxHeartbeats 4000000 in
theorem k_X5_carrier {l : Launch} {a1 : Int32}  {res : Int32 × Bool} (hq : (xA q).Nodup)  (hf : f_X5_carrier n bey G a1 = some res) : kMet l yX5_carrier wsX5_carrier { frames := 5, cells := 0, slots := 0, locals := 123 } D vwCl (xT cs) (xN tF) (xA q) [.ref (q 0), .int a1] (xW q cs n nd es kn knd kes img tl ta tn sl bey wt un ed kwt kun ked tb sb sz sbs G K P wk wh) (some (.int res.1)) (xW q cs n nd es kn knd kes img tl ta tn sl res.2 wt un ed kwt kun ked tb sb sz sbs G K P wk wh) := by
  have iX5 : ∀ w ∈ wsX50, w ∈ wsX5_carrier := fun _ h => List.mem_cons_of_mem _ (List.mem_append_left _ (List.mem_append_left _ (List.mem_append_right _ h)))
  refine kMet.of (cc := cX5_carrier) (nL := 2) (ret := (some .int)) (own := RX5) (lv := [(0, .ref (q 0)), (1, .int a1)]) (by decide +kernel) rfl rfl xN_ok hq (Nat.le_of_ble_eq_true rfl) rfl (fun X C => ?_)
  refine VF.of hf ?_
  unfold f_X5_carrier
  refine v_iload_n C 1 dX5_carrier_0 rfl ?_
  refine v_callSP1v C (fun l9 r9 h9 => k_X5_isGame (l := l9) h9) gX5_carrier_X5_isGame rfl nI_X5_isGame ⟨rfl, rfl, Nat.le_of_ble_eq_true rfl, Nat.le_of_ble_eq_true rfl⟩ dX5_carrier_1 (Nat.le_of_ble_eq_true rfl) (fun r1 => ?_)
  refine v_ifb_eq C (b := r1) dX5_carrier_4 (tgt := 26) (by decide) ?_ ?_
  · refine v_iconst C dX5_carrier_26 (v := (-1)) (by decide) ?_
    exact v_iret (rvf := fun (res : Int32 × Bool) => (some (.int res.1))) (wf := fun (res : Int32 × Bool) => (xW q cs n nd es kn knd kes img tl ta tn sl res.2 wt un ed kwt kun ked tb sb sz sbs G K P wk wh)) C dX5_carrier_27 rfl rfl
  · refine v_aload_n C 0 dX5_carrier_7 rfl ?_
    refine v_get C (T := TX5) (n := 10) (C9 := RX5) iX5 0 rfl rfl 0 (by decide) (List.mem_of_getElem? (i := 1) rfl) rfl rfl dX5_carrier_8 ?_
    refine v_callV0v C 1 rfl rfl rfl (fun l9 r9 h9 => k_X0_everyone (l := l9) hq  h9) gX5_carrier_X0_everyone rfl nI_X0_everyone ⟨rfl, rfl, Nat.le_of_ble_eq_true rfl, Nat.le_of_ble_eq_true rfl⟩ dX5_carrier_11 (Nat.le_of_ble_eq_true rfl) (fun r2 => ?_)
    refine v_aload_n C 0 dX5_carrier_14 rfl ?_
    refine v_iload_n C 1 dX5_carrier_15 rfl ?_
    refine v_iconst C dX5_carrier_16 (v := 0) (by decide) ?_
    refine v_callV2v C 0 rfl rfl rfl (fun l9 r9 h9 => k_X5_kind (l := l9) hq  h9) gX5_carrier_X5_kind rfl nI_X5_kind ⟨rfl, rfl, Nat.le_of_ble_eq_true rfl, Nat.le_of_ble_eq_true rfl⟩ dX5_carrier_17 (Nat.le_of_ble_eq_true rfl) (fun r3 => ?_)
    refine v_iconst C dX5_carrier_20 (v := (-1)) (by decide) ?_
    refine v_ixor C dX5_carrier_21 ?_
    refine v_iand C dX5_carrier_22 ?_
    refine v_goto C dX5_carrier_23 (tgt := 27) (by decide) ?_
    exact v_iret (rvf := fun (res : Int32 × Bool) => (some (.int res.1))) (wf := fun (res : Int32 × Bool) => (xW q cs n nd es kn knd kes img tl ta tn sl res.2 wt un ed kwt kun ked tb sb sz sbs G K P wk wh)) C dX5_carrier_27 rfl rfl

def B_X5_isMonotone_2 (n : Int32) (vs : Nat → Int64) (v2 : Int32) (rec4 : Int32 → Option (Bool)) (kx5 : Option (Bool)) (v6 : Int32) : Option (Bool) :=
if (v6 : Int32) < n then (
(f_X5_has v2 v6).bind (fun (r7 : Bool) =>
jn0 (nm (v6 + 1) (fun (x9 : Int32) =>
rec4 x9)) (fun k8 =>
if r7 = true then (
ck (inb v2 512) (
ck (inb (v2 &&& ((1 <<< (v6 &&& 31)) ^^^ (-1))) 512) (
if (vs v2.toNatClampNeg : Int64) < (vs (v2 &&& ((1 <<< (v6 &&& 31)) ^^^ (-1))).toNatClampNeg) then (
some false) else (
k8)))) else (
k8)))) else (
kx5)
def L_X5_isMonotone_2 (n : Int32) (vs : Nat → Int64) (v2 : Int32) (kx5 : Option (Bool)) : Nat → Int32 → Option (Bool)
  | 0, _ => none
  | m9 + 1, v6 => B_X5_isMonotone_2 n vs v2 (L_X5_isMonotone_2 n vs v2 kx5 m9) kx5 v6

def B_X5_isMonotone_1 (n : Int32) (vs : Nat → Int64) (rec1 : Int32 → Option (Bool))  (v2 : Int32) : Option (Bool) :=
(f_X0_sets n).bind (fun (r3 : Int32) =>
if (v2 : Int32) < r3 then (
L_X5_isMonotone_2 n vs v2 (nm (v2 + 1) (fun (x10 : Int32) =>
rec1 x10)) FU 0) else (
some true))
def L_X5_isMonotone_1 (n : Int32) (vs : Nat → Int64)  : Nat → Int32 → Option (Bool)
  | 0, _ => none
  | m9 + 1, v2 => B_X5_isMonotone_1 n vs (L_X5_isMonotone_1 n vs m9)  v2

def f_X5_isMonotone (n : Int32) (vs : Nat → Int64) : Option (Bool) :=
L_X5_isMonotone_1 n vs  FU 0

theorem nI_X5_isMonotone : NameIn yX5_isMonotone 1 := ⟨by decide +kernel, by decide +kernel, by decide +kernel⟩
set_option maxRecDepth 100000 in
set_option maxHeartbeats 4000000 in
theorem lp_X5_isMonotone_2 {X : CX} {res : Bool}  {vj : Nat} {v2 : Int32} (hq : (xA q).Nodup) (C : Ok X cX5_isMonotone 4 (some .boolean) wsX5_isMonotone RX5 { frames := 1, cells := 0, slots := 0, locals := 21 } D vwCl (xT cs) (xA q) (xN tF) (some (.int (bI res))) (xW q cs n nd es kn knd kes img tl ta tn sl bey wt un ed kwt kun ked tb sb sz sbs G K P wk wh)) (hvj : vj < 4) (kx5 : Option (Bool)) (Jkx5 : VF X res (kx5) (xW q cs n nd es kn knd kes img tl ta tn sl bey wt un ed kwt kun ked tb sb sz sbs G K P wk wh) 58 [(0, .ref (q 0)), (1, .ref (q (22 + vj))), (2, .int v2)] []) : ∀ fuel : Nat, ∀ v6 : Int32, VF X res (L_X5_isMonotone_2 n (G vj) v2 kx5 fuel v6) (xW q cs n nd es kn knd kes img tl ta tn sl bey wt un ed kwt kun ked tb sb sz sbs G K P wk wh) 15 [(0, .ref (q 0)), (1, .ref (q (22 + vj))), (2, .int v2), (3, .int v6)] [] := by
  have iX0 : ∀ w ∈ wsX00, w ∈ wsX5_isMonotone := fun _ h => List.mem_cons_of_mem _ (List.mem_append_right _ h)
  have iX5 : ∀ w ∈ wsX50, w ∈ wsX5_isMonotone := fun _ h => List.mem_cons_of_mem _ (List.mem_append_left _ (List.mem_append_right _ h))
  intro fuel
  induction fuel with
  | zero =>
    intro _
    exact v_none
  | succ fuel ih =>
    intro v6
    show VF X res (B_X5_isMonotone_2 n (G vj) v2 (L_X5_isMonotone_2 n (G vj) v2 kx5 fuel) kx5 v6) _ _ _ _
    unfold B_X5_isMonotone_2
    refine v_iload_n C 3 dX5_isMonotone_15 rfl ?_
    refine v_aload_n C 0 dX5_isMonotone_16 rfl ?_
    refine v_get C (T := TX5) (n := 10) (C9 := RX5) iX5 0 rfl rfl 0 (by decide) (List.mem_of_getElem? (i := 1) rfl) rfl rfl dX5_isMonotone_17 ?_
    refine v_get C (T := TX0) (n := 7) (C9 := RX0) iX0 1 rfl rfl 0 (by decide) (List.mem_of_getElem? (i := 2) rfl) rfl rfl dX5_isMonotone_20 ?_
    refine v_icmp_ge C dX5_isMonotone_23 (tgt := 58) (by decide) ?_ ?_
    · exact v_sub [0, 1, 2] rfl (Jkx5)
    · refine v_iload_n C 2 dX5_isMonotone_26 rfl ?_
      refine v_iload_n C 3 dX5_isMonotone_27 rfl ?_
      refine v_callSP2v C (fun l9 r9 h9 => k_X5_has (l := l9) h9) gX5_isMonotone_X5_has rfl nI_X5_has ⟨rfl, rfl, Nat.le_of_ble_eq_true rfl, Nat.le_of_ble_eq_true rfl⟩ dX5_isMonotone_28 (Nat.le_of_ble_eq_true rfl) (fun r7 => ?_)
      refine v_jn0 (wj := ((xW q cs n nd es kn knd kes img tl ta tn sl bey wt un ed kwt kun ked tb sb sz sbs G K P wk wh))) (pcj := 52) (lvj := ([(0, .ref (q 0)), (1, .ref (q (22 + vj))), (2, .int v2), (3, .int v6)])) (stj := ([])) ?_ (fun k8 hk8 => ?_)
      · refine v_iinc_nm C (lvf := fun x9 => [(3, .int x9), (0, .ref (q 0)), (1, .ref (q (22 + vj))), (2, .int v2)]) 3 dX5_isMonotone_52 rfl rfl (by decide) (fun _ => rfl) (fun x9 => ?_)
        refine v_goto C dX5_isMonotone_55 (tgt := 15) (by decide) ?_
        exact v_sub [1, 2, 3, 0] rfl (ih x9)
      · refine v_ifb_eq C (b := r7) dX5_isMonotone_31 (tgt := 52) (by decide) ?_ ?_
        · exact v_sub [0, 1, 2, 3] rfl (hk8)
        · refine v_aload_n C 1 dX5_isMonotone_34 rfl ?_
          refine v_iload_n C 2 dX5_isMonotone_35 rfl ?_
          refine v_lald C (22 + vj) 1 (xW_G hvj) rfl dX5_isMonotone_36 ?_
          refine v_aload_n C 1 dX5_isMonotone_37 rfl ?_
          refine v_iload_n C 2 dX5_isMonotone_38 rfl ?_
          refine v_iconst C dX5_isMonotone_39 (v := 1) (by decide) ?_
          refine v_iload_n C 3 dX5_isMonotone_40 rfl ?_
          refine v_ishl C dX5_isMonotone_41 ?_
          refine v_iconst C dX5_isMonotone_42 (v := (-1)) (by decide) ?_
          refine v_ixor C dX5_isMonotone_43 ?_
          refine v_iand C dX5_isMonotone_44 ?_
          refine v_lald C (22 + vj) 1 (xW_G hvj) rfl dX5_isMonotone_45 ?_
          refine v_lcmp_ge C dX5_isMonotone_46 dX5_isMonotone_47 (tgt := 52) (by decide) ?_ ?_
          · exact v_sub [0, 1, 2, 3] rfl (hk8)
          · refine v_iconst C dX5_isMonotone_50 (v := 0) (by decide) ?_
            exact v_zret (rvf := fun (res : Bool) => (some (.int (bI res)))) (wf := fun (res : Bool) => (xW q cs n nd es kn knd kes img tl ta tn sl bey wt un ed kwt kun ked tb sb sz sbs G K P wk wh)) C dX5_isMonotone_51 rfl rfl

set_option maxRecDepth 100000 in
set_option maxHeartbeats 4000000 in
theorem lp_X5_isMonotone_1 {X : CX} {res : Bool}  {vj : Nat}  (hq : (xA q).Nodup) (C : Ok X cX5_isMonotone 4 (some .boolean) wsX5_isMonotone RX5 { frames := 1, cells := 0, slots := 0, locals := 21 } D vwCl (xT cs) (xA q) (xN tF) (some (.int (bI res))) (xW q cs n nd es kn knd kes img tl ta tn sl bey wt un ed kwt kun ked tb sb sz sbs G K P wk wh)) (hvj : vj < 4) : ∀ fuel : Nat, ∀ v2 : Int32, VF X res (L_X5_isMonotone_1 n (G vj) fuel v2) (xW q cs n nd es kn knd kes img tl ta tn sl bey wt un ed kwt kun ked tb sb sz sbs G K P wk wh) 2 [(0, .ref (q 0)), (1, .ref (q (22 + vj))), (2, .int v2)] [] := by
  have iX5 : ∀ w ∈ wsX50, w ∈ wsX5_isMonotone := fun _ h => List.mem_cons_of_mem _ (List.mem_append_left _ (List.mem_append_right _ h))
  intro fuel
  induction fuel with
  | zero =>
    intro _
    exact v_none
  | succ fuel ih =>
    intro v2
    show VF X res (B_X5_isMonotone_1 n (G vj) (L_X5_isMonotone_1 n (G vj) fuel)  v2) _ _ _ _
    unfold B_X5_isMonotone_1
    refine v_iload_n C 2 dX5_isMonotone_2 rfl ?_
    refine v_aload_n C 0 dX5_isMonotone_3 rfl ?_
    refine v_get C (T := TX5) (n := 10) (C9 := RX5) iX5 0 rfl rfl 0 (by decide) (List.mem_of_getElem? (i := 1) rfl) rfl rfl dX5_isMonotone_4 ?_
    refine v_callV0v C 1 rfl rfl rfl (fun l9 r9 h9 => k_X0_sets (l := l9) hq  h9) gX5_isMonotone_X0_sets rfl nI_X0_sets ⟨rfl, rfl, Nat.le_of_ble_eq_true rfl, Nat.le_of_ble_eq_true rfl⟩ dX5_isMonotone_7 (Nat.le_of_ble_eq_true rfl) (fun r3 => ?_)
    refine v_icmp_ge C dX5_isMonotone_10 (tgt := 64) (by decide) ?_ ?_
    · refine v_iconst C dX5_isMonotone_64 (v := 1) (by decide) ?_
      exact v_zret (rvf := fun (res : Bool) => (some (.int (bI res)))) (wf := fun (res : Bool) => (xW q cs n nd es kn knd kes img tl ta tn sl bey wt un ed kwt kun ked tb sb sz sbs G K P wk wh)) C dX5_isMonotone_65 rfl rfl
    · refine v_iconst C dX5_isMonotone_13 (v := 0) (by decide) ?_
      refine v_istore_n C (lv' := [(3, .int 0), (0, .ref (q 0)), (1, .ref (q (22 + vj))), (2, .int v2)]) dX5_isMonotone_14 rfl (by decide) rfl ?_
      refine v_sub [1, 2, 3, 0] rfl (lp_X5_isMonotone_2 hq C hvj _ ?_ FU 0)
      refine v_iinc_nm C (lvf := fun x10 => [(2, .int x10), (0, .ref (q 0)), (1, .ref (q (22 + vj)))]) 2 dX5_isMonotone_58 rfl rfl (by decide) (fun _ => rfl) (fun x10 => ?_)
      refine v_goto C dX5_isMonotone_61 (tgt := 2) (by decide) ?_
      exact v_sub [1, 2, 0] rfl (ih x10)

set_option maxRecDepth 100000 in
set_option maxHeartbeats 4000000 in
theorem k_X5_isMonotone {l : Launch}  {vj : Nat} {res : Bool} (hq : (xA q).Nodup) (hvj : vj < 4) (hf : f_X5_isMonotone n (G vj) = some res) : kMet l yX5_isMonotone wsX5_isMonotone { frames := 1, cells := 0, slots := 0, locals := 21 } D vwCl (xT cs) (xN tF) (xA q) [.ref (q 0), .ref (q (22 + vj))] (xW q cs n nd es kn knd kes img tl ta tn sl bey wt un ed kwt kun ked tb sb sz sbs G K P wk wh) (some (.int (bI res))) (xW q cs n nd es kn knd kes img tl ta tn sl bey wt un ed kwt kun ked tb sb sz sbs G K P wk wh) := by
  refine kMet.of (cc := cX5_isMonotone) (nL := 4) (ret := (some .boolean)) (own := RX5) (lv := [(0, .ref (q 0)), (1, .ref (q (22 + vj)))]) (by decide +kernel) rfl rfl xN_ok hq (Nat.le_of_ble_eq_true rfl) rfl (fun X C => ?_)
  refine VF.of hf ?_
  unfold f_X5_isMonotone
  refine v_iconst C dX5_isMonotone_0 (v := 0) (by decide) ?_
  refine v_istore_n C (lv' := [(2, .int 0), (0, .ref (q 0)), (1, .ref (q (22 + vj)))]) dX5_isMonotone_1 rfl (by decide) rfl ?_
  refine v_sub [1, 2, 0] rfl (lp_X5_isMonotone_1 hq C hvj  FU 0)

def B_X5_gainsTogether_2 (n : Int32) (vs : Nat → Int64) (a2 : Bool) (v3 : Int32) (rec7 : Int32 → Bool → Option (Int32 × Bool)) (kx8 : Bool → Option (Int32 × Bool)) (v9 : Int32) (bey10 : Bool) : Option (Int32 × Bool) :=
(f_X0_sets n).bind (fun (r11 : Int32) =>
if (v9 : Int32) < r11 then (
jn1 (fun (bey13 : Bool) =>
nm (v9 + 1) (fun (x14 : Int32) =>
rec7 x14 bey13)) (fun k12 =>
jn0 (ck (inb v3 512) (
ck (inb v9 512) (
(f_X1_plus bey10 (vs v3.toNatClampNeg) (vs v9.toNatClampNeg)).bind (fun (r16 : Int64 × Bool) =>
ck (inb (v3 &&& v9) 512) (
ck (inb (v3 ||| v9) 512) (
(f_X1_plus r16.2 (vs (v3 &&& v9).toNatClampNeg) (vs (v3 ||| v9).toNatClampNeg)).bind (fun (r17 : Int64 × Bool) =>
if r17.2 = true then (
some ((-6), r17.2)) else (
if (r17.1 : Int64) < r16.1 then (
some (0, r17.2)) else (
k12 r17.2))))))))) (fun k15 =>
if a2 = true then (
if (v3 &&& v9 : Int32) = 0 then (
k15) else (
k12 bey10)) else (
k15)))) else (
kx8 bey10))
def L_X5_gainsTogether_2 (n : Int32) (vs : Nat → Int64) (a2 : Bool) (v3 : Int32) (kx8 : Bool → Option (Int32 × Bool)) : Nat → Int32 → Bool → Option (Int32 × Bool)
  | 0, _, _ => none
  | m9 + 1, v9, bey10 => B_X5_gainsTogether_2 n vs a2 v3 (L_X5_gainsTogether_2 n vs a2 v3 kx8 m9) kx8 v9 bey10

def B_X5_gainsTogether_1 (n : Int32) (vs : Nat → Int64) (a2 : Bool) (rec2 : Int32 → Bool → Option (Int32 × Bool))  (v3 : Int32) (bey4 : Bool) : Option (Int32 × Bool) :=
(f_X0_sets n).bind (fun (r5 : Int32) =>
if (v3 : Int32) < r5 then (
nm (v3 + 1) (fun (x6 : Int32) =>
L_X5_gainsTogether_2 n vs a2 v3 (fun (bey18 : Bool) =>
nm (v3 + 1) (fun (x19 : Int32) =>
rec2 x19 bey18)) FU x6 bey4)) else (
some (1, bey4)))
def L_X5_gainsTogether_1 (n : Int32) (vs : Nat → Int64) (a2 : Bool)  : Nat → Int32 → Bool → Option (Int32 × Bool)
  | 0, _, _ => none
  | m9 + 1, v3, bey4 => B_X5_gainsTogether_1 n vs a2 (L_X5_gainsTogether_1 n vs a2 m9)  v3 bey4

def f_X5_gainsTogether (n : Int32) (bey : Bool) (vs : Nat → Int64) (a2 : Bool) : Option (Int32 × Bool) :=
(f_X1_begin bey).bind (fun (r1 : Bool) =>
L_X5_gainsTogether_1 n vs a2  FU 0 r1)

theorem nI_X5_gainsTogether : NameIn yX5_gainsTogether 2 := ⟨by decide +kernel, by decide +kernel, by decide +kernel⟩
set_option maxRecDepth 100000 in
set_option maxHeartbeats 4000000 in
theorem lp_X5_gainsTogether_2 {X : CX} {res : Int32 × Bool} {a2 : Bool} {vj : Nat} {v3 : Int32} (hq : (xA q).Nodup) (C : Ok X cX5_gainsTogether 9 (some .int) wsX5_gainsTogether RX5 { frames := 1, cells := 0, slots := 0, locals := 26 } D vwCl (xT cs) (xA q) (xN tF) (some (.int res.1)) (xW q cs n nd es kn knd kes img tl ta tn sl res.2 wt un ed kwt kun ked tb sb sz sbs G K P wk wh)) (hvj : vj < 4) (kx8 : Bool → Option (Int32 × Bool)) (Jkx8 : ∀ beyZz : Bool, VF X res (kx8 beyZz) (xW q cs n nd es kn knd kes img tl ta tn sl beyZz wt un ed kwt kun ked tb sb sz sbs G K P wk wh) 114 [(0, .ref (q 0)), (1, .ref (q (22 + vj))), (2, .int (bI a2)), (3, .int v3)] []) : ∀ fuel : Nat, ∀ v9 : Int32, ∀ bey10 : Bool, VF X res (L_X5_gainsTogether_2 n (G vj) a2 v3 kx8 fuel v9 bey10) (xW q cs n nd es kn knd kes img tl ta tn sl bey10 wt un ed kwt kun ked tb sb sz sbs G K P wk wh) 25 [(0, .ref (q 0)), (1, .ref (q (22 + vj))), (2, .int (bI a2)), (3, .int v3), (4, .int v9)] [] := by
  have iX1 : ∀ w ∈ wsX10, w ∈ wsX5_gainsTogether := fun _ h => List.mem_cons_of_mem _ (List.mem_append_left _ (List.mem_append_right _ h))
  have iX5 : ∀ w ∈ wsX50, w ∈ wsX5_gainsTogether := fun _ h => List.mem_cons_of_mem _ (List.mem_append_left _ (List.mem_append_left _ (List.mem_append_right _ h)))
  intro fuel
  induction fuel with
  | zero =>
    intro _ _
    exact v_none
  | succ fuel ih =>
    intro v9 bey10
    show VF X res (B_X5_gainsTogether_2 n (G vj) a2 v3 (L_X5_gainsTogether_2 n (G vj) a2 v3 kx8 fuel) kx8 v9 bey10) _ _ _ _
    unfold B_X5_gainsTogether_2
    refine v_iload C 4 dX5_gainsTogether_25 rfl ?_
    refine v_aload_n C 0 dX5_gainsTogether_27 rfl ?_
    refine v_get C (T := TX5) (n := 10) (C9 := RX5) iX5 0 rfl rfl 0 (by decide) (List.mem_of_getElem? (i := 2) rfl) rfl rfl dX5_gainsTogether_28 ?_
    refine v_callV0v C 1 rfl rfl rfl (fun l9 r9 h9 => k_X0_sets (l := l9) hq  h9) gX5_gainsTogether_X0_sets rfl nI_X0_sets ⟨rfl, rfl, Nat.le_of_ble_eq_true rfl, Nat.le_of_ble_eq_true rfl⟩ dX5_gainsTogether_31 (Nat.le_of_ble_eq_true rfl) (fun r11 => ?_)
    refine v_icmp_ge C dX5_gainsTogether_34 (tgt := 114) (by decide) ?_ ?_
    · exact v_sub [0, 1, 2, 3] rfl (Jkx8 bey10)
    · refine v_iload_n C 2 dX5_gainsTogether_37 rfl ?_
      refine v_jn1 (wj := (fun bey13 => (xW q cs n nd es kn knd kes img tl ta tn sl bey13 wt un ed kwt kun ked tb sb sz sbs G K P wk wh))) (pcj := 108) (lvj := (fun bey13 => [(0, .ref (q 0)), (1, .ref (q (22 + vj))), (2, .int (bI a2)), (3, .int v3), (4, .int v9)])) (stj := (fun bey13 => [])) (fun bey13 => ?_) (fun k12 hk12 => ?_)
      · refine v_iinc_nm C (lvf := fun x14 => [(4, .int x14), (0, .ref (q 0)), (1, .ref (q (22 + vj))), (2, .int (bI a2)), (3, .int v3)]) 4 dX5_gainsTogether_108 rfl rfl (by decide) (fun _ => rfl) (fun x14 => ?_)
        refine v_goto C dX5_gainsTogether_111 (tgt := 25) (by decide) ?_
        exact v_sub [1, 2, 3, 4, 0] rfl (ih x14 bey13)
      · refine v_jn0 (wj := ((xW q cs n nd es kn knd kes img tl ta tn sl bey10 wt un ed kwt kun ked tb sb sz sbs G K P wk wh))) (pcj := 48) (lvj := ([(0, .ref (q 0)), (1, .ref (q (22 + vj))), (2, .int (bI a2)), (3, .int v3), (4, .int v9)])) (stj := ([])) ?_ (fun k15 hk15 => ?_)
        · refine v_aload_n C 0 dX5_gainsTogether_48 rfl ?_
          refine v_get C (T := TX5) (n := 10) (C9 := RX5) iX5 0 rfl rfl 6 (by decide) (List.mem_of_getElem? (i := 1) rfl) rfl rfl dX5_gainsTogether_49 ?_
          refine v_aload_n C 1 dX5_gainsTogether_52 rfl ?_
          refine v_iload_n C 3 dX5_gainsTogether_53 rfl ?_
          refine v_lald C (22 + vj) 1 (xW_G hvj) rfl dX5_gainsTogether_54 ?_
          refine v_aload_n C 1 dX5_gainsTogether_55 rfl ?_
          refine v_iload C 4 dX5_gainsTogether_56 rfl ?_
          refine v_lald C (22 + vj) 1 (xW_G hvj) rfl dX5_gainsTogether_58 ?_
          refine v_callV2v C 6 rfl rfl rfl (fun l9 r9 h9 => k_X1_plus (l := l9) hq  h9) gX5_gainsTogether_X1_plus rfl nI_X1_plus ⟨rfl, rfl, Nat.le_of_ble_eq_true rfl, Nat.le_of_ble_eq_true rfl⟩ dX5_gainsTogether_59 (Nat.le_of_ble_eq_true rfl) (fun r16 => ?_)
          refine v_lstore C (lv' := [(5, .long r16.1), (0, .ref (q 0)), (1, .ref (q (22 + vj))), (2, .int (bI a2)), (3, .int v3), (4, .int v9)]) dX5_gainsTogether_62 (by decide) rfl ?_
          refine v_aload_n C 1 dX5_gainsTogether_64 rfl ?_
          refine v_get C (T := TX5) (n := 10) (C9 := RX5) iX5 0 rfl rfl 6 (by decide) (List.mem_of_getElem? (i := 1) rfl) rfl rfl dX5_gainsTogether_65 ?_
          refine v_aload_n C 2 dX5_gainsTogether_68 rfl ?_
          refine v_iload_n C 4 dX5_gainsTogether_69 rfl ?_
          refine v_iload C 5 dX5_gainsTogether_70 rfl ?_
          refine v_iand C dX5_gainsTogether_72 ?_
          refine v_lald C (22 + vj) 1 (xW_G hvj) rfl dX5_gainsTogether_73 ?_
          refine v_aload_n C 2 dX5_gainsTogether_74 rfl ?_
          refine v_iload_n C 4 dX5_gainsTogether_75 rfl ?_
          refine v_iload C 5 dX5_gainsTogether_76 rfl ?_
          refine v_ior C dX5_gainsTogether_78 ?_
          refine v_lald C (22 + vj) 1 (xW_G hvj) rfl dX5_gainsTogether_79 ?_
          refine v_callV2v C 6 rfl rfl rfl (fun l9 r9 h9 => k_X1_plus (l := l9) hq  h9) gX5_gainsTogether_X1_plus rfl nI_X1_plus ⟨rfl, rfl, Nat.le_of_ble_eq_true rfl, Nat.le_of_ble_eq_true rfl⟩ dX5_gainsTogether_80 (Nat.le_of_ble_eq_true rfl) (fun r17 => ?_)
          refine v_lstore C (lv' := [(7, .long r17.1), (5, .long r16.1), (0, .ref (q 0)), (1, .ref (q (22 + vj))), (2, .int (bI a2)), (3, .int v3), (4, .int v9)]) dX5_gainsTogether_83 (by decide) rfl ?_
          refine v_aload_n C 2 dX5_gainsTogether_85 rfl ?_
          refine v_get C (T := TX5) (n := 10) (C9 := RX5) iX5 0 rfl rfl 6 (by decide) (List.mem_of_getElem? (i := 1) rfl) rfl rfl dX5_gainsTogether_86 ?_
          refine v_get C (T := TX1) (n := 1) (C9 := RX1) iX1 6 rfl rfl 0 (by decide) (List.mem_of_getElem? (i := 3) rfl) rfl rfl dX5_gainsTogether_89 ?_
          refine v_ifb_eq C (b := r17.2) dX5_gainsTogether_92 (tgt := 98) (by decide) ?_ ?_
          · refine v_lload C 1 dX5_gainsTogether_98 rfl ?_
            refine v_lload C 0 dX5_gainsTogether_100 rfl ?_
            refine v_lcmp_le C dX5_gainsTogether_102 dX5_gainsTogether_103 (tgt := 108) (by decide) ?_ ?_
            · exact v_sub [2, 3, 4, 5, 6] rfl (hk12 r17.2)
            · refine v_iconst C dX5_gainsTogether_106 (v := 0) (by decide) ?_
              exact v_iret (rvf := fun (res : Int32 × Bool) => (some (.int res.1))) (wf := fun (res : Int32 × Bool) => (xW q cs n nd es kn knd kes img tl ta tn sl res.2 wt un ed kwt kun ked tb sb sz sbs G K P wk wh)) C dX5_gainsTogether_107 rfl rfl
          · refine v_bipush C dX5_gainsTogether_95 (v := (-6)) (by decide) ?_
            exact v_iret (rvf := fun (res : Int32 × Bool) => (some (.int res.1))) (wf := fun (res : Int32 × Bool) => (xW q cs n nd es kn knd kes img tl ta tn sl res.2 wt un ed kwt kun ked tb sb sz sbs G K P wk wh)) C dX5_gainsTogether_97 rfl rfl
        · refine v_ifb_eq C (b := a2) dX5_gainsTogether_38 (tgt := 48) (by decide) ?_ ?_
          · exact v_sub [0, 1, 2, 3, 4] rfl (hk15)
          · refine v_iload_n C 3 dX5_gainsTogether_41 rfl ?_
            refine v_iload C 4 dX5_gainsTogether_42 rfl ?_
            refine v_iand C dX5_gainsTogether_44 ?_
            refine v_if_ne C dX5_gainsTogether_45 (tgt := 108) (by decide) ?_ ?_
            · exact v_sub [0, 1, 2, 3, 4] rfl (hk12 bey10)
            · exact v_sub [0, 1, 2, 3, 4] rfl (hk15)

set_option maxRecDepth 100000 in
set_option maxHeartbeats 4000000 in
theorem lp_X5_gainsTogether_1 {X : CX} {res : Int32 × Bool} {a2 : Bool} {vj : Nat}  (hq : (xA q).Nodup) (C : Ok X cX5_gainsTogether 9 (some .int) wsX5_gainsTogether RX5 { frames := 1, cells := 0, slots := 0, locals := 26 } D vwCl (xT cs) (xA q) (xN tF) (some (.int res.1)) (xW q cs n nd es kn knd kes img tl ta tn sl res.2 wt un ed kwt kun ked tb sb sz sbs G K P wk wh)) (hvj : vj < 4) : ∀ fuel : Nat, ∀ v3 : Int32, ∀ bey4 : Bool, VF X res (L_X5_gainsTogether_1 n (G vj) a2 fuel v3 bey4) (xW q cs n nd es kn knd kes img tl ta tn sl bey4 wt un ed kwt kun ked tb sb sz sbs G K P wk wh) 9 [(0, .ref (q 0)), (1, .ref (q (22 + vj))), (2, .int (bI a2)), (3, .int v3)] [] := by
  have iX5 : ∀ w ∈ wsX50, w ∈ wsX5_gainsTogether := fun _ h => List.mem_cons_of_mem _ (List.mem_append_left _ (List.mem_append_left _ (List.mem_append_right _ h)))
  intro fuel
  induction fuel with
  | zero =>
    intro _ _
    exact v_none
  | succ fuel ih =>
    intro v3 bey4
    show VF X res (B_X5_gainsTogether_1 n (G vj) a2 (L_X5_gainsTogether_1 n (G vj) a2 fuel)  v3 bey4) _ _ _ _
    unfold B_X5_gainsTogether_1
    refine v_iload_n C 3 dX5_gainsTogether_9 rfl ?_
    refine v_aload_n C 0 dX5_gainsTogether_10 rfl ?_
    refine v_get C (T := TX5) (n := 10) (C9 := RX5) iX5 0 rfl rfl 0 (by decide) (List.mem_of_getElem? (i := 2) rfl) rfl rfl dX5_gainsTogether_11 ?_
    refine v_callV0v C 1 rfl rfl rfl (fun l9 r9 h9 => k_X0_sets (l := l9) hq  h9) gX5_gainsTogether_X0_sets rfl nI_X0_sets ⟨rfl, rfl, Nat.le_of_ble_eq_true rfl, Nat.le_of_ble_eq_true rfl⟩ dX5_gainsTogether_14 (Nat.le_of_ble_eq_true rfl) (fun r5 => ?_)
    refine v_icmp_ge C dX5_gainsTogether_17 (tgt := 120) (by decide) ?_ ?_
    · refine v_iconst C dX5_gainsTogether_120 (v := 1) (by decide) ?_
      exact v_iret (rvf := fun (res : Int32 × Bool) => (some (.int res.1))) (wf := fun (res : Int32 × Bool) => (xW q cs n nd es kn knd kes img tl ta tn sl res.2 wt un ed kwt kun ked tb sb sz sbs G K P wk wh)) C dX5_gainsTogether_121 rfl rfl
    · refine v_iload_n C 3 dX5_gainsTogether_20 rfl ?_
      refine v_iconst C dX5_gainsTogether_21 (v := 1) (by decide) ?_
      refine v_iadd C dX5_gainsTogether_22 ?_
      refine v_istore_nm C (lvf := fun x6 => [(4, .int x6), (0, .ref (q 0)), (1, .ref (q (22 + vj))), (2, .int (bI a2)), (3, .int v3)]) dX5_gainsTogether_23 (by decide) (fun _ => rfl) (fun x6 => ?_)
      refine v_sub [1, 2, 3, 4, 0] rfl (lp_X5_gainsTogether_2 hq C hvj _ (fun bey18 => ?_) FU x6 bey4)
      refine v_iinc_nm C (lvf := fun x19 => [(3, .int x19), (0, .ref (q 0)), (1, .ref (q (22 + vj))), (2, .int (bI a2))]) 3 dX5_gainsTogether_114 rfl rfl (by decide) (fun _ => rfl) (fun x19 => ?_)
      refine v_goto C dX5_gainsTogether_117 (tgt := 9) (by decide) ?_
      exact v_sub [1, 2, 3, 0] rfl (ih x19 bey18)

set_option maxRecDepth 100000 in
set_option maxHeartbeats 4000000 in
theorem k_X5_gainsTogether {l : Launch} {a2 : Bool} {vj : Nat} {res : Int32 × Bool} (hq : (xA q).Nodup) (hvj : vj < 4) (hf : f_X5_gainsTogether n bey (G vj) a2 = some res) : kMet l yX5_gainsTogether wsX5_gainsTogether { frames := 1, cells := 0, slots := 0, locals := 26 } D vwCl (xT cs) (xN tF) (xA q) [.ref (q 0), .ref (q (22 + vj)), .int (bI a2)] (xW q cs n nd es kn knd kes img tl ta tn sl bey wt un ed kwt kun ked tb sb sz sbs G K P wk wh) (some (.int res.1)) (xW q cs n nd es kn knd kes img tl ta tn sl res.2 wt un ed kwt kun ked tb sb sz sbs G K P wk wh) := by
  have iX5 : ∀ w ∈ wsX50, w ∈ wsX5_gainsTogether := fun _ h => List.mem_cons_of_mem _ (List.mem_append_left _ (List.mem_append_left _ (List.mem_append_right _ h)))
  refine kMet.of (cc := cX5_gainsTogether) (nL := 9) (ret := (some .int)) (own := RX5) (lv := [(0, .ref (q 0)), (1, .ref (q (22 + vj))), (2, .int (bI a2))]) (by decide +kernel) rfl rfl xN_ok hq (Nat.le_of_ble_eq_true rfl) rfl (fun X C => ?_)
  refine VF.of hf ?_
  unfold f_X5_gainsTogether
  refine v_aload_n C 0 dX5_gainsTogether_0 rfl ?_
  refine v_get C (T := TX5) (n := 10) (C9 := RX5) iX5 0 rfl rfl 6 (by decide) (List.mem_of_getElem? (i := 1) rfl) rfl rfl dX5_gainsTogether_1 ?_
  refine v_callV0n C 6 rfl rfl rfl (fun l9 r9 h9 => k_X1_begin (l := l9) hq  h9) gX5_gainsTogether_X1_begin rfl nI_X1_begin ⟨rfl, rfl, Nat.le_of_ble_eq_true rfl, Nat.le_of_ble_eq_true rfl⟩ dX5_gainsTogether_4 (Nat.le_of_ble_eq_true rfl) (fun r1 => ?_)
  refine v_iconst C dX5_gainsTogether_7 (v := 0) (by decide) ?_
  refine v_istore_n C (lv' := [(3, .int 0), (0, .ref (q 0)), (1, .ref (q (22 + vj))), (2, .int (bI a2))]) dX5_gainsTogether_8 rfl (by decide) rfl ?_
  refine v_sub [1, 2, 3, 0] rfl (lp_X5_gainsTogether_1 hq C hvj  FU 0 r1)

end WK
