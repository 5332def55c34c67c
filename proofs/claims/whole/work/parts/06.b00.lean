section WK
variable {q : Nat → Nat} {cs : Nat → ClassId} {D : va_G} {tF : Nat} {n : Int32} {nd : Int32} {es : Int32} {kn : Int32} {knd : Int32} {kes : Int32} {img : Bool} {tl : Int32} {ta : Int32} {tn : Int64} {sl : Int32} {bey : Bool} {wt : Nat → Int32} {un : Nat → Int32} {ed : Nat → Int32} {kwt : Nat → Int32} {kun : Nat → Int32} {ked : Nat → Int32} {tb : Nat → Int32} {sb : Nat → Int32} {sz : Nat → Int32} {sbs : Nat → Int32} {G : Nat → Nat → Int64} {K : Nat → Nat → Int64} {P : Nat → Nat → Int64} {wk : Nat → Int64} {wh : Nat → Int64}
def B_X0_begin_1  (rec6 : Int32 → (Nat → Int32) → Option (Int32 × Int32 × Int32 × (Nat → Int32) × (Nat → Int32) × (Nat → Int32) × (Nat → Nat → Int64))) (kx7 : (Nat → Int32) → Option (Int32 × Int32 × Int32 × (Nat → Int32) × (Nat → Int32) × (Nat → Int32) × (Nat → Nat → Int64))) (v8 : Int32) (un9 : Nat → Int32) : Option (Int32 × Int32 × Int32 × (Nat → Int32) × (Nat → Int32) × (Nat → Int32) × (Nat → Nat → Int64)) :=
if (v8 : Int32) < 9 then (
ck (inb v8 9) (
nm (upd un9 v8.toNatClampNeg (1 <<< (v8 &&& 31))) (fun (un10 : Nat → Int32) =>
nm (v8 + 1) (fun (x11 : Int32) =>
rec6 x11 un10)))) else (
kx7 un9)
def L_X0_begin_1  (kx7 : (Nat → Int32) → Option (Int32 × Int32 × Int32 × (Nat → Int32) × (Nat → Int32) × (Nat → Int32) × (Nat → Nat → Int64))) : Nat → Int32 → (Nat → Int32) → Option (Int32 × Int32 × Int32 × (Nat → Int32) × (Nat → Int32) × (Nat → Int32) × (Nat → Nat → Int64))
  | 0, _, _ => none
  | m9 + 1, v8, un9 => B_X0_begin_1  (L_X0_begin_1 kx7 m9) kx7 v8 un9

def B_X0_begin_2 (n1 : Int32) (nd2 : Int32) (es3 : Int32) (wt4 : Nat → Int32) (ed5 : Nat → Int32) (un12 : Nat → Int32) (rec13 : Int32 → (Nat → Nat → Int64) → Option (Int32 × Int32 × Int32 × (Nat → Int32) × (Nat → Int32) × (Nat → Int32) × (Nat → Nat → Int64)))  (v14 : Int32) (G15 : Nat → Nat → Int64) : Option (Int32 × Int32 × Int32 × (Nat → Int32) × (Nat → Int32) × (Nat → Int32) × (Nat → Nat → Int64)) :=
if (v14 : Int32) < 4 then (
ck (inb v14 4) (
(f_filll (G15 v14.toNatClampNeg) (0 : Int64) 512).bind (fun (F17 : Nat → Int64) =>
nm (va_up G15 v14.toNatClampNeg F17) (fun (G18 : Nat → Nat → Int64) =>
nm (v14 + 1) (fun (x19 : Int32) =>
rec13 x19 G18))))) else (
some (n1, nd2, es3, wt4, un12, ed5, G15))
def L_X0_begin_2 (n1 : Int32) (nd2 : Int32) (es3 : Int32) (wt4 : Nat → Int32) (ed5 : Nat → Int32) (un12 : Nat → Int32)  : Nat → Int32 → (Nat → Nat → Int64) → Option (Int32 × Int32 × Int32 × (Nat → Int32) × (Nat → Int32) × (Nat → Int32) × (Nat → Nat → Int64))
  | 0, _, _ => none
  | m9 + 1, v14, G15 => B_X0_begin_2 n1 nd2 es3 wt4 ed5 un12 (L_X0_begin_2 n1 nd2 es3 wt4 ed5 un12 m9)  v14 G15

def f_X0_begin (n : Int32) (nd : Int32) (es : Int32) (wt : Nat → Int32) (un : Nat → Int32) (ed : Nat → Int32) (G : Nat → Nat → Int64) (a1 : Int32) : Option (Int32 × Int32 × Int32 × (Nat → Int32) × (Nat → Int32) × (Nat → Int32) × (Nat → Nat → Int64)) :=
nm a1 (fun (n1 : Int32) =>
nm (1 : Int32) (fun (nd2 : Int32) =>
nm (0 : Int32) (fun (es3 : Int32) =>
(f_filli wt (0 : Int32) 9).bind (fun (wt4 : Nat → Int32) =>
(f_filli ed (10000 : Int32) 81).bind (fun (ed5 : Nat → Int32) =>
L_X0_begin_1  (fun (un12 : Nat → Int32) =>
L_X0_begin_2 n1 nd2 es3 wt4 ed5 un12  FU 0 G) FU 0 un)))))

theorem nI_X0_begin : NameIn yX0_begin 1 := ⟨by decide +kernel, by decide +kernel, by decide +kernel⟩
set_option maxRecDepth 100000 in
set_option maxHeartbeats 4000000 in
theorem lp_X0_begin_1 {X : CX} {res : Int32 × Int32 × Int32 × (Nat → Int32) × (Nat → Int32) × (Nat → Int32) × (Nat → Nat → Int64)}   {n1 : Int32} {nd2 : Int32} {es3 : Int32} {wt4 : Nat → Int32} {ed5 : Nat → Int32} (hq : (xA q).Nodup) (C : Ok X cX0_begin 3 none wsX0_begin RX0 { frames := 1, cells := 0, slots := 0, locals := 24 } D vwCl (xT cs) (xA q) (xN tF) none (xW q cs res.1 res.2.1 res.2.2.1 kn knd kes img tl ta tn sl bey res.2.2.2.1 res.2.2.2.2.1 res.2.2.2.2.2.1 kwt kun ked tb sb sz sbs res.2.2.2.2.2.2 K P wk wh))  (kx7 : (Nat → Int32) → Option (Int32 × Int32 × Int32 × (Nat → Int32) × (Nat → Int32) × (Nat → Int32) × (Nat → Nat → Int64))) (Jkx7 : ∀ unZz : Nat → Int32, VF X res (kx7 unZz) (xW q cs n1 nd2 es3 kn knd kes img tl ta tn sl bey wt4 unZz ed5 kwt kun ked tb sb sz sbs G K P wk wh) 56 [(0, .ref (q 1))] []) : ∀ fuel : Nat, ∀ v8 : Int32, ∀ un9 : Nat → Int32, VF X res (L_X0_begin_1 kx7 fuel v8 un9) (xW q cs n1 nd2 es3 kn knd kes img tl ta tn sl bey wt4 un9 ed5 kwt kun ked tb sb sz sbs G K P wk wh) 35 [(0, .ref (q 1)), (2, .int v8)] [] := by
  have iX0 : ∀ w ∈ wsX00, w ∈ wsX0_begin := fun _ h => List.mem_cons_of_mem _ (List.mem_append_right _ h)
  intro fuel
  induction fuel with
  | zero =>
    intro _ _
    exact v_none
  | succ fuel ih =>
    intro v8 un9
    show VF X res (B_X0_begin_1  (L_X0_begin_1 kx7 fuel) kx7 v8 un9) _ _ _ _
    unfold B_X0_begin_1
    refine v_iload_n C 1 dX0_begin_35 rfl ?_
    refine v_bipush C dX0_begin_36 (v := 9) (by decide) ?_
    refine v_icmp_ge C dX0_begin_38 (tgt := 56) (by decide) ?_ ?_
    · exact v_sub [0] rfl (Jkx7 un9)
    · refine v_aload_n C 0 dX0_begin_41 rfl ?_
      refine v_get C (T := TX0) (n := 7) (C9 := RX0) iX0 1 rfl rfl 4 (by decide) (List.mem_of_getElem? (i := 6) rfl) rfl rfl dX0_begin_42 ?_
      refine v_iload_n C 1 dX0_begin_45 rfl ?_
      refine v_iconst C dX0_begin_46 (v := 1) (by decide) ?_
      refine v_iload_n C 1 dX0_begin_47 rfl ?_
      refine v_ishl C dX0_begin_48 ?_
      refine v_iast_nm C (fun un10 => (xW q cs n1 nd2 es3 kn knd kes img tl ta tn sl bey wt4 un10 ed5 kwt kun ked tb sb sz sbs G K P wk wh)) 8 0 rfl rfl rfl (fun _ => rfl) dX0_begin_49 (fun un10 => ?_)
      refine v_iinc_nm C (lvf := fun x11 => [(2, .int x11), (0, .ref (q 1))]) 1 dX0_begin_50 rfl rfl (by decide) (fun _ => rfl) (fun x11 => ?_)
      refine v_goto C dX0_begin_53 (tgt := 35) (by decide) ?_
      exact v_sub [1, 0] rfl (ih x11 un10)

set_option maxRecDepth 100000 in
set_option maxHeartbeats 4000000 in
theorem lp_X0_begin_2 {X : CX} {res : Int32 × Int32 × Int32 × (Nat → Int32) × (Nat → Int32) × (Nat → Int32) × (Nat → Nat → Int64)}   {n1 : Int32} {nd2 : Int32} {es3 : Int32} {wt4 : Nat → Int32} {ed5 : Nat → Int32} {un12 : Nat → Int32} (hq : (xA q).Nodup) (C : Ok X cX0_begin 3 none wsX0_begin RX0 { frames := 1, cells := 0, slots := 0, locals := 24 } D vwCl (xT cs) (xA q) (xN tF) none (xW q cs res.1 res.2.1 res.2.2.1 kn knd kes img tl ta tn sl bey res.2.2.2.1 res.2.2.2.2.1 res.2.2.2.2.2.1 kwt kun ked tb sb sz sbs res.2.2.2.2.2.2 K P wk wh))  : ∀ fuel : Nat, ∀ v14 : Int32, ∀ G15 : Nat → Nat → Int64, VF X res (L_X0_begin_2 n1 nd2 es3 wt4 ed5 un12 fuel v14 G15) (xW q cs n1 nd2 es3 kn knd kes img tl ta tn sl bey wt4 un12 ed5 kwt kun ked tb sb sz sbs G15 K P wk wh) 58 [(0, .ref (q 1)), (2, .int v14)] [] := by
  have iX0 : ∀ w ∈ wsX00, w ∈ wsX0_begin := fun _ h => List.mem_cons_of_mem _ (List.mem_append_right _ h)
  intro fuel
  induction fuel with
  | zero =>
    intro _ _
    exact v_none
  | succ fuel ih =>
    intro v14 G15
    show VF X res (B_X0_begin_2 n1 nd2 es3 wt4 ed5 un12 (L_X0_begin_2 n1 nd2 es3 wt4 ed5 un12 fuel)  v14 G15) _ _ _ _
    unfold B_X0_begin_2
    refine v_iload_n C 1 dX0_begin_58 rfl ?_
    refine v_iconst C dX0_begin_59 (v := 4) (by decide) ?_
    refine v_icmp_ge C dX0_begin_60 (tgt := 79) (by decide) ?_ ?_
    · exact v_vret (rvf := fun (res : Int32 × Int32 × Int32 × (Nat → Int32) × (Nat → Int32) × (Nat → Int32) × (Nat → Nat → Int64)) => none) (wf := fun (res : Int32 × Int32 × Int32 × (Nat → Int32) × (Nat → Int32) × (Nat → Int32) × (Nat → Nat → Int64)) => (xW q cs res.1 res.2.1 res.2.2.1 kn knd kes img tl ta tn sl bey res.2.2.2.1 res.2.2.2.2.1 res.2.2.2.2.2.1 kwt kun ked tb sb sz sbs res.2.2.2.2.2.2 K P wk wh)) C dX0_begin_79 rfl rfl
    · refine v_aload_n C 0 dX0_begin_63 rfl ?_
      refine v_get C (T := TX0) (n := 7) (C9 := RX0) iX0 1 rfl rfl 6 (by decide) (List.mem_of_getElem? (i := 7) rfl) rfl rfl dX0_begin_64 ?_
      refine v_iload_n C 1 dX0_begin_67 rfl ?_
      refine v_aalda C (ad := fun j9 => q (22 + j9)) 10 3 rfl rfl (fun _ h9 => if_pos h9) dX0_begin_68 (fun hb16 => ?_)
      have hj16 := inb_lt hb16
      refine v_lconst C dX0_begin_69 (v := 0) (by decide) ?_
      refine v_filll_nm C (fun F17 => (xW q cs n1 nd2 es3 kn knd kes img tl ta tn sl bey wt4 un12 ed5 kwt kun ked tb sb sz sbs (va_up G15 v14.toNatClampNeg F17) K P wk wh)) (fun l9 F9 D9 h9 => k_filll (l := l9) (by decide) h9) (22 + v14.toNatClampNeg) 1 (xW_G hj16) rfl rfl (fun _ => xW_G_set hj16) gX0_begin_J7_fill_d0a16 rfl nI_J7_fill_d0a16 ⟨rfl, rfl, Nat.le_of_ble_eq_true rfl, Nat.le_of_ble_eq_true rfl⟩ dX0_begin_70 (Nat.le_of_ble_eq_true rfl) (fun F17 => ?_)
      refine v_namew (wf := fun G18 => (xW q cs n1 nd2 es3 kn knd kes img tl ta tn sl bey wt4 un12 ed5 kwt kun ked tb sb sz sbs G18 K P wk wh)) (fun G18 => ?_)
      refine v_iinc_nm C (lvf := fun x19 => [(2, .int x19), (0, .ref (q 1))]) 1 dX0_begin_73 rfl rfl (by decide) (fun _ => rfl) (fun x19 => ?_)
      refine v_goto C dX0_begin_76 (tgt := 58) (by decide) ?_
      exact v_sub [1, 0] rfl (ih x19 G18)

set_option maxRecDepth 100000 in
set_option maxHeartbeats 4000000 in
theorem k_X0_begin {l : Launch} {a1 : Int32}  {res : Int32 × Int32 × Int32 × (Nat → Int32) × (Nat → Int32) × (Nat → Int32) × (Nat → Nat → Int64)} (hq : (xA q).Nodup)  (hf : f_X0_begin n nd es wt un ed G a1 = some res) : kMet l yX0_begin wsX0_begin { frames := 1, cells := 0, slots := 0, locals := 24 } D vwCl (xT cs) (xN tF) (xA q) [.ref (q 1), .int a1] (xW q cs n nd es kn knd kes img tl ta tn sl bey wt un ed kwt kun ked tb sb sz sbs G K P wk wh) none (xW q cs res.1 res.2.1 res.2.2.1 kn knd kes img tl ta tn sl bey res.2.2.2.1 res.2.2.2.2.1 res.2.2.2.2.2.1 kwt kun ked tb sb sz sbs res.2.2.2.2.2.2 K P wk wh) := by
  have iX0 : ∀ w ∈ wsX00, w ∈ wsX0_begin := fun _ h => List.mem_cons_of_mem _ (List.mem_append_right _ h)
  refine kMet.of (cc := cX0_begin) (nL := 3) (ret := none) (own := RX0) (lv := [(0, .ref (q 1)), (1, .int a1)]) (by decide +kernel) rfl rfl xN_ok hq (Nat.le_of_ble_eq_true rfl) rfl (fun X C => ?_)
  refine VF.of hf ?_
  unfold f_X0_begin
  refine v_aload_n C 0 dX0_begin_0 rfl ?_
  refine v_iload_n C 1 dX0_begin_1 rfl ?_
  refine v_put_nm C (v := (a1 : Int32)) Value.int (ty := .int) (T := TX0) (n := 7) (C9 := RX0) (ty0 := tyX0) (fun n1 => (xW q cs n1 nd es kn knd kes img tl ta tn sl bey wt un ed kwt kun ked tb sb sz sbs G K P wk wh)) iX0 tyX0_ok nmX0 1 rfl rfl rfl 0 (by decide) (List.mem_of_getElem? (i := 1) rfl) rfl rfl rfl (fun _ => rfl) (fun _ => rfl) (Nat.le_of_ble_eq_true rfl) (fun _ => rfl) dX0_begin_2 (fun n1 => ?_)
  refine v_aload_n C 0 dX0_begin_5 rfl ?_
  refine v_iconst C dX0_begin_6 (v := 1) (by decide) ?_
  refine v_put_nm C (v := (1 : Int32)) Value.int (ty := .int) (T := TX0) (n := 7) (C9 := RX0) (ty0 := tyX0) (fun nd2 => (xW q cs n1 nd2 es kn knd kes img tl ta tn sl bey wt un ed kwt kun ked tb sb sz sbs G K P wk wh)) iX0 tyX0_ok nmX0 1 rfl rfl rfl 1 (by decide) (List.mem_of_getElem? (i := 2) rfl) rfl rfl rfl (fun _ => rfl) (fun _ => rfl) (Nat.le_of_ble_eq_true rfl) (fun _ => rfl) dX0_begin_7 (fun nd2 => ?_)
  refine v_aload_n C 0 dX0_begin_10 rfl ?_
  refine v_iconst C dX0_begin_11 (v := 0) (by decide) ?_
  refine v_put_nm C (v := (0 : Int32)) Value.int (ty := .int) (T := TX0) (n := 7) (C9 := RX0) (ty0 := tyX0) (fun es3 => (xW q cs n1 nd2 es3 kn knd kes img tl ta tn sl bey wt un ed kwt kun ked tb sb sz sbs G K P wk wh)) iX0 tyX0_ok nmX0 1 rfl rfl rfl 2 (by decide) (List.mem_of_getElem? (i := 3) rfl) rfl rfl rfl (fun _ => rfl) (fun _ => rfl) (Nat.le_of_ble_eq_true rfl) (fun _ => rfl) dX0_begin_12 (fun es3 => ?_)
  refine v_aload_n C 0 dX0_begin_15 rfl ?_
  refine v_get C (T := TX0) (n := 7) (C9 := RX0) iX0 1 rfl rfl 3 (by decide) (List.mem_of_getElem? (i := 4) rfl) rfl rfl dX0_begin_16 ?_
  refine v_iconst C dX0_begin_19 (v := 0) (by decide) ?_
  refine v_filli_nm C (fun wt4 => (xW q cs n1 nd2 es3 kn knd kes img tl ta tn sl bey wt4 un ed kwt kun ked tb sb sz sbs G K P wk wh)) (fun l9 F9 D9 h9 => k_filli (l := l9) (by decide) h9) 7 0 rfl rfl rfl (fun _ => rfl) gX0_begin_J7_fill_53178 rfl nI_J7_fill_53178 ⟨rfl, rfl, Nat.le_of_ble_eq_true rfl, Nat.le_of_ble_eq_true rfl⟩ dX0_begin_20 (Nat.le_of_ble_eq_true rfl) (fun wt4 => ?_)
  refine v_aload_n C 0 dX0_begin_23 rfl ?_
  refine v_get C (T := TX0) (n := 7) (C9 := RX0) iX0 1 rfl rfl 5 (by decide) (List.mem_of_getElem? (i := 5) rfl) rfl rfl dX0_begin_24 ?_
  refine v_sipush C dX0_begin_27 (v := 10000) (by decide) ?_
  refine v_filli_nm C (fun ed5 => (xW q cs n1 nd2 es3 kn knd kes img tl ta tn sl bey wt4 un ed5 kwt kun ked tb sb sz sbs G K P wk wh)) (fun l9 F9 D9 h9 => k_filli (l := l9) (by decide) h9) 9 0 rfl rfl rfl (fun _ => rfl) gX0_begin_J7_fill_53178 rfl nI_J7_fill_53178 ⟨rfl, rfl, Nat.le_of_ble_eq_true rfl, Nat.le_of_ble_eq_true rfl⟩ dX0_begin_30 (Nat.le_of_ble_eq_true rfl) (fun ed5 => ?_)
  refine v_iconst C dX0_begin_33 (v := 0) (by decide) ?_
  refine v_istore_n C (lv' := [(2, .int 0), (0, .ref (q 1)), (1, .int a1)]) dX0_begin_34 rfl (by decide) rfl ?_
  refine v_sub [1, 0] rfl (lp_X0_begin_1 hq C  _ (fun un12 => ?_) FU 0 un)
  refine v_iconst C dX0_begin_56 (v := 0) (by decide) ?_
  refine v_istore_n C (lv' := [(2, .int 0), (0, .ref (q 1))]) dX0_begin_57 rfl (by decide) rfl ?_
  refine v_sub [1, 0] rfl (lp_X0_begin_2 hq C   FU 0 G)

def B_X0_become_k_1 (G : Nat → Nat → Int64) (kn1 : Int32) (knd2 : Int32) (kes3 : Int32) (kwt4 : Nat → Int32) (kun5 : Nat → Int32) (ked6 : Nat → Int32) (rec7 : Int32 → (Nat → Nat → Int64) → Option (Int32 × Int32 × Int32 × (Nat → Int32) × (Nat → Int32) × (Nat → Int32) × (Nat → Nat → Int64)))  (v8 : Int32) (K9 : Nat → Nat → Int64) : Option (Int32 × Int32 × Int32 × (Nat → Int32) × (Nat → Int32) × (Nat → Int32) × (Nat → Nat → Int64)) :=
if (v8 : Int32) < 4 then (
ck (inb v8 4) (
ck (inb v8 4) (
ck (cpk (0 : Int32) (0 : Int32) (512 : Int32) 512 512) (
nm (va_cpy (G v8.toNatClampNeg) (K9 v8.toNatClampNeg) (0 : Int32).toNatClampNeg (0 : Int32).toNatClampNeg (512 : Int32).toNatClampNeg) (fun (F12 : Nat → Int64) =>
nm (va_up K9 v8.toNatClampNeg F12) (fun (K13 : Nat → Nat → Int64) =>
nm (v8 + 1) (fun (x14 : Int32) =>
rec7 x14 K13))))))) else (
some (kn1, knd2, kes3, kwt4, kun5, ked6, K9))
def L_X0_become_k_1 (G : Nat → Nat → Int64) (kn1 : Int32) (knd2 : Int32) (kes3 : Int32) (kwt4 : Nat → Int32) (kun5 : Nat → Int32) (ked6 : Nat → Int32)  : Nat → Int32 → (Nat → Nat → Int64) → Option (Int32 × Int32 × Int32 × (Nat → Int32) × (Nat → Int32) × (Nat → Int32) × (Nat → Nat → Int64))
  | 0, _, _ => none
  | m9 + 1, v8, K9 => B_X0_become_k_1 G kn1 knd2 kes3 kwt4 kun5 ked6 (L_X0_become_k_1 G kn1 knd2 kes3 kwt4 kun5 ked6 m9)  v8 K9

def f_X0_become_k (n : Int32) (nd : Int32) (es : Int32) (kn : Int32) (knd : Int32) (kes : Int32) (wt : Nat → Int32) (un : Nat → Int32) (ed : Nat → Int32) (kwt : Nat → Int32) (kun : Nat → Int32) (ked : Nat → Int32) (G : Nat → Nat → Int64) (K : Nat → Nat → Int64) : Option (Int32 × Int32 × Int32 × (Nat → Int32) × (Nat → Int32) × (Nat → Int32) × (Nat → Nat → Int64)) :=
nm n (fun (kn1 : Int32) =>
nm nd (fun (knd2 : Int32) =>
nm es (fun (kes3 : Int32) =>
ck (cpk (0 : Int32) (0 : Int32) (9 : Int32) 9 9) (
nm (va_cpy wt kwt (0 : Int32).toNatClampNeg (0 : Int32).toNatClampNeg (9 : Int32).toNatClampNeg) (fun (kwt4 : Nat → Int32) =>
ck (cpk (0 : Int32) (0 : Int32) (9 : Int32) 9 9) (
nm (va_cpy un kun (0 : Int32).toNatClampNeg (0 : Int32).toNatClampNeg (9 : Int32).toNatClampNeg) (fun (kun5 : Nat → Int32) =>
ck (cpk (0 : Int32) (0 : Int32) (81 : Int32) 81 81) (
nm (va_cpy ed ked (0 : Int32).toNatClampNeg (0 : Int32).toNatClampNeg (81 : Int32).toNatClampNeg) (fun (ked6 : Nat → Int32) =>
L_X0_become_k_1 G kn1 knd2 kes3 kwt4 kun5 ked6  FU 0 K)))))))))

theorem nI_X0_become : NameIn yX0_become 1 := ⟨by decide +kernel, by decide +kernel, by decide +kernel⟩
set_option maxRecDepth 100000 in
set_option maxHeartbeats 4000000 in
theorem lp_X0_become_k_1 {X : CX} {res : Int32 × Int32 × Int32 × (Nat → Int32) × (Nat → Int32) × (Nat → Int32) × (Nat → Nat → Int64)}   {kn1 : Int32} {knd2 : Int32} {kes3 : Int32} {kwt4 : Nat → Int32} {kun5 : Nat → Int32} {ked6 : Nat → Int32} (hq : (xA q).Nodup) (C : Ok X cX0_become 3 none wsX0_become RX0 { frames := 1, cells := 0, slots := 0, locals := 60 } D vwCl (xT cs) (xA q) (xN tF) none (xW q cs n nd es res.1 res.2.1 res.2.2.1 img tl ta tn sl bey wt un ed res.2.2.2.1 res.2.2.2.2.1 res.2.2.2.2.2.1 tb sb sz sbs G res.2.2.2.2.2.2 P wk wh))  : ∀ fuel : Nat, ∀ v8 : Int32, ∀ K9 : Nat → Nat → Int64, VF X res (L_X0_become_k_1 G kn1 knd2 kes3 kwt4 kun5 ked6 fuel v8 K9) (xW q cs n nd es kn1 knd2 kes3 img tl ta tn sl bey wt un ed kwt4 kun5 ked6 tb sb sz sbs G K9 P wk wh) 74 [(0, .ref (q 2)), (1, .ref (q 1)), (2, .int v8)] [] := by
  have iX0 : ∀ w ∈ wsX00, w ∈ wsX0_become := fun _ h => List.mem_cons_of_mem _ (List.mem_append_right _ h)
  intro fuel
  induction fuel with
  | zero =>
    intro _ _
    exact v_none
  | succ fuel ih =>
    intro v8 K9
    show VF X res (B_X0_become_k_1 G kn1 knd2 kes3 kwt4 kun5 ked6 (L_X0_become_k_1 G kn1 knd2 kes3 kwt4 kun5 ked6 fuel)  v8 K9) _ _ _ _
    unfold B_X0_become_k_1
    refine v_iload_n C 2 dX0_become_74 rfl ?_
    refine v_iconst C dX0_become_75 (v := 4) (by decide) ?_
    refine v_icmp_ge C dX0_become_76 (tgt := 105) (by decide) ?_ ?_
    · exact v_vret (rvf := fun (res : Int32 × Int32 × Int32 × (Nat → Int32) × (Nat → Int32) × (Nat → Int32) × (Nat → Nat → Int64)) => none) (wf := fun (res : Int32 × Int32 × Int32 × (Nat → Int32) × (Nat → Int32) × (Nat → Int32) × (Nat → Nat → Int64)) => (xW q cs n nd es res.1 res.2.1 res.2.2.1 img tl ta tn sl bey wt un ed res.2.2.2.1 res.2.2.2.2.1 res.2.2.2.2.2.1 tb sb sz sbs G res.2.2.2.2.2.2 P wk wh)) C dX0_become_105 rfl rfl
    · refine v_aload_n C 1 dX0_become_79 rfl ?_
      refine v_get C (T := TX0) (n := 7) (C9 := RX0) iX0 1 rfl rfl 6 (by decide) (List.mem_of_getElem? (i := 11) rfl) rfl rfl dX0_become_80 ?_
      refine v_iload_n C 2 dX0_become_83 rfl ?_
      refine v_aalda C (ad := fun j9 => q (22 + j9)) 10 3 rfl rfl (fun _ h9 => if_pos h9) dX0_become_84 (fun hb10 => ?_)
      have hj10 := inb_lt hb10
      refine v_iconst C dX0_become_85 (v := 0) (by decide) ?_
      refine v_aload_n C 0 dX0_become_86 rfl ?_
      refine v_get C (T := TX0) (n := 7) (C9 := RX0) iX0 2 rfl rfl 6 (by decide) (List.mem_of_getElem? (i := 11) rfl) rfl rfl dX0_become_87 ?_
      refine v_iload_n C 2 dX0_become_90 rfl ?_
      refine v_aalda C (ad := fun j9 => q (26 + j9)) 14 3 rfl rfl (fun _ h9 => if_pos h9) dX0_become_91 (fun hb11 => ?_)
      have hj11 := inb_lt hb11
      refine v_iconst C dX0_become_92 (v := 0) (by decide) ?_
      refine v_sipush C dX0_become_93 (v := 512) (by decide) ?_
      refine v_copyl_nm C (fun F12 => (xW q cs n nd es kn1 knd2 kes3 img tl ta tn sl bey wt un ed kwt4 kun5 ked6 tb sb sz sbs G (va_up K9 v8.toNatClampNeg F12) P wk wh)) (List.mem_of_getElem? (i := 5) rfl) (List.mem_of_getElem? (i := 6) rfl) (List.mem_of_getElem? (i := 7) rfl) (List.mem_of_getElem? (i := 8) rfl) (22 + v8.toNatClampNeg) (26 + v8.toNatClampNeg) 1 1 (xW_G hj10) (xW_K hj11) rfl rfl rfl (fun _ => xW_K_set hj11) (Nat.le_of_ble_eq_true rfl) (Nat.le_of_ble_eq_true rfl) dX0_become_96 (fun F12 => ?_)
      refine v_namew (wf := fun K13 => (xW q cs n nd es kn1 knd2 kes3 img tl ta tn sl bey wt un ed kwt4 kun5 ked6 tb sb sz sbs G K13 P wk wh)) (fun K13 => ?_)
      refine v_iinc_nm C (lvf := fun x14 => [(2, .int x14), (0, .ref (q 2)), (1, .ref (q 1))]) 2 dX0_become_99 rfl rfl (by decide) (fun _ => rfl) (fun x14 => ?_)
      refine v_goto C dX0_become_102 (tgt := 74) (by decide) ?_
      exact v_sub [1, 2, 0] rfl (ih x14 K13)

set_option maxRecDepth 100000 in
set_option maxHeartbeats 4000000 in
theorem k_X0_become_k {l : Launch}   {res : Int32 × Int32 × Int32 × (Nat → Int32) × (Nat → Int32) × (Nat → Int32) × (Nat → Nat → Int64)} (hq : (xA q).Nodup)  (hf : f_X0_become_k n nd es kn knd kes wt un ed kwt kun ked G K = some res) : kMet l yX0_become wsX0_become { frames := 1, cells := 0, slots := 0, locals := 60 } D vwCl (xT cs) (xN tF) (xA q) [.ref (q 2), .ref (q 1)] (xW q cs n nd es kn knd kes img tl ta tn sl bey wt un ed kwt kun ked tb sb sz sbs G K P wk wh) none (xW q cs n nd es res.1 res.2.1 res.2.2.1 img tl ta tn sl bey wt un ed res.2.2.2.1 res.2.2.2.2.1 res.2.2.2.2.2.1 tb sb sz sbs G res.2.2.2.2.2.2 P wk wh) := by
  have iX0 : ∀ w ∈ wsX00, w ∈ wsX0_become := fun _ h => List.mem_cons_of_mem _ (List.mem_append_right _ h)
  refine kMet.of (cc := cX0_become) (nL := 3) (ret := none) (own := RX0) (lv := [(0, .ref (q 2)), (1, .ref (q 1))]) (by decide +kernel) rfl rfl xN_ok hq (Nat.le_of_ble_eq_true rfl) rfl (fun X C => ?_)
  refine VF.of hf ?_
  unfold f_X0_become_k
  refine v_aload_n C 0 dX0_become_0 rfl ?_
  refine v_aload_n C 1 dX0_become_1 rfl ?_
  refine v_get C (T := TX0) (n := 7) (C9 := RX0) iX0 1 rfl rfl 0 (by decide) (List.mem_of_getElem? (i := 1) rfl) rfl rfl dX0_become_2 ?_
  refine v_put_nm C (v := (n : Int32)) Value.int (ty := .int) (T := TX0) (n := 7) (C9 := RX0) (ty0 := tyX0) (fun kn1 => (xW q cs n nd es kn1 knd kes img tl ta tn sl bey wt un ed kwt kun ked tb sb sz sbs G K P wk wh)) iX0 tyX0_ok nmX0 2 rfl rfl rfl 0 (by decide) (List.mem_of_getElem? (i := 1) rfl) rfl rfl rfl (fun _ => rfl) (fun _ => rfl) (Nat.le_of_ble_eq_true rfl) (fun _ => rfl) dX0_become_5 (fun kn1 => ?_)
  refine v_aload_n C 0 dX0_become_8 rfl ?_
  refine v_aload_n C 1 dX0_become_9 rfl ?_
  refine v_get C (T := TX0) (n := 7) (C9 := RX0) iX0 1 rfl rfl 1 (by decide) (List.mem_of_getElem? (i := 2) rfl) rfl rfl dX0_become_10 ?_
  refine v_put_nm C (v := (nd : Int32)) Value.int (ty := .int) (T := TX0) (n := 7) (C9 := RX0) (ty0 := tyX0) (fun knd2 => (xW q cs n nd es kn1 knd2 kes img tl ta tn sl bey wt un ed kwt kun ked tb sb sz sbs G K P wk wh)) iX0 tyX0_ok nmX0 2 rfl rfl rfl 1 (by decide) (List.mem_of_getElem? (i := 2) rfl) rfl rfl rfl (fun _ => rfl) (fun _ => rfl) (Nat.le_of_ble_eq_true rfl) (fun _ => rfl) dX0_become_13 (fun knd2 => ?_)
  refine v_aload_n C 0 dX0_become_16 rfl ?_
  refine v_aload_n C 1 dX0_become_17 rfl ?_
  refine v_get C (T := TX0) (n := 7) (C9 := RX0) iX0 1 rfl rfl 2 (by decide) (List.mem_of_getElem? (i := 3) rfl) rfl rfl dX0_become_18 ?_
  refine v_put_nm C (v := (es : Int32)) Value.int (ty := .int) (T := TX0) (n := 7) (C9 := RX0) (ty0 := tyX0) (fun kes3 => (xW q cs n nd es kn1 knd2 kes3 img tl ta tn sl bey wt un ed kwt kun ked tb sb sz sbs G K P wk wh)) iX0 tyX0_ok nmX0 2 rfl rfl rfl 2 (by decide) (List.mem_of_getElem? (i := 3) rfl) rfl rfl rfl (fun _ => rfl) (fun _ => rfl) (Nat.le_of_ble_eq_true rfl) (fun _ => rfl) dX0_become_21 (fun kes3 => ?_)
  refine v_aload_n C 1 dX0_become_24 rfl ?_
  refine v_get C (T := TX0) (n := 7) (C9 := RX0) iX0 1 rfl rfl 3 (by decide) (List.mem_of_getElem? (i := 4) rfl) rfl rfl dX0_become_25 ?_
  refine v_iconst C dX0_become_28 (v := 0) (by decide) ?_
  refine v_aload_n C 0 dX0_become_29 rfl ?_
  refine v_get C (T := TX0) (n := 7) (C9 := RX0) iX0 2 rfl rfl 3 (by decide) (List.mem_of_getElem? (i := 4) rfl) rfl rfl dX0_become_30 ?_
  refine v_iconst C dX0_become_33 (v := 0) (by decide) ?_
  refine v_bipush C dX0_become_34 (v := 9) (by decide) ?_
  refine v_copyi_nm C (fun kwt4 => (xW q cs n nd es kn1 knd2 kes3 img tl ta tn sl bey wt un ed kwt4 kun ked tb sb sz sbs G K P wk wh)) (List.mem_of_getElem? (i := 5) rfl) (List.mem_of_getElem? (i := 6) rfl) (List.mem_of_getElem? (i := 7) rfl) (List.mem_of_getElem? (i := 8) rfl) 7 11 0 0 rfl rfl rfl rfl rfl (fun _ => rfl) (Nat.le_of_ble_eq_true rfl) (Nat.le_of_ble_eq_true rfl) dX0_become_36 (fun kwt4 => ?_)
  refine v_aload_n C 1 dX0_become_39 rfl ?_
  refine v_get C (T := TX0) (n := 7) (C9 := RX0) iX0 1 rfl rfl 4 (by decide) (List.mem_of_getElem? (i := 9) rfl) rfl rfl dX0_become_40 ?_
  refine v_iconst C dX0_become_43 (v := 0) (by decide) ?_
  refine v_aload_n C 0 dX0_become_44 rfl ?_
  refine v_get C (T := TX0) (n := 7) (C9 := RX0) iX0 2 rfl rfl 4 (by decide) (List.mem_of_getElem? (i := 9) rfl) rfl rfl dX0_become_45 ?_
  refine v_iconst C dX0_become_48 (v := 0) (by decide) ?_
  refine v_bipush C dX0_become_49 (v := 9) (by decide) ?_
  refine v_copyi_nm C (fun kun5 => (xW q cs n nd es kn1 knd2 kes3 img tl ta tn sl bey wt un ed kwt4 kun5 ked tb sb sz sbs G K P wk wh)) (List.mem_of_getElem? (i := 5) rfl) (List.mem_of_getElem? (i := 6) rfl) (List.mem_of_getElem? (i := 7) rfl) (List.mem_of_getElem? (i := 8) rfl) 8 12 0 0 rfl rfl rfl rfl rfl (fun _ => rfl) (Nat.le_of_ble_eq_true rfl) (Nat.le_of_ble_eq_true rfl) dX0_become_51 (fun kun5 => ?_)
  refine v_aload_n C 1 dX0_become_54 rfl ?_
  refine v_get C (T := TX0) (n := 7) (C9 := RX0) iX0 1 rfl rfl 5 (by decide) (List.mem_of_getElem? (i := 10) rfl) rfl rfl dX0_become_55 ?_
  refine v_iconst C dX0_become_58 (v := 0) (by decide) ?_
  refine v_aload_n C 0 dX0_become_59 rfl ?_
  refine v_get C (T := TX0) (n := 7) (C9 := RX0) iX0 2 rfl rfl 5 (by decide) (List.mem_of_getElem? (i := 10) rfl) rfl rfl dX0_become_60 ?_
  refine v_iconst C dX0_become_63 (v := 0) (by decide) ?_
  refine v_aload_n C 0 dX0_become_64 rfl ?_
  refine v_get C (T := TX0) (n := 7) (C9 := RX0) iX0 2 rfl rfl 5 (by decide) (List.mem_of_getElem? (i := 10) rfl) rfl rfl dX0_become_65 ?_
  refine v_alen C (v := 81) 13 0 rfl rfl rfl dX0_become_68 ?_
  refine v_copyi_nm C (fun ked6 => (xW q cs n nd es kn1 knd2 kes3 img tl ta tn sl bey wt un ed kwt4 kun5 ked6 tb sb sz sbs G K P wk wh)) (List.mem_of_getElem? (i := 5) rfl) (List.mem_of_getElem? (i := 6) rfl) (List.mem_of_getElem? (i := 7) rfl) (List.mem_of_getElem? (i := 8) rfl) 9 13 0 0 rfl rfl rfl rfl rfl (fun _ => rfl) (Nat.le_of_ble_eq_true rfl) (Nat.le_of_ble_eq_true rfl) dX0_become_69 (fun ked6 => ?_)
  refine v_iconst C dX0_become_72 (v := 0) (by decide) ?_
  refine v_istore_n C (lv' := [(2, .int 0), (0, .ref (q 2)), (1, .ref (q 1))]) dX0_become_73 rfl (by decide) rfl ?_
  refine v_sub [1, 2, 0] rfl (lp_X0_become_k_1 hq C   FU 0 K)

def B_X0_become_n_1 (K : Nat → Nat → Int64) (n1 : Int32) (nd2 : Int32) (es3 : Int32) (wt4 : Nat → Int32) (un5 : Nat → Int32) (ed6 : Nat → Int32) (rec7 : Int32 → (Nat → Nat → Int64) → Option (Int32 × Int32 × Int32 × (Nat → Int32) × (Nat → Int32) × (Nat → Int32) × (Nat → Nat → Int64)))  (v8 : Int32) (G9 : Nat → Nat → Int64) : Option (Int32 × Int32 × Int32 × (Nat → Int32) × (Nat → Int32) × (Nat → Int32) × (Nat → Nat → Int64)) :=
if (v8 : Int32) < 4 then (
ck (inb v8 4) (
ck (inb v8 4) (
ck (cpk (0 : Int32) (0 : Int32) (512 : Int32) 512 512) (
nm (va_cpy (K v8.toNatClampNeg) (G9 v8.toNatClampNeg) (0 : Int32).toNatClampNeg (0 : Int32).toNatClampNeg (512 : Int32).toNatClampNeg) (fun (F12 : Nat → Int64) =>
nm (va_up G9 v8.toNatClampNeg F12) (fun (G13 : Nat → Nat → Int64) =>
nm (v8 + 1) (fun (x14 : Int32) =>
rec7 x14 G13))))))) else (
some (n1, nd2, es3, wt4, un5, ed6, G9))
def L_X0_become_n_1 (K : Nat → Nat → Int64) (n1 : Int32) (nd2 : Int32) (es3 : Int32) (wt4 : Nat → Int32) (un5 : Nat → Int32) (ed6 : Nat → Int32)  : Nat → Int32 → (Nat → Nat → Int64) → Option (Int32 × Int32 × Int32 × (Nat → Int32) × (Nat → Int32) × (Nat → Int32) × (Nat → Nat → Int64))
  | 0, _, _ => none
  | m9 + 1, v8, G9 => B_X0_become_n_1 K n1 nd2 es3 wt4 un5 ed6 (L_X0_become_n_1 K n1 nd2 es3 wt4 un5 ed6 m9)  v8 G9

def f_X0_become_n (n : Int32) (nd : Int32) (es : Int32) (kn : Int32) (knd : Int32) (kes : Int32) (wt : Nat → Int32) (un : Nat → Int32) (ed : Nat → Int32) (kwt : Nat → Int32) (kun : Nat → Int32) (ked : Nat → Int32) (G : Nat → Nat → Int64) (K : Nat → Nat → Int64) : Option (Int32 × Int32 × Int32 × (Nat → Int32) × (Nat → Int32) × (Nat → Int32) × (Nat → Nat → Int64)) :=
nm kn (fun (n1 : Int32) =>
nm knd (fun (nd2 : Int32) =>
nm kes (fun (es3 : Int32) =>
ck (cpk (0 : Int32) (0 : Int32) (9 : Int32) 9 9) (
nm (va_cpy kwt wt (0 : Int32).toNatClampNeg (0 : Int32).toNatClampNeg (9 : Int32).toNatClampNeg) (fun (wt4 : Nat → Int32) =>
ck (cpk (0 : Int32) (0 : Int32) (9 : Int32) 9 9) (
nm (va_cpy kun un (0 : Int32).toNatClampNeg (0 : Int32).toNatClampNeg (9 : Int32).toNatClampNeg) (fun (un5 : Nat → Int32) =>
ck (cpk (0 : Int32) (0 : Int32) (81 : Int32) 81 81) (
nm (va_cpy ked ed (0 : Int32).toNatClampNeg (0 : Int32).toNatClampNeg (81 : Int32).toNatClampNeg) (fun (ed6 : Nat → Int32) =>
L_X0_become_n_1 K n1 nd2 es3 wt4 un5 ed6  FU 0 G)))))))))

set_option maxRecDepth 100000 in
set_option maxHeartbeats 4000000 in
theorem lp_X0_become_n_1 {X : CX} {res : Int32 × Int32 × Int32 × (Nat → Int32) × (Nat → Int32) × (Nat → Int32) × (Nat → Nat → Int64)}   {n1 : Int32} {nd2 : Int32} {es3 : Int32} {wt4 : Nat → Int32} {un5 : Nat → Int32} {ed6 : Nat → Int32} (hq : (xA q).Nodup) (C : Ok X cX0_become 3 none wsX0_become RX0 { frames := 1, cells := 0, slots := 0, locals := 60 } D vwCl (xT cs) (xA q) (xN tF) none (xW q cs res.1 res.2.1 res.2.2.1 kn knd kes img tl ta tn sl bey res.2.2.2.1 res.2.2.2.2.1 res.2.2.2.2.2.1 kwt kun ked tb sb sz sbs res.2.2.2.2.2.2 K P wk wh))  : ∀ fuel : Nat, ∀ v8 : Int32, ∀ G9 : Nat → Nat → Int64, VF X res (L_X0_become_n_1 K n1 nd2 es3 wt4 un5 ed6 fuel v8 G9) (xW q cs n1 nd2 es3 kn knd kes img tl ta tn sl bey wt4 un5 ed6 kwt kun ked tb sb sz sbs G9 K P wk wh) 74 [(0, .ref (q 1)), (1, .ref (q 2)), (2, .int v8)] [] := by
  have iX0 : ∀ w ∈ wsX00, w ∈ wsX0_become := fun _ h => List.mem_cons_of_mem _ (List.mem_append_right _ h)
  intro fuel
  induction fuel with
  | zero =>
    intro _ _
    exact v_none
  | succ fuel ih =>
    intro v8 G9
    show VF X res (B_X0_become_n_1 K n1 nd2 es3 wt4 un5 ed6 (L_X0_become_n_1 K n1 nd2 es3 wt4 un5 ed6 fuel)  v8 G9) _ _ _ _
    unfold B_X0_become_n_1
    refine v_iload_n C 2 dX0_become_74 rfl ?_
    refine v_iconst C dX0_become_75 (v := 4) (by decide) ?_
    refine v_icmp_ge C dX0_become_76 (tgt := 105) (by decide) ?_ ?_
    · exact v_vret (rvf := fun (res : Int32 × Int32 × Int32 × (Nat → Int32) × (Nat → Int32) × (Nat → Int32) × (Nat → Nat → Int64)) => none) (wf := fun (res : Int32 × Int32 × Int32 × (Nat → Int32) × (Nat → Int32) × (Nat → Int32) × (Nat → Nat → Int64)) => (xW q cs res.1 res.2.1 res.2.2.1 kn knd kes img tl ta tn sl bey res.2.2.2.1 res.2.2.2.2.1 res.2.2.2.2.2.1 kwt kun ked tb sb sz sbs res.2.2.2.2.2.2 K P wk wh)) C dX0_become_105 rfl rfl
    · refine v_aload_n C 1 dX0_become_79 rfl ?_
      refine v_get C (T := TX0) (n := 7) (C9 := RX0) iX0 2 rfl rfl 6 (by decide) (List.mem_of_getElem? (i := 11) rfl) rfl rfl dX0_become_80 ?_
      refine v_iload_n C 2 dX0_become_83 rfl ?_
      refine v_aalda C (ad := fun j9 => q (26 + j9)) 14 3 rfl rfl (fun _ h9 => if_pos h9) dX0_become_84 (fun hb10 => ?_)
      have hj10 := inb_lt hb10
      refine v_iconst C dX0_become_85 (v := 0) (by decide) ?_
      refine v_aload_n C 0 dX0_become_86 rfl ?_
      refine v_get C (T := TX0) (n := 7) (C9 := RX0) iX0 1 rfl rfl 6 (by decide) (List.mem_of_getElem? (i := 11) rfl) rfl rfl dX0_become_87 ?_
      refine v_iload_n C 2 dX0_become_90 rfl ?_
      refine v_aalda C (ad := fun j9 => q (22 + j9)) 10 3 rfl rfl (fun _ h9 => if_pos h9) dX0_become_91 (fun hb11 => ?_)
      have hj11 := inb_lt hb11
      refine v_iconst C dX0_become_92 (v := 0) (by decide) ?_
      refine v_sipush C dX0_become_93 (v := 512) (by decide) ?_
      refine v_copyl_nm C (fun F12 => (xW q cs n1 nd2 es3 kn knd kes img tl ta tn sl bey wt4 un5 ed6 kwt kun ked tb sb sz sbs (va_up G9 v8.toNatClampNeg F12) K P wk wh)) (List.mem_of_getElem? (i := 5) rfl) (List.mem_of_getElem? (i := 6) rfl) (List.mem_of_getElem? (i := 7) rfl) (List.mem_of_getElem? (i := 8) rfl) (26 + v8.toNatClampNeg) (22 + v8.toNatClampNeg) 1 1 (xW_K hj10) (xW_G hj11) rfl rfl rfl (fun _ => xW_G_set hj11) (Nat.le_of_ble_eq_true rfl) (Nat.le_of_ble_eq_true rfl) dX0_become_96 (fun F12 => ?_)
      refine v_namew (wf := fun G13 => (xW q cs n1 nd2 es3 kn knd kes img tl ta tn sl bey wt4 un5 ed6 kwt kun ked tb sb sz sbs G13 K P wk wh)) (fun G13 => ?_)
      refine v_iinc_nm C (lvf := fun x14 => [(2, .int x14), (0, .ref (q 1)), (1, .ref (q 2))]) 2 dX0_become_99 rfl rfl (by decide) (fun _ => rfl) (fun x14 => ?_)
      refine v_goto C dX0_become_102 (tgt := 74) (by decide) ?_
      exact v_sub [1, 2, 0] rfl (ih x14 G13)

set_option maxRecDepth 100000 in
set_option maxHeartbeats 4000000 in
theorem k_X0_become_n {l : Launch}   {res : Int32 × Int32 × Int32 × (Nat → Int32) × (Nat → Int32) × (Nat → Int32) × (Nat → Nat → Int64)} (hq : (xA q).Nodup)  (hf : f_X0_become_n n nd es kn knd kes wt un ed kwt kun ked G K = some res) : kMet l yX0_become wsX0_become { frames := 1, cells := 0, slots := 0, locals := 60 } D vwCl (xT cs) (xN tF) (xA q) [.ref (q 1), .ref (q 2)] (xW q cs n nd es kn knd kes img tl ta tn sl bey wt un ed kwt kun ked tb sb sz sbs G K P wk wh) none (xW q cs res.1 res.2.1 res.2.2.1 kn knd kes img tl ta tn sl bey res.2.2.2.1 res.2.2.2.2.1 res.2.2.2.2.2.1 kwt kun ked tb sb sz sbs res.2.2.2.2.2.2 K P wk wh) := by
  have iX0 : ∀ w ∈ wsX00, w ∈ wsX0_become := fun _ h => List.mem_cons_of_mem _ (List.mem_append_right _ h)
  refine kMet.of (cc := cX0_become) (nL := 3) (ret := none) (own := RX0) (lv := [(0, .ref (q 1)), (1, .ref (q 2))]) (by decide +kernel) rfl rfl xN_ok hq (Nat.le_of_ble_eq_true rfl) rfl (fun X C => ?_)
  refine VF.of hf ?_
  unfold f_X0_become_n
  refine v_aload_n C 0 dX0_become_0 rfl ?_
  refine v_aload_n C 1 dX0_become_1 rfl ?_
  refine v_get C (T := TX0) (n := 7) (C9 := RX0) iX0 2 rfl rfl 0 (by decide) (List.mem_of_getElem? (i := 1) rfl) rfl rfl dX0_become_2 ?_
  refine v_put_nm C (v := (kn : Int32)) Value.int (ty := .int) (T := TX0) (n := 7) (C9 := RX0) (ty0 := tyX0) (fun n1 => (xW q cs n1 nd es kn knd kes img tl ta tn sl bey wt un ed kwt kun ked tb sb sz sbs G K P wk wh)) iX0 tyX0_ok nmX0 1 rfl rfl rfl 0 (by decide) (List.mem_of_getElem? (i := 1) rfl) rfl rfl rfl (fun _ => rfl) (fun _ => rfl) (Nat.le_of_ble_eq_true rfl) (fun _ => rfl) dX0_become_5 (fun n1 => ?_)
  refine v_aload_n C 0 dX0_become_8 rfl ?_
  refine v_aload_n C 1 dX0_become_9 rfl ?_
  refine v_get C (T := TX0) (n := 7) (C9 := RX0) iX0 2 rfl rfl 1 (by decide) (List.mem_of_getElem? (i := 2) rfl) rfl rfl dX0_become_10 ?_
  refine v_put_nm C (v := (knd : Int32)) Value.int (ty := .int) (T := TX0) (n := 7) (C9 := RX0) (ty0 := tyX0) (fun nd2 => (xW q cs n1 nd2 es kn knd kes img tl ta tn sl bey wt un ed kwt kun ked tb sb sz sbs G K P wk wh)) iX0 tyX0_ok nmX0 1 rfl rfl rfl 1 (by decide) (List.mem_of_getElem? (i := 2) rfl) rfl rfl rfl (fun _ => rfl) (fun _ => rfl) (Nat.le_of_ble_eq_true rfl) (fun _ => rfl) dX0_become_13 (fun nd2 => ?_)
  refine v_aload_n C 0 dX0_become_16 rfl ?_
  refine v_aload_n C 1 dX0_become_17 rfl ?_
  refine v_get C (T := TX0) (n := 7) (C9 := RX0) iX0 2 rfl rfl 2 (by decide) (List.mem_of_getElem? (i := 3) rfl) rfl rfl dX0_become_18 ?_
  refine v_put_nm C (v := (kes : Int32)) Value.int (ty := .int) (T := TX0) (n := 7) (C9 := RX0) (ty0 := tyX0) (fun es3 => (xW q cs n1 nd2 es3 kn knd kes img tl ta tn sl bey wt un ed kwt kun ked tb sb sz sbs G K P wk wh)) iX0 tyX0_ok nmX0 1 rfl rfl rfl 2 (by decide) (List.mem_of_getElem? (i := 3) rfl) rfl rfl rfl (fun _ => rfl) (fun _ => rfl) (Nat.le_of_ble_eq_true rfl) (fun _ => rfl) dX0_become_21 (fun es3 => ?_)
  refine v_aload_n C 1 dX0_become_24 rfl ?_
  refine v_get C (T := TX0) (n := 7) (C9 := RX0) iX0 2 rfl rfl 3 (by decide) (List.mem_of_getElem? (i := 4) rfl) rfl rfl dX0_become_25 ?_
  refine v_iconst C dX0_become_28 (v := 0) (by decide) ?_
  refine v_aload_n C 0 dX0_become_29 rfl ?_
  refine v_get C (T := TX0) (n := 7) (C9 := RX0) iX0 1 rfl rfl 3 (by decide) (List.mem_of_getElem? (i := 4) rfl) rfl rfl dX0_become_30 ?_
  refine v_iconst C dX0_become_33 (v := 0) (by decide) ?_
  refine v_bipush C dX0_become_34 (v := 9) (by decide) ?_
  refine v_copyi_nm C (fun wt4 => (xW q cs n1 nd2 es3 kn knd kes img tl ta tn sl bey wt4 un ed kwt kun ked tb sb sz sbs G K P wk wh)) (List.mem_of_getElem? (i := 5) rfl) (List.mem_of_getElem? (i := 6) rfl) (List.mem_of_getElem? (i := 7) rfl) (List.mem_of_getElem? (i := 8) rfl) 11 7 0 0 rfl rfl rfl rfl rfl (fun _ => rfl) (Nat.le_of_ble_eq_true rfl) (Nat.le_of_ble_eq_true rfl) dX0_become_36 (fun wt4 => ?_)
  refine v_aload_n C 1 dX0_become_39 rfl ?_
  refine v_get C (T := TX0) (n := 7) (C9 := RX0) iX0 2 rfl rfl 4 (by decide) (List.mem_of_getElem? (i := 9) rfl) rfl rfl dX0_become_40 ?_
  refine v_iconst C dX0_become_43 (v := 0) (by decide) ?_
  refine v_aload_n C 0 dX0_become_44 rfl ?_
  refine v_get C (T := TX0) (n := 7) (C9 := RX0) iX0 1 rfl rfl 4 (by decide) (List.mem_of_getElem? (i := 9) rfl) rfl rfl dX0_become_45 ?_
  refine v_iconst C dX0_become_48 (v := 0) (by decide) ?_
  refine v_bipush C dX0_become_49 (v := 9) (by decide) ?_
  refine v_copyi_nm C (fun un5 => (xW q cs n1 nd2 es3 kn knd kes img tl ta tn sl bey wt4 un5 ed kwt kun ked tb sb sz sbs G K P wk wh)) (List.mem_of_getElem? (i := 5) rfl) (List.mem_of_getElem? (i := 6) rfl) (List.mem_of_getElem? (i := 7) rfl) (List.mem_of_getElem? (i := 8) rfl) 12 8 0 0 rfl rfl rfl rfl rfl (fun _ => rfl) (Nat.le_of_ble_eq_true rfl) (Nat.le_of_ble_eq_true rfl) dX0_become_51 (fun un5 => ?_)
  refine v_aload_n C 1 dX0_become_54 rfl ?_
  refine v_get C (T := TX0) (n := 7) (C9 := RX0) iX0 2 rfl rfl 5 (by decide) (List.mem_of_getElem? (i := 10) rfl) rfl rfl dX0_become_55 ?_
  refine v_iconst C dX0_become_58 (v := 0) (by decide) ?_
  refine v_aload_n C 0 dX0_become_59 rfl ?_
  refine v_get C (T := TX0) (n := 7) (C9 := RX0) iX0 1 rfl rfl 5 (by decide) (List.mem_of_getElem? (i := 10) rfl) rfl rfl dX0_become_60 ?_
  refine v_iconst C dX0_become_63 (v := 0) (by decide) ?_
  refine v_aload_n C 0 dX0_become_64 rfl ?_
  refine v_get C (T := TX0) (n := 7) (C9 := RX0) iX0 1 rfl rfl 5 (by decide) (List.mem_of_getElem? (i := 10) rfl) rfl rfl dX0_become_65 ?_
  refine v_alen C (v := 81) 9 0 rfl rfl rfl dX0_become_68 ?_
  refine v_copyi_nm C (fun ed6 => (xW q cs n1 nd2 es3 kn knd kes img tl ta tn sl bey wt4 un5 ed6 kwt kun ked tb sb sz sbs G K P wk wh)) (List.mem_of_getElem? (i := 5) rfl) (List.mem_of_getElem? (i := 6) rfl) (List.mem_of_getElem? (i := 7) rfl) (List.mem_of_getElem? (i := 8) rfl) 13 9 0 0 rfl rfl rfl rfl rfl (fun _ => rfl) (Nat.le_of_ble_eq_true rfl) (Nat.le_of_ble_eq_true rfl) dX0_become_69 (fun ed6 => ?_)
  refine v_iconst C dX0_become_72 (v := 0) (by decide) ?_
  refine v_istore_n C (lv' := [(2, .int 0), (0, .ref (q 1)), (1, .ref (q 2))]) dX0_become_73 rfl (by decide) rfl ?_
  refine v_sub [1, 2, 0] rfl (lp_X0_become_n_1 hq C   FU 0 G)

def f_X0_sets (n : Int32) : Option (Int32) :=
some (1 <<< (n &&& 31))

theorem nI_X0_sets : NameIn yX0_sets 0 := ⟨by decide +kernel, by decide +kernel, by decide +kernel⟩
set_option maxRecDepth 100000 in
set_option maxHeartbeats 4000000 in
theorem k_X0_sets {l : Launch}   {res : Int32} (hq : (xA q).Nodup)  (hf : f_X0_sets n = some res) : kMet l yX0_sets wsX0_sets { frames := 0, cells := 0, slots := 0, locals := 0 } D vwCl (xT cs) (xN tF) (xA q) [.ref (q 1)] (xW q cs n nd es kn knd kes img tl ta tn sl bey wt un ed kwt kun ked tb sb sz sbs G K P wk wh) (some (.int res)) (xW q cs n nd es kn knd kes img tl ta tn sl bey wt un ed kwt kun ked tb sb sz sbs G K P wk wh) := by
  have iX0 : ∀ w ∈ wsX00, w ∈ wsX0_sets := fun _ h => List.mem_cons_of_mem _ (List.mem_append_right _ h)
  refine kMet.of (cc := cX0_sets) (nL := 1) (ret := (some .int)) (own := RX0) (lv := [(0, .ref (q 1))]) (by decide +kernel) rfl rfl xN_ok hq (Nat.le_of_ble_eq_true rfl) rfl (fun X C => ?_)
  refine VF.of hf ?_
  unfold f_X0_sets
  refine v_iconst C dX0_sets_0 (v := 1) (by decide) ?_
  refine v_aload_n C 0 dX0_sets_1 rfl ?_
  refine v_get C (T := TX0) (n := 7) (C9 := RX0) iX0 1 rfl rfl 0 (by decide) (List.mem_of_getElem? (i := 1) rfl) rfl rfl dX0_sets_2 ?_
  refine v_ishl C dX0_sets_5 ?_
  exact v_iret (rvf := fun (res : Int32) => (some (.int res))) (wf := fun (res : Int32) => (xW q cs n nd es kn knd kes img tl ta tn sl bey wt un ed kwt kun ked tb sb sz sbs G K P wk wh)) C dX0_sets_6 rfl rfl

def f_X0_everyone (n : Int32) : Option (Int32) :=
some ((1 <<< (n &&& 31)) - 1)

theorem nI_X0_everyone : NameIn yX0_everyone 0 := ⟨by decide +kernel, by decide +kernel, by decide +kernel⟩
set_option maxRecDepth 100000 in
set_option maxHeartbeats 4000000 in
theorem k_X0_everyone {l : Launch}   {res : Int32} (hq : (xA q).Nodup)  (hf : f_X0_everyone n = some res) : kMet l yX0_everyone wsX0_everyone { frames := 0, cells := 0, slots := 0, locals := 0 } D vwCl (xT cs) (xN tF) (xA q) [.ref (q 1)] (xW q cs n nd es kn knd kes img tl ta tn sl bey wt un ed kwt kun ked tb sb sz sbs G K P wk wh) (some (.int res)) (xW q cs n nd es kn knd kes img tl ta tn sl bey wt un ed kwt kun ked tb sb sz sbs G K P wk wh) := by
  have iX0 : ∀ w ∈ wsX00, w ∈ wsX0_everyone := fun _ h => List.mem_cons_of_mem _ (List.mem_append_right _ h)
  refine kMet.of (cc := cX0_everyone) (nL := 1) (ret := (some .int)) (own := RX0) (lv := [(0, .ref (q 1))]) (by decide +kernel) rfl rfl xN_ok hq (Nat.le_of_ble_eq_true rfl) rfl (fun X C => ?_)
  refine VF.of hf ?_
  unfold f_X0_everyone
  refine v_iconst C dX0_everyone_0 (v := 1) (by decide) ?_
  refine v_aload_n C 0 dX0_everyone_1 rfl ?_
  refine v_get C (T := TX0) (n := 7) (C9 := RX0) iX0 1 rfl rfl 0 (by decide) (List.mem_of_getElem? (i := 1) rfl) rfl rfl dX0_everyone_2 ?_
  refine v_ishl C dX0_everyone_5 ?_
  refine v_iconst C dX0_everyone_6 (v := 1) (by decide) ?_
  refine v_isub C dX0_everyone_7 ?_
  exact v_iret (rvf := fun (res : Int32) => (some (.int res))) (wf := fun (res : Int32) => (xW q cs n nd es kn knd kes img tl ta tn sl bey wt un ed kwt kun ked tb sb sz sbs G K P wk wh)) C dX0_everyone_8 rfl rfl

def f_X0_hasPartner (n : Int32) (a1 : Int32) : Option (Bool) :=
jn0 (some false) (fun k1 =>
if (a1 : Int32) < 0 then (
k1) else (
if (a1 : Int32) < n then (
some true) else (
k1)))

theorem nI_X0_hasPartner : NameIn yX0_hasPartner 1 := ⟨by decide +kernel, by decide +kernel, by decide +kernel⟩
set_option maxRecDepth 100000 in
set_option maxHeartbeats 4000000 in
theorem k_X0_hasPartner {l : Launch} {a1 : Int32}  {res : Bool} (hq : (xA q).Nodup)  (hf : f_X0_hasPartner n a1 = some res) : kMet l yX0_hasPartner wsX0_hasPartner { frames := 0, cells := 0, slots := 0, locals := 0 } D vwCl (xT cs) (xN tF) (xA q) [.ref (q 1), .int a1] (xW q cs n nd es kn knd kes img tl ta tn sl bey wt un ed kwt kun ked tb sb sz sbs G K P wk wh) (some (.int (bI res))) (xW q cs n nd es kn knd kes img tl ta tn sl bey wt un ed kwt kun ked tb sb sz sbs G K P wk wh) := by
  have iX0 : ∀ w ∈ wsX00, w ∈ wsX0_hasPartner := fun _ h => List.mem_cons_of_mem _ (List.mem_append_right _ h)
  refine kMet.of (cc := cX0_hasPartner) (nL := 2) (ret := (some .boolean)) (own := RX0) (lv := [(0, .ref (q 1)), (1, .int a1)]) (by decide +kernel) rfl rfl xN_ok hq (Nat.le_of_ble_eq_true rfl) rfl (fun X C => ?_)
  refine VF.of hf ?_
  unfold f_X0_hasPartner
  refine v_iload_n C 1 dX0_hasPartner_0 rfl ?_
  refine v_jn0 (wj := ((xW q cs n nd es kn knd kes img tl ta tn sl bey wt un ed kwt kun ked tb sb sz sbs G K P wk wh))) (pcj := 16) (lvj := ([])) (stj := ([])) ?_ (fun k1 hk1 => ?_)
  · refine v_iconst C dX0_hasPartner_16 (v := 0) (by decide) ?_
    exact v_zret (rvf := fun (res : Bool) => (some (.int (bI res)))) (wf := fun (res : Bool) => (xW q cs n nd es kn knd kes img tl ta tn sl bey wt un ed kwt kun ked tb sb sz sbs G K P wk wh)) C dX0_hasPartner_17 rfl rfl
  · refine v_if_lt C dX0_hasPartner_1 (tgt := 16) (by decide) ?_ ?_
    · exact v_sub [] rfl (hk1)
    · refine v_iload_n C 1 dX0_hasPartner_4 rfl ?_
      refine v_aload_n C 0 dX0_hasPartner_5 rfl ?_
      refine v_get C (T := TX0) (n := 7) (C9 := RX0) iX0 1 rfl rfl 0 (by decide) (List.mem_of_getElem? (i := 1) rfl) rfl rfl dX0_hasPartner_6 ?_
      refine v_icmp_ge C dX0_hasPartner_9 (tgt := 16) (by decide) ?_ ?_
      · exact v_sub [] rfl (hk1)
      · refine v_iconst C dX0_hasPartner_12 (v := 1) (by decide) ?_
        refine v_goto C dX0_hasPartner_13 (tgt := 17) (by decide) ?_
        exact v_zret (rvf := fun (res : Bool) => (some (.int (bI res)))) (wf := fun (res : Bool) => (xW q cs n nd es kn knd kes img tl ta tn sl bey wt un ed kwt kun ked tb sb sz sbs G K P wk wh)) C dX0_hasPartner_17 rfl rfl

def f_X0_hasTwo (n : Int32) (a1 : Int32) (a2 : Int32) : Option (Bool) :=
(f_X0_hasPartner n a1).bind (fun (r1 : Bool) =>
jn0 (some false) (fun k2 =>
if r1 = true then (
(f_X0_hasPartner n a2).bind (fun (r3 : Bool) =>
if r3 = true then (
if (a1 : Int32) = a2 then (
k2) else (
some true)) else (
k2))) else (
k2)))

theorem nI_X0_hasTwo : NameIn yX0_hasTwo 2 := ⟨by decide +kernel, by decide +kernel, by decide +kernel⟩
set_option maxRecDepth 100000 in
set_option maxHeartbeats 4000000 in
theorem k_X0_hasTwo {l : Launch} {a1 : Int32} {a2 : Int32}  {res : Bool} (hq : (xA q).Nodup)  (hf : f_X0_hasTwo n a1 a2 = some res) : kMet l yX0_hasTwo wsX0_hasTwo { frames := 1, cells := 0, slots := 0, locals := 21 } D vwCl (xT cs) (xN tF) (xA q) [.ref (q 1), .int a1, .int a2] (xW q cs n nd es kn knd kes img tl ta tn sl bey wt un ed kwt kun ked tb sb sz sbs G K P wk wh) (some (.int (bI res))) (xW q cs n nd es kn knd kes img tl ta tn sl bey wt un ed kwt kun ked tb sb sz sbs G K P wk wh) := by
  refine kMet.of (cc := cX0_hasTwo) (nL := 3) (ret := (some .boolean)) (own := RX0) (lv := [(0, .ref (q 1)), (1, .int a1), (2, .int a2)]) (by decide +kernel) rfl rfl xN_ok hq (Nat.le_of_ble_eq_true rfl) rfl (fun X C => ?_)
  refine VF.of hf ?_
  unfold f_X0_hasTwo
  refine v_aload_n C 0 dX0_hasTwo_0 rfl ?_
  refine v_iload_n C 1 dX0_hasTwo_1 rfl ?_
  refine v_callV1v C 1 rfl rfl rfl (fun l9 r9 h9 => k_X0_hasPartner (l := l9) hq  h9) gX0_hasTwo_X0_hasPartner rfl nI_X0_hasPartner ⟨rfl, rfl, Nat.le_of_ble_eq_true rfl, Nat.le_of_ble_eq_true rfl⟩ dX0_hasTwo_2 (Nat.le_of_ble_eq_true rfl) (fun r1 => ?_)
  refine v_jn0 (wj := ((xW q cs n nd es kn knd kes img tl ta tn sl bey wt un ed kwt kun ked tb sb sz sbs G K P wk wh))) (pcj := 25) (lvj := ([])) (stj := ([])) ?_ (fun k2 hk2 => ?_)
  · refine v_iconst C dX0_hasTwo_25 (v := 0) (by decide) ?_
    exact v_zret (rvf := fun (res : Bool) => (some (.int (bI res)))) (wf := fun (res : Bool) => (xW q cs n nd es kn knd kes img tl ta tn sl bey wt un ed kwt kun ked tb sb sz sbs G K P wk wh)) C dX0_hasTwo_26 rfl rfl
  · refine v_ifb_eq C (b := r1) dX0_hasTwo_5 (tgt := 25) (by decide) ?_ ?_
    · exact v_sub [] rfl (hk2)
    · refine v_aload_n C 0 dX0_hasTwo_8 rfl ?_
      refine v_iload_n C 2 dX0_hasTwo_9 rfl ?_
      refine v_callV1v C 1 rfl rfl rfl (fun l9 r9 h9 => k_X0_hasPartner (l := l9) hq  h9) gX0_hasTwo_X0_hasPartner rfl nI_X0_hasPartner ⟨rfl, rfl, Nat.le_of_ble_eq_true rfl, Nat.le_of_ble_eq_true rfl⟩ dX0_hasTwo_10 (Nat.le_of_ble_eq_true rfl) (fun r3 => ?_)
      refine v_ifb_eq C (b := r3) dX0_hasTwo_13 (tgt := 25) (by decide) ?_ ?_
      · exact v_sub [] rfl (hk2)
      · refine v_iload_n C 1 dX0_hasTwo_16 rfl ?_
        refine v_iload_n C 2 dX0_hasTwo_17 rfl ?_
        refine v_icmp_eq C dX0_hasTwo_18 (tgt := 25) (by decide) ?_ ?_
        · exact v_sub [] rfl (hk2)
        · refine v_iconst C dX0_hasTwo_21 (v := 1) (by decide) ?_
          refine v_goto C dX0_hasTwo_22 (tgt := 26) (by decide) ?_
          exact v_zret (rvf := fun (res : Bool) => (some (.int (bI res)))) (wf := fun (res : Bool) => (xW q cs n nd es kn knd kes img tl ta tn sl bey wt un ed kwt kun ked tb sb sz sbs G K P wk wh)) C dX0_hasTwo_26 rfl rfl

def f_X0_hasSet (n : Int32) (a1 : Int32) : Option (Bool) :=
jn0 (some false) (fun k1 =>
if (a1 : Int32) < 0 then (
k1) else (
(f_X0_sets n).bind (fun (r2 : Int32) =>
if (a1 : Int32) < r2 then (
some true) else (
k1))))

theorem nI_X0_hasSet : NameIn yX0_hasSet 1 := ⟨by decide +kernel, by decide +kernel, by decide +kernel⟩
set_option maxRecDepth 100000 in
set_option maxHeartbeats 4000000 in
theorem k_X0_hasSet {l : Launch} {a1 : Int32}  {res : Bool} (hq : (xA q).Nodup)  (hf : f_X0_hasSet n a1 = some res) : kMet l yX0_hasSet wsX0_hasSet { frames := 1, cells := 0, slots := 0, locals := 20 } D vwCl (xT cs) (xN tF) (xA q) [.ref (q 1), .int a1] (xW q cs n nd es kn knd kes img tl ta tn sl bey wt un ed kwt kun ked tb sb sz sbs G K P wk wh) (some (.int (bI res))) (xW q cs n nd es kn knd kes img tl ta tn sl bey wt un ed kwt kun ked tb sb sz sbs G K P wk wh) := by
  refine kMet.of (cc := cX0_hasSet) (nL := 2) (ret := (some .boolean)) (own := RX0) (lv := [(0, .ref (q 1)), (1, .int a1)]) (by decide +kernel) rfl rfl xN_ok hq (Nat.le_of_ble_eq_true rfl) rfl (fun X C => ?_)
  refine VF.of hf ?_
  unfold f_X0_hasSet
  refine v_iload_n C 1 dX0_hasSet_0 rfl ?_
  refine v_jn0 (wj := ((xW q cs n nd es kn knd kes img tl ta tn sl bey wt un ed kwt kun ked tb sb sz sbs G K P wk wh))) (pcj := 16) (lvj := ([])) (stj := ([])) ?_ (fun k1 hk1 => ?_)
  · refine v_iconst C dX0_hasSet_16 (v := 0) (by decide) ?_
    exact v_zret (rvf := fun (res : Bool) => (some (.int (bI res)))) (wf := fun (res : Bool) => (xW q cs n nd es kn knd kes img tl ta tn sl bey wt un ed kwt kun ked tb sb sz sbs G K P wk wh)) C dX0_hasSet_17 rfl rfl
  · refine v_if_lt C dX0_hasSet_1 (tgt := 16) (by decide) ?_ ?_
    · exact v_sub [] rfl (hk1)
    · refine v_iload_n C 1 dX0_hasSet_4 rfl ?_
      refine v_aload_n C 0 dX0_hasSet_5 rfl ?_
      refine v_callV0v C 1 rfl rfl rfl (fun l9 r9 h9 => k_X0_sets (l := l9) hq  h9) gX0_hasSet_X0_sets rfl nI_X0_sets ⟨rfl, rfl, Nat.le_of_ble_eq_true rfl, Nat.le_of_ble_eq_true rfl⟩ dX0_hasSet_6 (Nat.le_of_ble_eq_true rfl) (fun r2 => ?_)
      refine v_icmp_ge C dX0_hasSet_9 (tgt := 16) (by decide) ?_ ?_
      · exact v_sub [] rfl (hk1)
      · refine v_iconst C dX0_hasSet_12 (v := 1) (by decide) ?_
        refine v_goto C dX0_hasSet_13 (tgt := 17) (by decide) ?_
        exact v_zret (rvf := fun (res : Bool) => (some (.int (bI res)))) (wf := fun (res : Bool) => (xW q cs n nd es kn knd kes img tl ta tn sl bey wt un ed kwt kun ked tb sb sz sbs G K P wk wh)) C dX0_hasSet_17 rfl rfl

def B_X0_bringTogether_1 (n : Int32) (a1 : Int32) (rec1 : Int32 → (Nat → Int32) → Option ((Nat → Int32))) (kx2 : (Nat → Int32) → Option ((Nat → Int32))) (v3 : Int32) (un4 : Nat → Int32) : Option ((Nat → Int32)) :=
if (v3 : Int32) < n then (
ck (inb v3 9) (
ck (inb v3 9) (
nm (upd un4 v3.toNatClampNeg ((un4 v3.toNatClampNeg) &&& ((1 <<< (a1 &&& 31)) ^^^ (-1)))) (fun (un5 : Nat → Int32) =>
nm (v3 + 1) (fun (x6 : Int32) =>
rec1 x6 un5))))) else (
kx2 un4)
def L_X0_bringTogether_1 (n : Int32) (a1 : Int32) (kx2 : (Nat → Int32) → Option ((Nat → Int32))) : Nat → Int32 → (Nat → Int32) → Option ((Nat → Int32))
  | 0, _, _ => none
  | m9 + 1, v3, un4 => B_X0_bringTogether_1 n a1 (L_X0_bringTogether_1 n a1 kx2 m9) kx2 v3 un4

def B_X0_bringTogether_2 (n : Int32) (x10 : Int32) (rec11 : Int32 → (Nat → Int32) → Option ((Nat → Int32)))  (v12 : Int32) (un13 : Nat → Int32) : Option ((Nat → Int32)) :=
if (v12 : Int32) < n then (
(f_X5_has x10 v12).bind (fun (r14 : Bool) =>
jn1 (fun (un16 : Nat → Int32) =>
nm (v12 + 1) (fun (x17 : Int32) =>
rec11 x17 un16)) (fun k15 =>
if r14 = true then (
ck (inb v12 9) (
nm (upd un13 v12.toNatClampNeg x10) (fun (un18 : Nat → Int32) =>
k15 un18))) else (
k15 un13)))) else (
some un13)
def L_X0_bringTogether_2 (n : Int32) (x10 : Int32)  : Nat → Int32 → (Nat → Int32) → Option ((Nat → Int32))
  | 0, _, _ => none
  | m9 + 1, v12, un13 => B_X0_bringTogether_2 n x10 (L_X0_bringTogether_2 n x10 m9)  v12 un13

def f_X0_bringTogether (n : Int32) (un : Nat → Int32) (a1 : Int32) (a2 : Int32) : Option ((Nat → Int32)) :=
L_X0_bringTogether_1 n a1 (fun (un7 : Nat → Int32) =>
jn1 (fun (v9 : Int32) =>
nm ((1 <<< (a1 &&& 31)) ||| v9) (fun (x10 : Int32) =>
L_X0_bringTogether_2 n x10  FU 0 un7)) (fun k8 =>
if (a1 : Int32) = a2 then (
k8 0) else (
ck (inb a2 9) (
k8 (un7 a2.toNatClampNeg))))) FU 0 un

theorem nI_X0_bringTogether : NameIn yX0_bringTogether 2 := ⟨by decide +kernel, by decide +kernel, by decide +kernel⟩
set_option maxRecDepth 100000 in
set_option maxHeartbeats 4000000 in
theorem lp_X0_bringTogether_1 {X : CX} {res : (Nat → Int32)} {a1 : Int32} {a2 : Int32}   (hq : (xA q).Nodup) (C : Ok X cX0_bringTogether 5 none wsX0_bringTogether RX0 { frames := 1, cells := 0, slots := 0, locals := 21 } D vwCl (xT cs) (xA q) (xN tF) none (xW q cs n nd es kn knd kes img tl ta tn sl bey wt res ed kwt kun ked tb sb sz sbs G K P wk wh))  (kx2 : (Nat → Int32) → Option ((Nat → Int32))) (Jkx2 : ∀ unZz : Nat → Int32, VF X res (kx2 unZz) (xW q cs n nd es kn knd kes img tl ta tn sl bey wt unZz ed kwt kun ked tb sb sz sbs G K P wk wh) 30 [(0, .ref (q 1)), (1, .int a1), (2, .int a2)] []) : ∀ fuel : Nat, ∀ v3 : Int32, ∀ un4 : Nat → Int32, VF X res (L_X0_bringTogether_1 n a1 kx2 fuel v3 un4) (xW q cs n nd es kn knd kes img tl ta tn sl bey wt un4 ed kwt kun ked tb sb sz sbs G K P wk wh) 2 [(0, .ref (q 1)), (1, .int a1), (2, .int a2), (3, .int v3)] [] := by
  have iX0 : ∀ w ∈ wsX00, w ∈ wsX0_bringTogether := fun _ h => List.mem_cons_of_mem _ (List.mem_append_right _ h)
  intro fuel
  induction fuel with
  | zero =>
    intro _ _
    exact v_none
  | succ fuel ih =>
    intro v3 un4
    show VF X res (B_X0_bringTogether_1 n a1 (L_X0_bringTogether_1 n a1 kx2 fuel) kx2 v3 un4) _ _ _ _
    unfold B_X0_bringTogether_1
    refine v_iload_n C 3 dX0_bringTogether_2 rfl ?_
    refine v_aload_n C 0 dX0_bringTogether_3 rfl ?_
    refine v_get C (T := TX0) (n := 7) (C9 := RX0) iX0 1 rfl rfl 0 (by decide) (List.mem_of_getElem? (i := 1) rfl) rfl rfl dX0_bringTogether_4 ?_
    refine v_icmp_ge C dX0_bringTogether_7 (tgt := 30) (by decide) ?_ ?_
    · exact v_sub [0, 1, 2] rfl (Jkx2 un4)
    · refine v_aload_n C 0 dX0_bringTogether_10 rfl ?_
      refine v_get C (T := TX0) (n := 7) (C9 := RX0) iX0 1 rfl rfl 4 (by decide) (List.mem_of_getElem? (i := 2) rfl) rfl rfl dX0_bringTogether_11 ?_
      refine v_iload_n C 3 dX0_bringTogether_14 rfl ?_
      refine v_dup2 C dX0_bringTogether_15 rfl rfl ?_
      refine v_iald C 8 0 rfl rfl dX0_bringTogether_16 ?_
      refine v_iconst C dX0_bringTogether_17 (v := 1) (by decide) ?_
      refine v_iload_n C 1 dX0_bringTogether_18 rfl ?_
      refine v_ishl C dX0_bringTogether_19 ?_
      refine v_iconst C dX0_bringTogether_20 (v := (-1)) (by decide) ?_
      refine v_ixor C dX0_bringTogether_21 ?_
      refine v_iand C dX0_bringTogether_22 ?_
      refine v_iast_nm C (fun un5 => (xW q cs n nd es kn knd kes img tl ta tn sl bey wt un5 ed kwt kun ked tb sb sz sbs G K P wk wh)) 8 0 rfl rfl rfl (fun _ => rfl) dX0_bringTogether_23 (fun un5 => ?_)
      refine v_iinc_nm C (lvf := fun x6 => [(3, .int x6), (0, .ref (q 1)), (1, .int a1), (2, .int a2)]) 3 dX0_bringTogether_24 rfl rfl (by decide) (fun _ => rfl) (fun x6 => ?_)
      refine v_goto C dX0_bringTogether_27 (tgt := 2) (by decide) ?_
      exact v_sub [1, 2, 3, 0] rfl (ih x6 un5)

set_option maxRecDepth 100000 in
set_option maxHeartbeats 4000000 in
theorem lp_X0_bringTogether_2 {X : CX} {res : (Nat → Int32)}   {x10 : Int32} (hq : (xA q).Nodup) (C : Ok X cX0_bringTogether 5 none wsX0_bringTogether RX0 { frames := 1, cells := 0, slots := 0, locals := 21 } D vwCl (xT cs) (xA q) (xN tF) none (xW q cs n nd es kn knd kes img tl ta tn sl bey wt res ed kwt kun ked tb sb sz sbs G K P wk wh))  : ∀ fuel : Nat, ∀ v12 : Int32, ∀ un13 : Nat → Int32, VF X res (L_X0_bringTogether_2 n x10 fuel v12 un13) (xW q cs n nd es kn knd kes img tl ta tn sl bey wt un13 ed kwt kun ked tb sb sz sbs G K P wk wh) 53 [(0, .ref (q 1)), (3, .int x10), (4, .int v12)] [] := by
  have iX0 : ∀ w ∈ wsX00, w ∈ wsX0_bringTogether := fun _ h => List.mem_cons_of_mem _ (List.mem_append_right _ h)
  intro fuel
  induction fuel with
  | zero =>
    intro _ _
    exact v_none
  | succ fuel ih =>
    intro v12 un13
    show VF X res (B_X0_bringTogether_2 n x10 (L_X0_bringTogether_2 n x10 fuel)  v12 un13) _ _ _ _
    unfold B_X0_bringTogether_2
    refine v_iload C 2 dX0_bringTogether_53 rfl ?_
    refine v_aload_n C 0 dX0_bringTogether_55 rfl ?_
    refine v_get C (T := TX0) (n := 7) (C9 := RX0) iX0 1 rfl rfl 0 (by decide) (List.mem_of_getElem? (i := 1) rfl) rfl rfl dX0_bringTogether_56 ?_
    refine v_icmp_ge C dX0_bringTogether_59 (tgt := 85) (by decide) ?_ ?_
    · exact v_vret (rvf := fun (res : (Nat → Int32)) => none) (wf := fun (res : (Nat → Int32)) => (xW q cs n nd es kn knd kes img tl ta tn sl bey wt res ed kwt kun ked tb sb sz sbs G K P wk wh)) C dX0_bringTogether_85 rfl rfl
    · refine v_iload_n C 1 dX0_bringTogether_62 rfl ?_
      refine v_iload C 2 dX0_bringTogether_63 rfl ?_
      refine v_callNP2v C (fun l9 r9 h9 => k_X5_has (l := l9) h9) gX0_bringTogether_X5_has_n59 (List.mem_of_getElem? (i := 3) rfl) (List.mem_of_getElem? (i := 4) rfl) (fun _ _ h9 => xN_X0_59 h9) rfl nI_X5_has ⟨rfl, rfl, Nat.le_of_ble_eq_true rfl, Nat.le_of_ble_eq_true rfl⟩ dX0_bringTogether_65 (Nat.le_of_ble_eq_true rfl) (fun r14 => ?_)
      refine v_jn1 (wj := (fun un16 => (xW q cs n nd es kn knd kes img tl ta tn sl bey wt un16 ed kwt kun ked tb sb sz sbs G K P wk wh))) (pcj := 79) (lvj := (fun un16 => [(0, .ref (q 1)), (3, .int x10), (4, .int v12)])) (stj := (fun un16 => [])) (fun un16 => ?_) (fun k15 hk15 => ?_)
      · refine v_iinc_nm C (lvf := fun x17 => [(4, .int x17), (0, .ref (q 1)), (3, .int x10)]) 2 dX0_bringTogether_79 rfl rfl (by decide) (fun _ => rfl) (fun x17 => ?_)
        refine v_goto C dX0_bringTogether_82 (tgt := 53) (by decide) ?_
        exact v_sub [1, 2, 0] rfl (ih x17 un16)
      · refine v_ifb_eq C (b := r14) dX0_bringTogether_68 (tgt := 79) (by decide) ?_ ?_
        · exact v_sub [0, 1, 2] rfl (hk15 un13)
        · refine v_aload_n C 0 dX0_bringTogether_71 rfl ?_
          refine v_get C (T := TX0) (n := 7) (C9 := RX0) iX0 1 rfl rfl 4 (by decide) (List.mem_of_getElem? (i := 2) rfl) rfl rfl dX0_bringTogether_72 ?_
          refine v_iload C 2 dX0_bringTogether_75 rfl ?_
          refine v_iload_n C 1 dX0_bringTogether_77 rfl ?_
          refine v_iast_nm C (fun un18 => (xW q cs n nd es kn knd kes img tl ta tn sl bey wt un18 ed kwt kun ked tb sb sz sbs G K P wk wh)) 8 0 rfl rfl rfl (fun _ => rfl) dX0_bringTogether_78 (fun un18 => ?_)
          exact v_sub [0, 1, 2] rfl (hk15 un18)

set_option maxRecDepth 100000 in
set_option maxHeartbeats 4000000 in
theorem k_X0_bringTogether {l : Launch} {a1 : Int32} {a2 : Int32}  {res : (Nat → Int32)} (hq : (xA q).Nodup)  (hf : f_X0_bringTogether n un a1 a2 = some res) : kMet l yX0_bringTogether wsX0_bringTogether { frames := 1, cells := 0, slots := 0, locals := 21 } D vwCl (xT cs) (xN tF) (xA q) [.ref (q 1), .int a1, .int a2] (xW q cs n nd es kn knd kes img tl ta tn sl bey wt un ed kwt kun ked tb sb sz sbs G K P wk wh) none (xW q cs n nd es kn knd kes img tl ta tn sl bey wt res ed kwt kun ked tb sb sz sbs G K P wk wh) := by
  have iX0 : ∀ w ∈ wsX00, w ∈ wsX0_bringTogether := fun _ h => List.mem_cons_of_mem _ (List.mem_append_right _ h)
  refine kMet.of (cc := cX0_bringTogether) (nL := 5) (ret := none) (own := RX0) (lv := [(0, .ref (q 1)), (1, .int a1), (2, .int a2)]) (by decide +kernel) rfl rfl xN_ok hq (Nat.le_of_ble_eq_true rfl) rfl (fun X C => ?_)
  refine VF.of hf ?_
  unfold f_X0_bringTogether
  refine v_iconst C dX0_bringTogether_0 (v := 0) (by decide) ?_
  refine v_istore_n C (lv' := [(3, .int 0), (0, .ref (q 1)), (1, .int a1), (2, .int a2)]) dX0_bringTogether_1 rfl (by decide) rfl ?_
  refine v_sub [1, 2, 3, 0] rfl (lp_X0_bringTogether_1 hq C  _ (fun un7 => ?_) FU 0 un)
  refine v_iconst C dX0_bringTogether_30 (v := 1) (by decide) ?_
  refine v_iload_n C 1 dX0_bringTogether_31 rfl ?_
  refine v_ishl C dX0_bringTogether_32 ?_
  refine v_iload_n C 1 dX0_bringTogether_33 rfl ?_
  refine v_iload_n C 2 dX0_bringTogether_34 rfl ?_
  refine v_jn1 (wj := (fun v9 => (xW q cs n nd es kn knd kes img tl ta tn sl bey wt un7 ed kwt kun ked tb sb sz sbs G K P wk wh))) (pcj := 48) (lvj := (fun v9 => [(0, .ref (q 1))])) (stj := (fun v9 => [.int v9, .int (1 <<< (a1 &&& 31))])) (fun v9 => ?_) (fun k8 hk8 => ?_)
  · refine v_ior C dX0_bringTogether_48 ?_
    refine v_istore_n_nm C (lvf := fun x10 => [(3, .int x10), (0, .ref (q 1))]) dX0_bringTogether_49 rfl (by decide) (fun _ => rfl) (fun x10 => ?_)
    refine v_iconst C dX0_bringTogether_50 (v := 0) (by decide) ?_
    refine v_istore C (lv' := [(4, .int 0), (3, .int x10), (0, .ref (q 1))]) dX0_bringTogether_51 (by decide) rfl ?_
    refine v_sub [2, 1, 0] rfl (lp_X0_bringTogether_2 hq C   FU 0 un7)
  · refine v_icmp_ne C dX0_bringTogether_35 (tgt := 42) (by decide) ?_ ?_
    · refine v_aload_n C 0 dX0_bringTogether_42 rfl ?_
      refine v_get C (T := TX0) (n := 7) (C9 := RX0) iX0 1 rfl rfl 4 (by decide) (List.mem_of_getElem? (i := 2) rfl) rfl rfl dX0_bringTogether_43 ?_
      refine v_iload_n C 2 dX0_bringTogether_46 rfl ?_
      refine v_iald C 8 0 rfl rfl dX0_bringTogether_47 ?_
      exact v_sub [0] rfl (hk8 (un7 a2.toNatClampNeg))
    · refine v_iconst C dX0_bringTogether_38 (v := 0) (by decide) ?_
      refine v_goto C dX0_bringTogether_39 (tgt := 48) (by decide) ?_
      exact v_sub [0] rfl (hk8 0)

end WK
