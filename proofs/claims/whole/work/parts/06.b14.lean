section WK
variable {q : Nat → Nat} {cs : Nat → ClassId} {D : va_G} {tF : Nat} {n : Int32} {nd : Int32} {es : Int32} {kn : Int32} {knd : Int32} {kes : Int32} {img : Bool} {tl : Int32} {ta : Int32} {tn : Int64} {sl : Int32} {bey : Bool} {wt : Nat → Int32} {un : Nat → Int32} {ed : Nat → Int32} {kwt : Nat → Int32} {kun : Nat → Int32} {ked : Nat → Int32} {tb : Nat → Int32} {sb : Nat → Int32} {sz : Nat → Int32} {sbs : Nat → Int32} {G : Nat → Nat → Int64} {K : Nat → Nat → Int64} {P : Nat → Nat → Int64} {wk : Nat → Int64} {wh : Nat → Int64}
def B_X5_lay_1 (n : Int32) (sz : Nat → Int32) (a1 : Int32) (a2 : Int32) (r4 : Bool × Bool × (Nat → Int64)) (r5 : Int32) (rec6 : Int32 → (Nat → Nat → Int64) → Option (Int32 × Bool × (Nat → Nat → Int64) × (Nat → Int64)))  (v7 : Int32) (P8 : Nat → Nat → Int64) : Option (Int32 × Bool × (Nat → Nat → Int64) × (Nat → Int64)) :=
if (v7 : Int32) < n then (
(f_X3_holds sz a1 a2 (v7 + 1)).bind (fun (r9 : Bool) =>
if r9 = true then (
ck (inb a1 4) (
ck (inb v7 9) (
(f_X5_cutToWhole (r4.2.2 v7.toNatClampNeg) r5).bind (fun (r11 : Int64) =>
ck (inb (a2 + v7) 20) (
nm (vp_updL (P8 a1.toNatClampNeg) (a2 + v7).toNatClampNeg r11) (fun (F12 : Nat → Int64) =>
nm (va_up P8 a1.toNatClampNeg F12) (fun (P13 : Nat → Nat → Int64) =>
nm (v7 + 1) (fun (x14 : Int32) =>
rec6 x14 P13)))))))) else (
some ((-13), r4.2.1, P8, r4.2.2)))) else (
some (n, r4.2.1, P8, r4.2.2))
def L_X5_lay_1 (n : Int32) (sz : Nat → Int32) (a1 : Int32) (a2 : Int32) (r4 : Bool × Bool × (Nat → Int64)) (r5 : Int32)  : Nat → Int32 → (Nat → Nat → Int64) → Option (Int32 × Bool × (Nat → Nat → Int64) × (Nat → Int64))
  | 0, _, _ => none
  | m9 + 1, v7, P8 => B_X5_lay_1 n sz a1 a2 r4 r5 (L_X5_lay_1 n sz a1 a2 r4 r5 m9)  v7 P8

def f_X5_lay (n : Int32) (bey : Bool) (sz : Nat → Int32) (G : Nat → Nat → Int64) (P : Nat → Nat → Int64) (wh : Nat → Int64) (a1 : Int32) (a2 : Int32) (a3 : Int32) : Option (Int32 × Bool × (Nat → Nat → Int64) × (Nat → Int64)) :=
(f_X5_isRow a1).bind (fun (r1 : Bool) =>
if r1 = true then (
(f_X5_isGame a3).bind (fun (r2 : Bool) =>
if r2 = true then (
(f_X3_isNothing sz a1).bind (fun (r3 : Bool) =>
if r3 = true then (
some ((-11), bey, P, wh)) else (
(f_X5_fillWholes n bey G wh a3).bind (fun (r4 : Bool × Bool × (Nat → Int64)) =>
if r4.1 = true then (
(f_X5_factorial n).bind (fun (r5 : Int32) =>
L_X5_lay_1 n sz a1 a2 r4 r5  FU 0 P)) else (
some ((-6), r4.2.1, P, r4.2.2)))))) else (
some ((-1), bey, P, wh)))) else (
some ((-1), bey, P, wh)))

theorem nI_X5_lay : NameIn yX5_lay 3 := ⟨by decide +kernel, by decide +kernel, by decide +kernel⟩
set_option maxRecDepth 100000 in
set_option maxHeartbeats 4000000 in
theorem lp_X5_lay_1 {X : CX} {res : Int32 × Bool × (Nat → Nat → Int64) × (Nat → Int64)} {a1 : Int32} {a2 : Int32}  {r4 : Bool × Bool × (Nat → Int64)} {r5 : Int32} (hq : (xA q).Nodup) (C : Ok X cX5_lay 6 (some .int) wsX5_lay RX5 { frames := 4, cells := 0, slots := 0, locals := 98 } D vwCl (xT cs) (xA q) (xN tF) (some (.int res.1)) (xW q cs n nd es kn knd kes img tl ta tn sl res.2.1 wt un ed kwt kun ked tb sb sz sbs G K res.2.2.1 wk res.2.2.2))  : ∀ fuel : Nat, ∀ v7 : Int32, ∀ P8 : Nat → Nat → Int64, VF X res (L_X5_lay_1 n sz a1 a2 r4 r5 fuel v7 P8) (xW q cs n nd es kn knd kes img tl ta tn sl r4.2.1 wt un ed kwt kun ked tb sb sz sbs G K P8 wk r4.2.2) 56 [(0, .ref (q 0)), (1, .int a1), (2, .int a2), (4, .int r5), (5, .int v7)] [] := by
  have iX0 : ∀ w ∈ wsX00, w ∈ wsX5_lay := fun _ h => List.mem_cons_of_mem _ (List.mem_append_left _ (List.mem_append_left _ (List.mem_append_right _ h)))
  have iX3 : ∀ w ∈ wsX30, w ∈ wsX5_lay := fun _ h => List.mem_cons_of_mem _ (List.mem_append_left _ (List.mem_append_right _ h))
  have iX5 : ∀ w ∈ wsX50, w ∈ wsX5_lay := fun _ h => List.mem_cons_of_mem _ (List.mem_append_left _ (List.mem_append_left _ (List.mem_append_left _ (List.mem_append_right _ h))))
  intro fuel
  induction fuel with
  | zero =>
    intro _ _
    exact v_none
  | succ fuel ih =>
    intro v7 P8
    show VF X res (B_X5_lay_1 n sz a1 a2 r4 r5 (L_X5_lay_1 n sz a1 a2 r4 r5 fuel)  v7 P8) _ _ _ _
    unfold B_X5_lay_1
    refine v_iload C 4 dX5_lay_56 rfl ?_
    refine v_aload_n C 0 dX5_lay_58 rfl ?_
    refine v_get C (T := TX5) (n := 10) (C9 := RX5) iX5 0 rfl rfl 0 (by decide) (List.mem_of_getElem? (i := 2) rfl) rfl rfl dX5_lay_59 ?_
    refine v_get C (T := TX0) (n := 7) (C9 := RX0) iX0 1 rfl rfl 0 (by decide) (List.mem_of_getElem? (i := 3) rfl) rfl rfl dX5_lay_62 ?_
    refine v_icmp_ge C dX5_lay_65 (tgt := 119) (by decide) ?_ ?_
    · refine v_aload_n C 0 dX5_lay_119 rfl ?_
      refine v_get C (T := TX5) (n := 10) (C9 := RX5) iX5 0 rfl rfl 0 (by decide) (List.mem_of_getElem? (i := 2) rfl) rfl rfl dX5_lay_120 ?_
      refine v_get C (T := TX0) (n := 7) (C9 := RX0) iX0 1 rfl rfl 0 (by decide) (List.mem_of_getElem? (i := 3) rfl) rfl rfl dX5_lay_123 ?_
      exact v_iret (rvf := fun (res : Int32 × Bool × (Nat → Nat → Int64) × (Nat → Int64)) => (some (.int res.1))) (wf := fun (res : Int32 × Bool × (Nat → Nat → Int64) × (Nat → Int64)) => (xW q cs n nd es kn knd kes img tl ta tn sl res.2.1 wt un ed kwt kun ked tb sb sz sbs G K res.2.2.1 wk res.2.2.2)) C dX5_lay_126 rfl rfl
    · refine v_aload_n C 0 dX5_lay_68 rfl ?_
      refine v_get C (T := TX5) (n := 10) (C9 := RX5) iX5 0 rfl rfl 5 (by decide) (List.mem_of_getElem? (i := 1) rfl) rfl rfl dX5_lay_69 ?_
      refine v_iload_n C 1 dX5_lay_72 rfl ?_
      refine v_iload_n C 2 dX5_lay_73 rfl ?_
      refine v_iload C 4 dX5_lay_74 rfl ?_
      refine v_iconst C dX5_lay_76 (v := 1) (by decide) ?_
      refine v_iadd C dX5_lay_77 ?_
      refine v_callV3v C 5 rfl rfl rfl (fun l9 r9 h9 => k_X3_holds (l := l9) hq  h9) gX5_lay_X3_holds rfl nI_X3_holds ⟨rfl, rfl, Nat.le_of_ble_eq_true rfl, Nat.le_of_ble_eq_true rfl⟩ dX5_lay_78 (Nat.le_of_ble_eq_true rfl) (fun r9 => ?_)
      refine v_ifb_ne C (b := r9) dX5_lay_81 (tgt := 87) (by decide) ?_ ?_
      · refine v_aload_n C 0 dX5_lay_87 rfl ?_
        refine v_get C (T := TX5) (n := 10) (C9 := RX5) iX5 0 rfl rfl 5 (by decide) (List.mem_of_getElem? (i := 1) rfl) rfl rfl dX5_lay_88 ?_
        refine v_get C (T := TX3) (n := 2) (C9 := RX3) iX3 5 rfl rfl 0 (by decide) (List.mem_of_getElem? (i := 4) rfl) rfl rfl dX5_lay_91 ?_
        refine v_iload_n C 1 dX5_lay_94 rfl ?_
        refine v_aalda C (ad := fun j9 => q (30 + j9)) 17 3 rfl rfl (fun _ h9 => if_pos h9) dX5_lay_95 (fun hb10 => ?_)
        have hj10 := inb_lt hb10
        refine v_iload_n C 2 dX5_lay_96 rfl ?_
        refine v_iload C 4 dX5_lay_97 rfl ?_
        refine v_iadd C dX5_lay_99 ?_
        refine v_aload_n C 0 dX5_lay_100 rfl ?_
        refine v_get C (T := TX5) (n := 10) (C9 := RX5) iX5 0 rfl rfl 8 (by decide) (List.mem_of_getElem? (i := 5) rfl) rfl rfl dX5_lay_101 ?_
        refine v_iload C 4 dX5_lay_104 rfl ?_
        refine v_lald C 20 1 rfl rfl dX5_lay_106 ?_
        refine v_iload C 3 dX5_lay_107 rfl ?_
        refine v_callSP2v C (fun l9 r9 h9 => k_X5_cutToWhole (l := l9) h9) gX5_lay_X5_cutToWhole rfl nI_X5_cutToWhole ⟨rfl, rfl, Nat.le_of_ble_eq_true rfl, Nat.le_of_ble_eq_true rfl⟩ dX5_lay_109 (Nat.le_of_ble_eq_true rfl) (fun r11 => ?_)
        refine v_last_nm C (fun F12 => (xW q cs n nd es kn knd kes img tl ta tn sl r4.2.1 wt un ed kwt kun ked tb sb sz sbs G K (va_up P8 a1.toNatClampNeg F12) wk r4.2.2)) (30 + a1.toNatClampNeg) 1 (xW_P hj10) rfl rfl (fun _ => xW_P_set hj10) dX5_lay_112 (fun F12 => ?_)
        refine v_namew (wf := fun P13 => (xW q cs n nd es kn knd kes img tl ta tn sl r4.2.1 wt un ed kwt kun ked tb sb sz sbs G K P13 wk r4.2.2)) (fun P13 => ?_)
        refine v_iinc_nm C (lvf := fun x14 => [(5, .int x14), (0, .ref (q 0)), (1, .int a1), (2, .int a2), (4, .int r5)]) 4 dX5_lay_113 rfl rfl (by decide) (fun _ => rfl) (fun x14 => ?_)
        refine v_goto C dX5_lay_116 (tgt := 56) (by decide) ?_
        exact v_sub [1, 2, 3, 4, 0] rfl (ih x14 P13)
      · refine v_bipush C dX5_lay_84 (v := (-13)) (by decide) ?_
        exact v_iret (rvf := fun (res : Int32 × Bool × (Nat → Nat → Int64) × (Nat → Int64)) => (some (.int res.1))) (wf := fun (res : Int32 × Bool × (Nat → Nat → Int64) × (Nat → Int64)) => (xW q cs n nd es kn knd kes img tl ta tn sl res.2.1 wt un ed kwt kun ked tb sb sz sbs G K res.2.2.1 wk res.2.2.2)) C dX5_lay_86 rfl rfl

set_option maxRecDepth 100000 in
set_option maxHeartbeats 4000000 in
theorem k_X5_lay {l : Launch} {a1 : Int32} {a2 : Int32} {a3 : Int32}  {res : Int32 × Bool × (Nat → Nat → Int64) × (Nat → Int64)} (hq : (xA q).Nodup)  (hf : f_X5_lay n bey sz G P wh a1 a2 a3 = some res) : kMet l yX5_lay wsX5_lay { frames := 4, cells := 0, slots := 0, locals := 98 } D vwCl (xT cs) (xN tF) (xA q) [.ref (q 0), .int a1, .int a2, .int a3] (xW q cs n nd es kn knd kes img tl ta tn sl bey wt un ed kwt kun ked tb sb sz sbs G K P wk wh) (some (.int res.1)) (xW q cs n nd es kn knd kes img tl ta tn sl res.2.1 wt un ed kwt kun ked tb sb sz sbs G K res.2.2.1 wk res.2.2.2) := by
  have iX0 : ∀ w ∈ wsX00, w ∈ wsX5_lay := fun _ h => List.mem_cons_of_mem _ (List.mem_append_left _ (List.mem_append_left _ (List.mem_append_right _ h)))
  have iX5 : ∀ w ∈ wsX50, w ∈ wsX5_lay := fun _ h => List.mem_cons_of_mem _ (List.mem_append_left _ (List.mem_append_left _ (List.mem_append_left _ (List.mem_append_right _ h))))
  refine kMet.of (cc := cX5_lay) (nL := 6) (ret := (some .int)) (own := RX5) (lv := [(0, .ref (q 0)), (1, .int a1), (2, .int a2), (3, .int a3)]) (by decide +kernel) rfl rfl xN_ok hq (Nat.le_of_ble_eq_true rfl) rfl (fun X C => ?_)
  refine VF.of hf ?_
  unfold f_X5_lay
  refine v_iload_n C 1 dX5_lay_0 rfl ?_
  refine v_callSP1v C (fun l9 r9 h9 => k_X5_isRow (l := l9) h9) gX5_lay_X5_isRow rfl nI_X5_isRow ⟨rfl, rfl, Nat.le_of_ble_eq_true rfl, Nat.le_of_ble_eq_true rfl⟩ dX5_lay_1 (Nat.le_of_ble_eq_true rfl) (fun r1 => ?_)
  refine v_ifb_eq C (b := r1) dX5_lay_4 (tgt := 14) (by decide) ?_ ?_
  · refine v_iconst C dX5_lay_14 (v := (-1)) (by decide) ?_
    exact v_iret (rvf := fun (res : Int32 × Bool × (Nat → Nat → Int64) × (Nat → Int64)) => (some (.int res.1))) (wf := fun (res : Int32 × Bool × (Nat → Nat → Int64) × (Nat → Int64)) => (xW q cs n nd es kn knd kes img tl ta tn sl res.2.1 wt un ed kwt kun ked tb sb sz sbs G K res.2.2.1 wk res.2.2.2)) C dX5_lay_15 rfl rfl
  · refine v_iload_n C 3 dX5_lay_7 rfl ?_
    refine v_callSP1v C (fun l9 r9 h9 => k_X5_isGame (l := l9) h9) gX5_lay_X5_isGame rfl nI_X5_isGame ⟨rfl, rfl, Nat.le_of_ble_eq_true rfl, Nat.le_of_ble_eq_true rfl⟩ dX5_lay_8 (Nat.le_of_ble_eq_true rfl) (fun r2 => ?_)
    refine v_ifb_ne C (b := r2) dX5_lay_11 (tgt := 16) (by decide) ?_ ?_
    · refine v_aload_n C 0 dX5_lay_16 rfl ?_
      refine v_get C (T := TX5) (n := 10) (C9 := RX5) iX5 0 rfl rfl 5 (by decide) (List.mem_of_getElem? (i := 1) rfl) rfl rfl dX5_lay_17 ?_
      refine v_iload_n C 1 dX5_lay_20 rfl ?_
      refine v_callV1v C 5 rfl rfl rfl (fun l9 r9 h9 => k_X3_isNothing (l := l9) hq  h9) gX5_lay_X3_isNothing rfl nI_X3_isNothing ⟨rfl, rfl, Nat.le_of_ble_eq_true rfl, Nat.le_of_ble_eq_true rfl⟩ dX5_lay_21 (Nat.le_of_ble_eq_true rfl) (fun r3 => ?_)
      refine v_ifb_eq C (b := r3) dX5_lay_24 (tgt := 30) (by decide) ?_ ?_
      · refine v_aload_n C 0 dX5_lay_30 rfl ?_
        refine v_iload_n C 3 dX5_lay_31 rfl ?_
        refine v_callV1v C 0 rfl rfl rfl (fun l9 r9 h9 => k_X5_fillWholes (l := l9) hq  h9) gX5_lay_X5_fillWholes rfl nI_X5_fillWholes ⟨rfl, rfl, Nat.le_of_ble_eq_true rfl, Nat.le_of_ble_eq_true rfl⟩ dX5_lay_32 (Nat.le_of_ble_eq_true rfl) (fun r4 => ?_)
        refine v_ifb_ne C (b := r4.1) dX5_lay_35 (tgt := 41) (by decide) ?_ ?_
        · refine v_aload_n C 0 dX5_lay_41 rfl ?_
          refine v_get C (T := TX5) (n := 10) (C9 := RX5) iX5 0 rfl rfl 0 (by decide) (List.mem_of_getElem? (i := 2) rfl) rfl rfl dX5_lay_42 ?_
          refine v_get C (T := TX0) (n := 7) (C9 := RX0) iX0 1 rfl rfl 0 (by decide) (List.mem_of_getElem? (i := 3) rfl) rfl rfl dX5_lay_45 ?_
          refine v_callS1v C (fun l9 r9 h9 => k_X5_factorial (l := l9) hq  h9) gX5_lay_X5_factorial rfl nI_X5_factorial ⟨rfl, rfl, Nat.le_of_ble_eq_true rfl, Nat.le_of_ble_eq_true rfl⟩ dX5_lay_48 (Nat.le_of_ble_eq_true rfl) (fun r5 => ?_)
          refine v_istore C (lv' := [(4, .int r5), (0, .ref (q 0)), (1, .int a1), (2, .int a2), (3, .int a3)]) dX5_lay_51 (by decide) rfl ?_
          refine v_iconst C dX5_lay_53 (v := 0) (by decide) ?_
          refine v_istore C (lv' := [(5, .int 0), (4, .int r5), (0, .ref (q 0)), (1, .int a1), (2, .int a2), (3, .int a3)]) dX5_lay_54 (by decide) rfl ?_
          refine v_sub [2, 3, 4, 1, 0] rfl (lp_X5_lay_1 hq C   FU 0 P)
        · refine v_bipush C dX5_lay_38 (v := (-6)) (by decide) ?_
          exact v_iret (rvf := fun (res : Int32 × Bool × (Nat → Nat → Int64) × (Nat → Int64)) => (some (.int res.1))) (wf := fun (res : Int32 × Bool × (Nat → Nat → Int64) × (Nat → Int64)) => (xW q cs n nd es kn knd kes img tl ta tn sl res.2.1 wt un ed kwt kun ked tb sb sz sbs G K res.2.2.1 wk res.2.2.2)) C dX5_lay_40 rfl rfl
      · refine v_bipush C dX5_lay_27 (v := (-11)) (by decide) ?_
        exact v_iret (rvf := fun (res : Int32 × Bool × (Nat → Nat → Int64) × (Nat → Int64)) => (some (.int res.1))) (wf := fun (res : Int32 × Bool × (Nat → Nat → Int64) × (Nat → Int64)) => (xW q cs n nd es kn knd kes img tl ta tn sl res.2.1 wt un ed kwt kun ked tb sb sz sbs G K res.2.2.1 wk res.2.2.2)) C dX5_lay_29 rfl rfl
    · refine v_iconst C dX5_lay_14 (v := (-1)) (by decide) ?_
      exact v_iret (rvf := fun (res : Int32 × Bool × (Nat → Nat → Int64) × (Nat → Int64)) => (some (.int res.1))) (wf := fun (res : Int32 × Bool × (Nat → Nat → Int64) × (Nat → Int64)) => (xW q cs n nd es kn knd kes img tl ta tn sl res.2.1 wt un ed kwt kun ked tb sb sz sbs G K res.2.2.1 wk res.2.2.2)) C dX5_lay_15 rfl rfl

def f_X5_image (n : Int32) (nd : Int32) (es : Int32) (kn : Int32) (knd : Int32) (kes : Int32) (img : Bool) (wt : Nat → Int32) (un : Nat → Int32) (ed : Nat → Int32) (kwt : Nat → Int32) (kun : Nat → Int32) (ked : Nat → Int32) (G : Nat → Nat → Int64) (K : Nat → Nat → Int64) : Option (Int32 × Int32 × Int32 × Int32 × Bool × (Nat → Int32) × (Nat → Int32) × (Nat → Int32) × (Nat → Nat → Int64)) :=
(f_X0_become_k n nd es kn knd kes wt un ed kwt kun ked G K).bind (fun (r1 : Int32 × Int32 × Int32 × (Nat → Int32) × (Nat → Int32) × (Nat → Int32) × (Nat → Nat → Int64)) =>
nm true (fun (img2 : Bool) =>
some (n, r1.1, r1.2.1, r1.2.2.1, img2, r1.2.2.2.1, r1.2.2.2.2.1, r1.2.2.2.2.2.1, r1.2.2.2.2.2.2)))

theorem nI_X5_image : NameIn yX5_image 0 := ⟨by decide +kernel, by decide +kernel, by decide +kernel⟩
set_option maxRecDepth 100000 in
set_option maxHeartbeats 4000000 in
theorem k_X5_image {l : Launch}   {res : Int32 × Int32 × Int32 × Int32 × Bool × (Nat → Int32) × (Nat → Int32) × (Nat → Int32) × (Nat → Nat → Int64)} (hq : (xA q).Nodup)  (hf : f_X5_image n nd es kn knd kes img wt un ed kwt kun ked G K = some res) : kMet l yX5_image wsX5_image { frames := 2, cells := 0, slots := 0, locals := 82 } D vwCl (xT cs) (xN tF) (xA q) [.ref (q 0)] (xW q cs n nd es kn knd kes img tl ta tn sl bey wt un ed kwt kun ked tb sb sz sbs G K P wk wh) (some (.int res.1)) (xW q cs n nd es res.2.1 res.2.2.1 res.2.2.2.1 res.2.2.2.2.1 tl ta tn sl bey wt un ed res.2.2.2.2.2.1 res.2.2.2.2.2.2.1 res.2.2.2.2.2.2.2.1 tb sb sz sbs G res.2.2.2.2.2.2.2.2 P wk wh) := by
  have iX0 : ∀ w ∈ wsX00, w ∈ wsX5_image := fun _ h => List.mem_cons_of_mem _ (List.mem_append_right _ h)
  have iX5 : ∀ w ∈ wsX50, w ∈ wsX5_image := fun _ h => List.mem_cons_of_mem _ (List.mem_append_left _ (List.mem_append_right _ h))
  refine kMet.of (cc := cX5_image) (nL := 1) (ret := (some .int)) (own := RX5) (lv := [(0, .ref (q 0))]) (by decide +kernel) rfl rfl xN_ok hq (Nat.le_of_ble_eq_true rfl) rfl (fun X C => ?_)
  refine VF.of hf ?_
  unfold f_X5_image
  refine v_aload_n C 0 dX5_image_0 rfl ?_
  refine v_get C (T := TX5) (n := 10) (C9 := RX5) iX5 0 rfl rfl 1 (by decide) (List.mem_of_getElem? (i := 1) rfl) rfl rfl dX5_image_1 ?_
  refine v_aload_n C 0 dX5_image_4 rfl ?_
  refine v_get C (T := TX5) (n := 10) (C9 := RX5) iX5 0 rfl rfl 0 (by decide) (List.mem_of_getElem? (i := 2) rfl) rfl rfl dX5_image_5 ?_
  refine v_callV1n C 2 rfl rfl rfl (fun l9 r9 h9 => k_X0_become_k (l := l9) hq  h9) gX5_image_X0_become rfl nI_X0_become ⟨rfl, rfl, Nat.le_of_ble_eq_true rfl, Nat.le_of_ble_eq_true rfl⟩ dX5_image_8 (Nat.le_of_ble_eq_true rfl) (fun r1 => ?_)
  refine v_aload_n C 0 dX5_image_11 rfl ?_
  refine v_iconst C dX5_image_12 (v := 1) (by decide) ?_
  refine v_put_nm C (v := true) (fun z9 => Value.int (bI z9)) (ty := .boolean) (T := TX5) (n := 10) (C9 := RX5) (ty0 := tyX5) (fun img2 => (xW q cs n nd es r1.1 r1.2.1 r1.2.2.1 img2 tl ta tn sl bey wt un ed r1.2.2.2.1 r1.2.2.2.2.1 r1.2.2.2.2.2.1 tb sb sz sbs G r1.2.2.2.2.2.2 P wk wh)) iX5 tyX5_ok nmX5 0 rfl rfl rfl 2 (by decide) (List.mem_of_getElem? (i := 3) rfl) rfl rfl rfl bI_nar bI_fit (Nat.le_of_ble_eq_true rfl) (fun _ => rfl) dX5_image_13 (fun img2 => ?_)
  refine v_aload_n C 0 dX5_image_16 rfl ?_
  refine v_get C (T := TX5) (n := 10) (C9 := RX5) iX5 0 rfl rfl 0 (by decide) (List.mem_of_getElem? (i := 2) rfl) rfl rfl dX5_image_17 ?_
  refine v_get C (T := TX0) (n := 7) (C9 := RX0) iX0 1 rfl rfl 0 (by decide) (List.mem_of_getElem? (i := 4) rfl) rfl rfl dX5_image_20 ?_
  exact v_iret (rvf := fun (res : Int32 × Int32 × Int32 × Int32 × Bool × (Nat → Int32) × (Nat → Int32) × (Nat → Int32) × (Nat → Nat → Int64)) => (some (.int res.1))) (wf := fun (res : Int32 × Int32 × Int32 × Int32 × Bool × (Nat → Int32) × (Nat → Int32) × (Nat → Int32) × (Nat → Nat → Int64)) => (xW q cs n nd es res.2.1 res.2.2.1 res.2.2.2.1 res.2.2.2.2.1 tl ta tn sl bey wt un ed res.2.2.2.2.2.1 res.2.2.2.2.2.2.1 res.2.2.2.2.2.2.2.1 tb sb sz sbs G res.2.2.2.2.2.2.2.2 P wk wh)) C dX5_image_23 rfl rfl

def f_X5_undo (n : Int32) (nd : Int32) (es : Int32) (kn : Int32) (knd : Int32) (kes : Int32) (img : Bool) (wt : Nat → Int32) (un : Nat → Int32) (ed : Nat → Int32) (kwt : Nat → Int32) (kun : Nat → Int32) (ked : Nat → Int32) (G : Nat → Nat → Int64) (K : Nat → Nat → Int64) : Option (Int32 × Int32 × Int32 × Int32 × (Nat → Int32) × (Nat → Int32) × (Nat → Int32) × (Nat → Nat → Int64)) :=
if img = true then (
(f_X0_become_n n nd es kn knd kes wt un ed kwt kun ked G K).bind (fun (r1 : Int32 × Int32 × Int32 × (Nat → Int32) × (Nat → Int32) × (Nat → Int32) × (Nat → Nat → Int64)) =>
some (r1.1, r1.1, r1.2.1, r1.2.2.1, r1.2.2.2.1, r1.2.2.2.2.1, r1.2.2.2.2.2.1, r1.2.2.2.2.2.2))) else (
some ((-3), n, nd, es, wt, un, ed, G))

theorem nI_X5_undo : NameIn yX5_undo 0 := ⟨by decide +kernel, by decide +kernel, by decide +kernel⟩
set_option maxRecDepth 100000 in
set_option maxHeartbeats 4000000 in
theorem k_X5_undo {l : Launch}   {res : Int32 × Int32 × Int32 × Int32 × (Nat → Int32) × (Nat → Int32) × (Nat → Int32) × (Nat → Nat → Int64)} (hq : (xA q).Nodup)  (hf : f_X5_undo n nd es kn knd kes img wt un ed kwt kun ked G K = some res) : kMet l yX5_undo wsX5_undo { frames := 2, cells := 0, slots := 0, locals := 82 } D vwCl (xT cs) (xN tF) (xA q) [.ref (q 0)] (xW q cs n nd es kn knd kes img tl ta tn sl bey wt un ed kwt kun ked tb sb sz sbs G K P wk wh) (some (.int res.1)) (xW q cs res.2.1 res.2.2.1 res.2.2.2.1 kn knd kes img tl ta tn sl bey res.2.2.2.2.1 res.2.2.2.2.2.1 res.2.2.2.2.2.2.1 kwt kun ked tb sb sz sbs res.2.2.2.2.2.2.2 K P wk wh) := by
  have iX0 : ∀ w ∈ wsX00, w ∈ wsX5_undo := fun _ h => List.mem_cons_of_mem _ (List.mem_append_right _ h)
  have iX5 : ∀ w ∈ wsX50, w ∈ wsX5_undo := fun _ h => List.mem_cons_of_mem _ (List.mem_append_left _ (List.mem_append_right _ h))
  refine kMet.of (cc := cX5_undo) (nL := 1) (ret := (some .int)) (own := RX5) (lv := [(0, .ref (q 0))]) (by decide +kernel) rfl rfl xN_ok hq (Nat.le_of_ble_eq_true rfl) rfl (fun X C => ?_)
  refine VF.of hf ?_
  unfold f_X5_undo
  refine v_aload_n C 0 dX5_undo_0 rfl ?_
  refine v_get C (T := TX5) (n := 10) (C9 := RX5) iX5 0 rfl rfl 2 (by decide) (List.mem_of_getElem? (i := 1) rfl) rfl rfl dX5_undo_1 ?_
  refine v_ifb_ne C (b := img) dX5_undo_4 (tgt := 10) (by decide) ?_ ?_
  · refine v_aload_n C 0 dX5_undo_10 rfl ?_
    refine v_get C (T := TX5) (n := 10) (C9 := RX5) iX5 0 rfl rfl 0 (by decide) (List.mem_of_getElem? (i := 2) rfl) rfl rfl dX5_undo_11 ?_
    refine v_aload_n C 0 dX5_undo_14 rfl ?_
    refine v_get C (T := TX5) (n := 10) (C9 := RX5) iX5 0 rfl rfl 1 (by decide) (List.mem_of_getElem? (i := 3) rfl) rfl rfl dX5_undo_15 ?_
    refine v_callV1n C 1 rfl rfl rfl (fun l9 r9 h9 => k_X0_become_n (l := l9) hq  h9) gX5_undo_X0_become rfl nI_X0_become ⟨rfl, rfl, Nat.le_of_ble_eq_true rfl, Nat.le_of_ble_eq_true rfl⟩ dX5_undo_18 (Nat.le_of_ble_eq_true rfl) (fun r1 => ?_)
    refine v_aload_n C 0 dX5_undo_21 rfl ?_
    refine v_get C (T := TX5) (n := 10) (C9 := RX5) iX5 0 rfl rfl 0 (by decide) (List.mem_of_getElem? (i := 2) rfl) rfl rfl dX5_undo_22 ?_
    refine v_get C (T := TX0) (n := 7) (C9 := RX0) iX0 1 rfl rfl 0 (by decide) (List.mem_of_getElem? (i := 4) rfl) rfl rfl dX5_undo_25 ?_
    exact v_iret (rvf := fun (res : Int32 × Int32 × Int32 × Int32 × (Nat → Int32) × (Nat → Int32) × (Nat → Int32) × (Nat → Nat → Int64)) => (some (.int res.1))) (wf := fun (res : Int32 × Int32 × Int32 × Int32 × (Nat → Int32) × (Nat → Int32) × (Nat → Int32) × (Nat → Nat → Int64)) => (xW q cs res.2.1 res.2.2.1 res.2.2.2.1 kn knd kes img tl ta tn sl bey res.2.2.2.2.1 res.2.2.2.2.2.1 res.2.2.2.2.2.2.1 kwt kun ked tb sb sz sbs res.2.2.2.2.2.2.2 K P wk wh)) C dX5_undo_28 rfl rfl
  · refine v_bipush C dX5_undo_7 (v := (-3)) (by decide) ?_
    exact v_iret (rvf := fun (res : Int32 × Int32 × Int32 × Int32 × (Nat → Int32) × (Nat → Int32) × (Nat → Int32) × (Nat → Nat → Int64)) => (some (.int res.1))) (wf := fun (res : Int32 × Int32 × Int32 × Int32 × (Nat → Int32) × (Nat → Int32) × (Nat → Int32) × (Nat → Nat → Int64)) => (xW q cs res.2.1 res.2.2.1 res.2.2.2.1 kn knd kes img tl ta tn sl bey res.2.2.2.2.1 res.2.2.2.2.2.1 res.2.2.2.2.2.2.1 kwt kun ked tb sb sz sbs res.2.2.2.2.2.2.2 K P wk wh)) C dX5_undo_9 rfl rfl

end WK
