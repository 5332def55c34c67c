section WK
variable {q : Nat → Nat} {cs : Nat → ClassId} {D : va_G} {tF : Nat} {n : Int32} {nd : Int32} {es : Int32} {kn : Int32} {knd : Int32} {kes : Int32} {img : Bool} {tl : Int32} {ta : Int32} {tn : Int64} {sl : Int32} {bey : Bool} {wt : Nat → Int32} {un : Nat → Int32} {ed : Nat → Int32} {kwt : Nat → Int32} {kun : Nat → Int32} {ked : Nat → Int32} {tb : Nat → Int32} {sb : Nat → Int32} {sz : Nat → Int32} {sbs : Nat → Int32} {G : Nat → Nat → Int64} {K : Nat → Nat → Int64} {P : Nat → Nat → Int64} {wk : Nat → Int64} {wh : Nat → Int64}
def B_X5_cover_1 (n : Int32) (G : Nat → Nat → Int64) (a1 : Int32) (rec4 : Int32 → Bool → (Nat → Int64) → Option (Int32 × Bool × (Nat → Nat → Int64) × (Nat → Int64))) (kx5 : Bool → (Nat → Int64) → Option (Int32 × Bool × (Nat → Nat → Int64) × (Nat → Int64))) (v6 : Int32) (bey7 : Bool) (wk8 : Nat → Int64) : Option (Int32 × Bool × (Nat → Nat → Int64) × (Nat → Int64)) :=
(f_X0_sets n).bind (fun (r9 : Int32) =>
if (v6 : Int32) < r9 then (
ck (inb a1 4) (
(f_X5_bestSplit bey7 wk8 (G a1.toNatClampNeg) v6).bind (fun (r11 : Int64 × Bool) =>
ck (inb v6 512) (
nm (vp_updL wk8 v6.toNatClampNeg r11.1) (fun (wk12 : Nat → Int64) =>
nm (v6 + 1) (fun (x13 : Int32) =>
rec4 x13 r11.2 wk12)))))) else (
kx5 bey7 wk8))
def L_X5_cover_1 (n : Int32) (G : Nat → Nat → Int64) (a1 : Int32) (kx5 : Bool → (Nat → Int64) → Option (Int32 × Bool × (Nat → Nat → Int64) × (Nat → Int64))) : Nat → Int32 → Bool → (Nat → Int64) → Option (Int32 × Bool × (Nat → Nat → Int64) × (Nat → Int64))
  | 0, _, _, _ => none
  | m9 + 1, v6, bey7, wk8 => B_X5_cover_1 n G a1 (L_X5_cover_1 n G a1 kx5 m9) kx5 v6 bey7 wk8

def f_X5_cover (n : Int32) (bey : Bool) (G : Nat → Nat → Int64) (wk : Nat → Int64) (a1 : Int32) : Option (Int32 × Bool × (Nat → Nat → Int64) × (Nat → Int64)) :=
(f_X5_isGame a1).bind (fun (r1 : Bool) =>
if r1 = true then (
(f_X1_begin bey).bind (fun (r2 : Bool) =>
ck (inb (0 : Int32) 512) (
nm (vp_updL wk (0 : Int32).toNatClampNeg 0) (fun (wk3 : Nat → Int64) =>
L_X5_cover_1 n G a1 (fun (bey14 : Bool) (wk15 : Nat → Int64) =>
if bey14 = true then (
some ((-6), bey14, G, wk15)) else (
(f_X5_settle n G wk15 a1).bind (fun (r16 : Int32 × (Nat → Nat → Int64)) =>
some (r16.1, bey14, r16.2, wk15)))) FU 1 r2 wk3)))) else (
some ((-1), bey, G, wk)))

theorem nI_X5_cover : NameIn yX5_cover 1 := ⟨by decide +kernel, by decide +kernel, by decide +kernel⟩
set_option maxRecDepth 100000 in
set_option maxHeartbeats 4000000 in
theorem lp_X5_cover_1 {X : CX} {res : Int32 × Bool × (Nat → Nat → Int64) × (Nat → Int64)} {a1 : Int32}   (hq : (xA q).Nodup) (C : Ok X cX5_cover 3 (some .int) wsX5_cover RX5 { frames := 3, cells := 0, slots := 0, locals := 70 } D vwCl (xT cs) (xA q) (xN tF) (some (.int res.1)) (xW q cs n nd es kn knd kes img tl ta tn sl res.2.1 wt un ed kwt kun ked tb sb sz sbs res.2.2.1 K P res.2.2.2 wh))  (kx5 : Bool → (Nat → Int64) → Option (Int32 × Bool × (Nat → Nat → Int64) × (Nat → Int64))) (Jkx5 : ∀ beyZz : Bool, ∀ wkZz : Nat → Int64, VF X res (kx5 beyZz wkZz) (xW q cs n nd es kn knd kes img tl ta tn sl beyZz wt un ed kwt kun ked tb sb sz sbs G K P wkZz wh) 62 [(0, .ref (q 0)), (1, .int a1)] []) : ∀ fuel : Nat, ∀ v6 : Int32, ∀ bey7 : Bool, ∀ wk8 : Nat → Int64, VF X res (L_X5_cover_1 n G a1 kx5 fuel v6 bey7 wk8) (xW q cs n nd es kn knd kes img tl ta tn sl bey7 wt un ed kwt kun ked tb sb sz sbs G K P wk8 wh) 25 [(0, .ref (q 0)), (1, .int a1), (2, .int v6)] [] := by
  have iX0 : ∀ w ∈ wsX00, w ∈ wsX5_cover := fun _ h => List.mem_cons_of_mem _ (List.mem_append_left _ (List.mem_append_right _ h))
  have iX5 : ∀ w ∈ wsX50, w ∈ wsX5_cover := fun _ h => List.mem_cons_of_mem _ (List.mem_append_left _ (List.mem_append_left _ (List.mem_append_right _ h)))
  intro fuel
  induction fuel with
  | zero =>
    intro _ _ _
    exact v_none
  | succ fuel ih =>
    intro v6 bey7 wk8
    show VF X res (B_X5_cover_1 n G a1 (L_X5_cover_1 n G a1 kx5 fuel) kx5 v6 bey7 wk8) _ _ _ _
    unfold B_X5_cover_1
    refine v_iload_n C 2 dX5_cover_25 rfl ?_
    refine v_aload_n C 0 dX5_cover_26 rfl ?_
    refine v_get C (T := TX5) (n := 10) (C9 := RX5) iX5 0 rfl rfl 0 (by decide) (List.mem_of_getElem? (i := 3) rfl) rfl rfl dX5_cover_27 ?_
    refine v_callV0v C 1 rfl rfl rfl (fun l9 r9 h9 => k_X0_sets (l := l9) hq  h9) gX5_cover_X0_sets rfl nI_X0_sets ⟨rfl, rfl, Nat.le_of_ble_eq_true rfl, Nat.le_of_ble_eq_true rfl⟩ dX5_cover_30 (Nat.le_of_ble_eq_true rfl) (fun r9 => ?_)
    refine v_icmp_ge C dX5_cover_33 (tgt := 62) (by decide) ?_ ?_
    · exact v_sub [0, 1] rfl (Jkx5 bey7 wk8)
    · refine v_aload_n C 0 dX5_cover_36 rfl ?_
      refine v_get C (T := TX5) (n := 10) (C9 := RX5) iX5 0 rfl rfl 7 (by decide) (List.mem_of_getElem? (i := 2) rfl) rfl rfl dX5_cover_37 ?_
      refine v_iload_n C 2 dX5_cover_40 rfl ?_
      refine v_aload_n C 0 dX5_cover_41 rfl ?_
      refine v_aload_n C 0 dX5_cover_42 rfl ?_
      refine v_get C (T := TX5) (n := 10) (C9 := RX5) iX5 0 rfl rfl 0 (by decide) (List.mem_of_getElem? (i := 3) rfl) rfl rfl dX5_cover_43 ?_
      refine v_get C (T := TX0) (n := 7) (C9 := RX0) iX0 1 rfl rfl 6 (by decide) (List.mem_of_getElem? (i := 4) rfl) rfl rfl dX5_cover_46 ?_
      refine v_iload_n C 1 dX5_cover_49 rfl ?_
      refine v_aalda C (ad := fun j9 => q (22 + j9)) 10 3 rfl rfl (fun _ h9 => if_pos h9) dX5_cover_50 (fun hb10 => ?_)
      have hj10 := inb_lt hb10
      refine v_iload_n C 2 dX5_cover_51 rfl ?_
      refine v_callV2v C 0 rfl rfl rfl (fun l9 r9 h9 => k_X5_bestSplit (l := l9) hq hj10 h9) gX5_cover_X5_bestSplit rfl nI_X5_bestSplit ⟨rfl, rfl, Nat.le_of_ble_eq_true rfl, Nat.le_of_ble_eq_true rfl⟩ dX5_cover_52 (Nat.le_of_ble_eq_true rfl) (fun r11 => ?_)
      refine v_last_nm C (fun wk12 => (xW q cs n nd es kn knd kes img tl ta tn sl r11.2 wt un ed kwt kun ked tb sb sz sbs G K P wk12 wh)) 19 1 rfl rfl rfl (fun _ => rfl) dX5_cover_55 (fun wk12 => ?_)
      refine v_iinc_nm C (lvf := fun x13 => [(2, .int x13), (0, .ref (q 0)), (1, .int a1)]) 2 dX5_cover_56 rfl rfl (by decide) (fun _ => rfl) (fun x13 => ?_)
      refine v_goto C dX5_cover_59 (tgt := 25) (by decide) ?_
      exact v_sub [1, 2, 0] rfl (ih x13 r11.2 wk12)

set_option maxRecDepth 100000 in
set_option maxHeartbeats 4000000 in
theorem k_X5_cover {l : Launch} {a1 : Int32}  {res : Int32 × Bool × (Nat → Nat → Int64) × (Nat → Int64)} (hq : (xA q).Nodup)  (hf : f_X5_cover n bey G wk a1 = some res) : kMet l yX5_cover wsX5_cover { frames := 3, cells := 0, slots := 0, locals := 70 } D vwCl (xT cs) (xN tF) (xA q) [.ref (q 0), .int a1] (xW q cs n nd es kn knd kes img tl ta tn sl bey wt un ed kwt kun ked tb sb sz sbs G K P wk wh) (some (.int res.1)) (xW q cs n nd es kn knd kes img tl ta tn sl res.2.1 wt un ed kwt kun ked tb sb sz sbs res.2.2.1 K P res.2.2.2 wh) := by
  have iX1 : ∀ w ∈ wsX10, w ∈ wsX5_cover := fun _ h => List.mem_cons_of_mem _ (List.mem_append_right _ h)
  have iX5 : ∀ w ∈ wsX50, w ∈ wsX5_cover := fun _ h => List.mem_cons_of_mem _ (List.mem_append_left _ (List.mem_append_left _ (List.mem_append_right _ h)))
  refine kMet.of (cc := cX5_cover) (nL := 3) (ret := (some .int)) (own := RX5) (lv := [(0, .ref (q 0)), (1, .int a1)]) (by decide +kernel) rfl rfl xN_ok hq (Nat.le_of_ble_eq_true rfl) rfl (fun X C => ?_)
  refine VF.of hf ?_
  unfold f_X5_cover
  refine v_iload_n C 1 dX5_cover_0 rfl ?_
  refine v_callSP1v C (fun l9 r9 h9 => k_X5_isGame (l := l9) h9) gX5_cover_X5_isGame rfl nI_X5_isGame ⟨rfl, rfl, Nat.le_of_ble_eq_true rfl, Nat.le_of_ble_eq_true rfl⟩ dX5_cover_1 (Nat.le_of_ble_eq_true rfl) (fun r1 => ?_)
  refine v_ifb_ne C (b := r1) dX5_cover_4 (tgt := 9) (by decide) ?_ ?_
  · refine v_aload_n C 0 dX5_cover_9 rfl ?_
    refine v_get C (T := TX5) (n := 10) (C9 := RX5) iX5 0 rfl rfl 6 (by decide) (List.mem_of_getElem? (i := 1) rfl) rfl rfl dX5_cover_10 ?_
    refine v_callV0n C 6 rfl rfl rfl (fun l9 r9 h9 => k_X1_begin (l := l9) hq  h9) gX5_cover_X1_begin rfl nI_X1_begin ⟨rfl, rfl, Nat.le_of_ble_eq_true rfl, Nat.le_of_ble_eq_true rfl⟩ dX5_cover_13 (Nat.le_of_ble_eq_true rfl) (fun r2 => ?_)
    refine v_aload_n C 0 dX5_cover_16 rfl ?_
    refine v_get C (T := TX5) (n := 10) (C9 := RX5) iX5 0 rfl rfl 7 (by decide) (List.mem_of_getElem? (i := 2) rfl) rfl rfl dX5_cover_17 ?_
    refine v_iconst C dX5_cover_20 (v := 0) (by decide) ?_
    refine v_lconst C dX5_cover_21 (v := 0) (by decide) ?_
    refine v_last_nm C (fun wk3 => (xW q cs n nd es kn knd kes img tl ta tn sl r2 wt un ed kwt kun ked tb sb sz sbs G K P wk3 wh)) 19 1 rfl rfl rfl (fun _ => rfl) dX5_cover_22 (fun wk3 => ?_)
    refine v_iconst C dX5_cover_23 (v := 1) (by decide) ?_
    refine v_istore_n C (lv' := [(2, .int 1), (0, .ref (q 0)), (1, .int a1)]) dX5_cover_24 rfl (by decide) rfl ?_
    refine v_sub [1, 2, 0] rfl (lp_X5_cover_1 hq C  _ (fun bey14 wk15 => ?_) FU 1 r2 wk3)
    refine v_aload_n C 0 dX5_cover_62 rfl ?_
    refine v_get C (T := TX5) (n := 10) (C9 := RX5) iX5 0 rfl rfl 6 (by decide) (List.mem_of_getElem? (i := 1) rfl) rfl rfl dX5_cover_63 ?_
    refine v_get C (T := TX1) (n := 1) (C9 := RX1) iX1 6 rfl rfl 0 (by decide) (List.mem_of_getElem? (i := 5) rfl) rfl rfl dX5_cover_66 ?_
    refine v_ifb_eq C (b := bey14) dX5_cover_69 (tgt := 77) (by decide) ?_ ?_
    · refine v_aload_n C 0 dX5_cover_77 rfl ?_
      refine v_iload_n C 1 dX5_cover_78 rfl ?_
      refine v_callV1v C 0 rfl rfl rfl (fun l9 r9 h9 => k_X5_settle (l := l9) hq  h9) gX5_cover_X5_settle rfl nI_X5_settle ⟨rfl, rfl, Nat.le_of_ble_eq_true rfl, Nat.le_of_ble_eq_true rfl⟩ dX5_cover_79 (Nat.le_of_ble_eq_true rfl) (fun r16 => ?_)
      exact v_iret (rvf := fun (res : Int32 × Bool × (Nat → Nat → Int64) × (Nat → Int64)) => (some (.int res.1))) (wf := fun (res : Int32 × Bool × (Nat → Nat → Int64) × (Nat → Int64)) => (xW q cs n nd es kn knd kes img tl ta tn sl res.2.1 wt un ed kwt kun ked tb sb sz sbs res.2.2.1 K P res.2.2.2 wh)) C dX5_cover_82 rfl rfl
    · refine v_bipush C dX5_cover_72 (v := (-6)) (by decide) ?_
      refine v_goto C dX5_cover_74 (tgt := 82) (by decide) ?_
      exact v_iret (rvf := fun (res : Int32 × Bool × (Nat → Nat → Int64) × (Nat → Int64)) => (some (.int res.1))) (wf := fun (res : Int32 × Bool × (Nat → Nat → Int64) × (Nat → Int64)) => (xW q cs n nd es kn knd kes img tl ta tn sl res.2.1 wt un ed kwt kun ked tb sb sz sbs res.2.2.1 K P res.2.2.2 wh)) C dX5_cover_82 rfl rfl
  · refine v_iconst C dX5_cover_7 (v := (-1)) (by decide) ?_
    exact v_iret (rvf := fun (res : Int32 × Bool × (Nat → Nat → Int64) × (Nat → Int64)) => (some (.int res.1))) (wf := fun (res : Int32 × Bool × (Nat → Nat → Int64) × (Nat → Int64)) => (xW q cs n nd es kn knd kes img tl ta tn sl res.2.1 wt un ed kwt kun ked tb sb sz sbs res.2.2.1 K P res.2.2.2 wh)) C dX5_cover_8 rfl rfl

def B_X5_settleParts_1 (n : Int32) (a1 : Int32) (a2 : Int32) (rec1 : Int32 → (Nat → Nat → Int64) → (Nat → Int64) → Option (Int32 × (Nat → Nat → Int64) × (Nat → Int64)))  (v2 : Int32) (G3 : Nat → Nat → Int64) (wk4 : Nat → Int64) : Option (Int32 × (Nat → Nat → Int64) × (Nat → Int64)) :=
(f_X0_sets n).bind (fun (r5 : Int32) =>
if (v2 : Int32) < r5 then (
ck (inb a1 4) (
ck (inb (v2 &&& a2) 512) (
ck (inb v2 512) (
nm (vp_updL wk4 v2.toNatClampNeg ((G3 a1.toNatClampNeg) (v2 &&& a2).toNatClampNeg)) (fun (wk8 : Nat → Int64) =>
nm (v2 + 1) (fun (x9 : Int32) =>
rec1 x9 G3 wk8)))))) else (
(f_X5_settle n G3 wk4 a1).bind (fun (r6 : Int32 × (Nat → Nat → Int64)) =>
some (r6.1, r6.2, wk4))))
def L_X5_settleParts_1 (n : Int32) (a1 : Int32) (a2 : Int32)  : Nat → Int32 → (Nat → Nat → Int64) → (Nat → Int64) → Option (Int32 × (Nat → Nat → Int64) × (Nat → Int64))
  | 0, _, _, _ => none
  | m9 + 1, v2, G3, wk4 => B_X5_settleParts_1 n a1 a2 (L_X5_settleParts_1 n a1 a2 m9)  v2 G3 wk4

def f_X5_settleParts (n : Int32) (G : Nat → Nat → Int64) (wk : Nat → Int64) (a1 : Int32) (a2 : Int32) : Option (Int32 × (Nat → Nat → Int64) × (Nat → Int64)) :=
L_X5_settleParts_1 n a1 a2  FU 0 G wk

theorem nI_X5_settleParts : NameIn yX5_settleParts 2 := ⟨by decide +kernel, by decide +kernel, by decide +kernel⟩
set_option maxRecDepth 100000 in
set_option maxHeartbeats 4000000 in
theorem lp_X5_settleParts_1 {X : CX} {res : Int32 × (Nat → Nat → Int64) × (Nat → Int64)} {a1 : Int32} {a2 : Int32}   (hq : (xA q).Nodup) (C : Ok X cX5_settleParts 4 (some .int) wsX5_settleParts RX5 { frames := 2, cells := 0, slots := 0, locals := 44 } D vwCl (xT cs) (xA q) (xN tF) (some (.int res.1)) (xW q cs n nd es kn knd kes img tl ta tn sl bey wt un ed kwt kun ked tb sb sz sbs res.2.1 K P res.2.2 wh))  : ∀ fuel : Nat, ∀ v2 : Int32, ∀ G3 : Nat → Nat → Int64, ∀ wk4 : Nat → Int64, VF X res (L_X5_settleParts_1 n a1 a2 fuel v2 G3 wk4) (xW q cs n nd es kn knd kes img tl ta tn sl bey wt un ed kwt kun ked tb sb sz sbs G3 K P wk4 wh) 2 [(0, .ref (q 0)), (1, .int a1), (2, .int a2), (3, .int v2)] [] := by
  have iX0 : ∀ w ∈ wsX00, w ∈ wsX5_settleParts := fun _ h => List.mem_cons_of_mem _ (List.mem_append_right _ h)
  have iX5 : ∀ w ∈ wsX50, w ∈ wsX5_settleParts := fun _ h => List.mem_cons_of_mem _ (List.mem_append_left _ (List.mem_append_right _ h))
  intro fuel
  induction fuel with
  | zero =>
    intro _ _ _
    exact v_none
  | succ fuel ih =>
    intro v2 G3 wk4
    show VF X res (B_X5_settleParts_1 n a1 a2 (L_X5_settleParts_1 n a1 a2 fuel)  v2 G3 wk4) _ _ _ _
    unfold B_X5_settleParts_1
    refine v_iload_n C 3 dX5_settleParts_2 rfl ?_
    refine v_aload_n C 0 dX5_settleParts_3 rfl ?_
    refine v_get C (T := TX5) (n := 10) (C9 := RX5) iX5 0 rfl rfl 0 (by decide) (List.mem_of_getElem? (i := 1) rfl) rfl rfl dX5_settleParts_4 ?_
    refine v_callV0v C 1 rfl rfl rfl (fun l9 r9 h9 => k_X0_sets (l := l9) hq  h9) gX5_settleParts_X0_sets rfl nI_X0_sets ⟨rfl, rfl, Nat.le_of_ble_eq_true rfl, Nat.le_of_ble_eq_true rfl⟩ dX5_settleParts_7 (Nat.le_of_ble_eq_true rfl) (fun r5 => ?_)
    refine v_icmp_ge C dX5_settleParts_10 (tgt := 38) (by decide) ?_ ?_
    · refine v_aload_n C 0 dX5_settleParts_38 rfl ?_
      refine v_iload_n C 1 dX5_settleParts_39 rfl ?_
      refine v_callV1v C 0 rfl rfl rfl (fun l9 r9 h9 => k_X5_settle (l := l9) hq  h9) gX5_settleParts_X5_settle rfl nI_X5_settle ⟨rfl, rfl, Nat.le_of_ble_eq_true rfl, Nat.le_of_ble_eq_true rfl⟩ dX5_settleParts_40 (Nat.le_of_ble_eq_true rfl) (fun r6 => ?_)
      exact v_iret (rvf := fun (res : Int32 × (Nat → Nat → Int64) × (Nat → Int64)) => (some (.int res.1))) (wf := fun (res : Int32 × (Nat → Nat → Int64) × (Nat → Int64)) => (xW q cs n nd es kn knd kes img tl ta tn sl bey wt un ed kwt kun ked tb sb sz sbs res.2.1 K P res.2.2 wh)) C dX5_settleParts_43 rfl rfl
    · refine v_aload_n C 0 dX5_settleParts_13 rfl ?_
      refine v_get C (T := TX5) (n := 10) (C9 := RX5) iX5 0 rfl rfl 7 (by decide) (List.mem_of_getElem? (i := 2) rfl) rfl rfl dX5_settleParts_14 ?_
      refine v_iload_n C 3 dX5_settleParts_17 rfl ?_
      refine v_aload_n C 0 dX5_settleParts_18 rfl ?_
      refine v_get C (T := TX5) (n := 10) (C9 := RX5) iX5 0 rfl rfl 0 (by decide) (List.mem_of_getElem? (i := 1) rfl) rfl rfl dX5_settleParts_19 ?_
      refine v_get C (T := TX0) (n := 7) (C9 := RX0) iX0 1 rfl rfl 6 (by decide) (List.mem_of_getElem? (i := 3) rfl) rfl rfl dX5_settleParts_22 ?_
      refine v_iload_n C 1 dX5_settleParts_25 rfl ?_
      refine v_aalda C (ad := fun j9 => q (22 + j9)) 10 3 rfl rfl (fun _ h9 => if_pos h9) dX5_settleParts_26 (fun hb7 => ?_)
      have hj7 := inb_lt hb7
      refine v_iload_n C 3 dX5_settleParts_27 rfl ?_
      refine v_iload_n C 2 dX5_settleParts_28 rfl ?_
      refine v_iand C dX5_settleParts_29 ?_
      refine v_lald C (22 + a1.toNatClampNeg) 1 (xW_G hj7) rfl dX5_settleParts_30 ?_
      refine v_last_nm C (fun wk8 => (xW q cs n nd es kn knd kes img tl ta tn sl bey wt un ed kwt kun ked tb sb sz sbs G3 K P wk8 wh)) 19 1 rfl rfl rfl (fun _ => rfl) dX5_settleParts_31 (fun wk8 => ?_)
      refine v_iinc_nm C (lvf := fun x9 => [(3, .int x9), (0, .ref (q 0)), (1, .int a1), (2, .int a2)]) 3 dX5_settleParts_32 rfl rfl (by decide) (fun _ => rfl) (fun x9 => ?_)
      refine v_goto C dX5_settleParts_35 (tgt := 2) (by decide) ?_
      exact v_sub [1, 2, 3, 0] rfl (ih x9 G3 wk8)

set_option maxRecDepth 100000 in
set_option maxHeartbeats 4000000 in
theorem k_X5_settleParts {l : Launch} {a1 : Int32} {a2 : Int32}  {res : Int32 × (Nat → Nat → Int64) × (Nat → Int64)} (hq : (xA q).Nodup)  (hf : f_X5_settleParts n G wk a1 a2 = some res) : kMet l yX5_settleParts wsX5_settleParts { frames := 2, cells := 0, slots := 0, locals := 44 } D vwCl (xT cs) (xN tF) (xA q) [.ref (q 0), .int a1, .int a2] (xW q cs n nd es kn knd kes img tl ta tn sl bey wt un ed kwt kun ked tb sb sz sbs G K P wk wh) (some (.int res.1)) (xW q cs n nd es kn knd kes img tl ta tn sl bey wt un ed kwt kun ked tb sb sz sbs res.2.1 K P res.2.2 wh) := by
  refine kMet.of (cc := cX5_settleParts) (nL := 4) (ret := (some .int)) (own := RX5) (lv := [(0, .ref (q 0)), (1, .int a1), (2, .int a2)]) (by decide +kernel) rfl rfl xN_ok hq (Nat.le_of_ble_eq_true rfl) rfl (fun X C => ?_)
  refine VF.of hf ?_
  unfold f_X5_settleParts
  refine v_iconst C dX5_settleParts_0 (v := 0) (by decide) ?_
  refine v_istore_n C (lv' := [(3, .int 0), (0, .ref (q 0)), (1, .int a1), (2, .int a2)]) dX5_settleParts_1 rfl (by decide) rfl ?_
  refine v_sub [1, 2, 3, 0] rfl (lp_X5_settleParts_1 hq C   FU 0 G wk)

def f_X5_mask (n : Int32) (G : Nat → Nat → Int64) (wk : Nat → Int64) (a1 : Int32) (a2 : Int32) : Option (Int32 × (Nat → Nat → Int64) × (Nat → Int64)) :=
(f_X5_isGame a1).bind (fun (r1 : Bool) =>
if r1 = true then (
(f_X0_hasSet n a2).bind (fun (r2 : Bool) =>
if r2 = true then (
(f_X5_settleParts n G wk a1 a2).bind (fun (r3 : Int32 × (Nat → Nat → Int64) × (Nat → Int64)) =>
some (r3.1, r3.2.1, r3.2.2))) else (
some ((-2), G, wk)))) else (
some ((-1), G, wk)))

theorem nI_X5_mask : NameIn yX5_mask 2 := ⟨by decide +kernel, by decide +kernel, by decide +kernel⟩
set_option maxRecDepth 100000 in
set_option maxHeartbeats 4000000 in
theorem k_X5_mask {l : Launch} {a1 : Int32} {a2 : Int32}  {res : Int32 × (Nat → Nat → Int64) × (Nat → Int64)} (hq : (xA q).Nodup)  (hf : f_X5_mask n G wk a1 a2 = some res) : kMet l yX5_mask wsX5_mask { frames := 3, cells := 0, slots := 0, locals := 67 } D vwCl (xT cs) (xN tF) (xA q) [.ref (q 0), .int a1, .int a2] (xW q cs n nd es kn knd kes img tl ta tn sl bey wt un ed kwt kun ked tb sb sz sbs G K P wk wh) (some (.int res.1)) (xW q cs n nd es kn knd kes img tl ta tn sl bey wt un ed kwt kun ked tb sb sz sbs res.2.1 K P res.2.2 wh) := by
  have iX5 : ∀ w ∈ wsX50, w ∈ wsX5_mask := fun _ h => List.mem_cons_of_mem _ (List.mem_append_left _ (List.mem_append_right _ h))
  refine kMet.of (cc := cX5_mask) (nL := 3) (ret := (some .int)) (own := RX5) (lv := [(0, .ref (q 0)), (1, .int a1), (2, .int a2)]) (by decide +kernel) rfl rfl xN_ok hq (Nat.le_of_ble_eq_true rfl) rfl (fun X C => ?_)
  refine VF.of hf ?_
  unfold f_X5_mask
  refine v_iload_n C 1 dX5_mask_0 rfl ?_
  refine v_callSP1v C (fun l9 r9 h9 => k_X5_isGame (l := l9) h9) gX5_mask_X5_isGame rfl nI_X5_isGame ⟨rfl, rfl, Nat.le_of_ble_eq_true rfl, Nat.le_of_ble_eq_true rfl⟩ dX5_mask_1 (Nat.le_of_ble_eq_true rfl) (fun r1 => ?_)
  refine v_ifb_ne C (b := r1) dX5_mask_4 (tgt := 9) (by decide) ?_ ?_
  · refine v_aload_n C 0 dX5_mask_9 rfl ?_
    refine v_get C (T := TX5) (n := 10) (C9 := RX5) iX5 0 rfl rfl 0 (by decide) (List.mem_of_getElem? (i := 1) rfl) rfl rfl dX5_mask_10 ?_
    refine v_iload_n C 2 dX5_mask_13 rfl ?_
    refine v_callV1v C 1 rfl rfl rfl (fun l9 r9 h9 => k_X0_hasSet (l := l9) hq  h9) gX5_mask_X0_hasSet rfl nI_X0_hasSet ⟨rfl, rfl, Nat.le_of_ble_eq_true rfl, Nat.le_of_ble_eq_true rfl⟩ dX5_mask_14 (Nat.le_of_ble_eq_true rfl) (fun r2 => ?_)
    refine v_ifb_eq C (b := r2) dX5_mask_17 (tgt := 29) (by decide) ?_ ?_
    · refine v_bipush C dX5_mask_29 (v := (-2)) (by decide) ?_
      exact v_iret (rvf := fun (res : Int32 × (Nat → Nat → Int64) × (Nat → Int64)) => (some (.int res.1))) (wf := fun (res : Int32 × (Nat → Nat → Int64) × (Nat → Int64)) => (xW q cs n nd es kn knd kes img tl ta tn sl bey wt un ed kwt kun ked tb sb sz sbs res.2.1 K P res.2.2 wh)) C dX5_mask_31 rfl rfl
    · refine v_aload_n C 0 dX5_mask_20 rfl ?_
      refine v_iload_n C 1 dX5_mask_21 rfl ?_
      refine v_iload_n C 2 dX5_mask_22 rfl ?_
      refine v_callV2v C 0 rfl rfl rfl (fun l9 r9 h9 => k_X5_settleParts (l := l9) hq  h9) gX5_mask_X5_settleParts rfl nI_X5_settleParts ⟨rfl, rfl, Nat.le_of_ble_eq_true rfl, Nat.le_of_ble_eq_true rfl⟩ dX5_mask_23 (Nat.le_of_ble_eq_true rfl) (fun r3 => ?_)
      refine v_goto C dX5_mask_26 (tgt := 31) (by decide) ?_
      exact v_iret (rvf := fun (res : Int32 × (Nat → Nat → Int64) × (Nat → Int64)) => (some (.int res.1))) (wf := fun (res : Int32 × (Nat → Nat → Int64) × (Nat → Int64)) => (xW q cs n nd es kn knd kes img tl ta tn sl bey wt un ed kwt kun ked tb sb sz sbs res.2.1 K P res.2.2 wh)) C dX5_mask_31 rfl rfl
  · refine v_iconst C dX5_mask_7 (v := (-1)) (by decide) ?_
    exact v_iret (rvf := fun (res : Int32 × (Nat → Nat → Int64) × (Nat → Int64)) => (some (.int res.1))) (wf := fun (res : Int32 × (Nat → Nat → Int64) × (Nat → Int64)) => (xW q cs n nd es kn knd kes img tl ta tn sl bey wt un ed kwt kun ked tb sb sz sbs res.2.1 K P res.2.2 wh)) C dX5_mask_8 rfl rfl

def B_X5_unanimous_1 (n : Int32) (a1 : Int32) (a2 : Int32) (a3 : Int64) (rec5 : Int32 → Bool → (Nat → Nat → Int64) → (Nat → Int64) → Option (Int32 × Bool × (Nat → Nat → Int64) × (Nat → Int64)))  (v6 : Int32) (bey7 : Bool) (G8 : Nat → Nat → Int64) (wk9 : Nat → Int64) : Option (Int32 × Bool × (Nat → Nat → Int64) × (Nat → Int64)) :=
(f_X0_sets n).bind (fun (r10 : Int32) =>
if (v6 : Int32) < r10 then (
ck (inb a1 4) (
ck (inb v6 512) (
nm ((G8 a1.toNatClampNeg) v6.toNatClampNeg) (fun (x13 : Int64) =>
jn2 (fun (v15 : Int64) (bey16 : Bool) =>
ck (inb v6 512) (
nm (vp_updL wk9 v6.toNatClampNeg v15) (fun (wk17 : Nat → Int64) =>
nm (v6 + 1) (fun (x18 : Int32) =>
rec5 x18 bey16 G8 wk17)))) (fun k14 =>
if (v6 &&& a2 : Int32) = a2 then (
(f_X1_plus bey7 x13 a3).bind (fun (r19 : Int64 × Bool) =>
k14 r19.1 r19.2)) else (
k14 x13 bey7)))))) else (
(f_X5_settleUnlessBeyond n bey7 G8 wk9 a1).bind (fun (r11 : Int32 × (Nat → Nat → Int64)) =>
some (r11.1, bey7, r11.2, wk9))))
def L_X5_unanimous_1 (n : Int32) (a1 : Int32) (a2 : Int32) (a3 : Int64)  : Nat → Int32 → Bool → (Nat → Nat → Int64) → (Nat → Int64) → Option (Int32 × Bool × (Nat → Nat → Int64) × (Nat → Int64))
  | 0, _, _, _, _ => none
  | m9 + 1, v6, bey7, G8, wk9 => B_X5_unanimous_1 n a1 a2 a3 (L_X5_unanimous_1 n a1 a2 a3 m9)  v6 bey7 G8 wk9

def f_X5_unanimous (n : Int32) (bey : Bool) (G : Nat → Nat → Int64) (wk : Nat → Int64) (a1 : Int32) (a2 : Int32) (a3 : Int64) : Option (Int32 × Bool × (Nat → Nat → Int64) × (Nat → Int64)) :=
(f_X5_isGame a1).bind (fun (r1 : Bool) =>
if r1 = true then (
(f_X0_hasSet n a2).bind (fun (r2 : Bool) =>
if r2 = true then (
if (a2 : Int32) = 0 then (
some ((-2), bey, G, wk)) else (
(f_X5_isToldValue a3).bind (fun (r3 : Bool) =>
if r3 = true then (
(f_X1_begin bey).bind (fun (r4 : Bool) =>
L_X5_unanimous_1 n a1 a2 a3  FU 0 r4 G wk)) else (
some ((-2), bey, G, wk))))) else (
some ((-2), bey, G, wk)))) else (
some ((-1), bey, G, wk)))

theorem nI_X5_unanimous : NameIn yX5_unanimous 3 := ⟨by decide +kernel, by decide +kernel, by decide +kernel⟩
set_option maxRecDepth 100000 in
set_option maxHeartbeats 4000000 in
theorem lp_X5_unanimous_1 {X : CX} {res : Int32 × Bool × (Nat → Nat → Int64) × (Nat → Int64)} {a1 : Int32} {a2 : Int32} {a3 : Int64}   (hq : (xA q).Nodup) (C : Ok X cX5_unanimous 8 (some .int) wsX5_unanimous RX5 { frames := 3, cells := 0, slots := 0, locals := 65 } D vwCl (xT cs) (xA q) (xN tF) (some (.int res.1)) (xW q cs n nd es kn knd kes img tl ta tn sl res.2.1 wt un ed kwt kun ked tb sb sz sbs res.2.2.1 K P res.2.2.2 wh))  : ∀ fuel : Nat, ∀ v6 : Int32, ∀ bey7 : Bool, ∀ G8 : Nat → Nat → Int64, ∀ wk9 : Nat → Int64, VF X res (L_X5_unanimous_1 n a1 a2 a3 fuel v6 bey7 G8 wk9) (xW q cs n nd es kn knd kes img tl ta tn sl bey7 wt un ed kwt kun ked tb sb sz sbs G8 K P wk9 wh) 44 [(0, .ref (q 0)), (1, .int a1), (2, .int a2), (3, .long a3), (5, .int v6)] [] := by
  have iX0 : ∀ w ∈ wsX00, w ∈ wsX5_unanimous := fun _ h => List.mem_cons_of_mem _ (List.mem_append_left _ (List.mem_append_right _ h))
  have iX5 : ∀ w ∈ wsX50, w ∈ wsX5_unanimous := fun _ h => List.mem_cons_of_mem _ (List.mem_append_left _ (List.mem_append_left _ (List.mem_append_right _ h)))
  intro fuel
  induction fuel with
  | zero =>
    intro _ _ _ _
    exact v_none
  | succ fuel ih =>
    intro v6 bey7 G8 wk9
    show VF X res (B_X5_unanimous_1 n a1 a2 a3 (L_X5_unanimous_1 n a1 a2 a3 fuel)  v6 bey7 G8 wk9) _ _ _ _
    unfold B_X5_unanimous_1
    refine v_iload C 4 dX5_unanimous_44 rfl ?_
    refine v_aload_n C 0 dX5_unanimous_46 rfl ?_
    refine v_get C (T := TX5) (n := 10) (C9 := RX5) iX5 0 rfl rfl 0 (by decide) (List.mem_of_getElem? (i := 1) rfl) rfl rfl dX5_unanimous_47 ?_
    refine v_callV0v C 1 rfl rfl rfl (fun l9 r9 h9 => k_X0_sets (l := l9) hq  h9) gX5_unanimous_X0_sets rfl nI_X0_sets ⟨rfl, rfl, Nat.le_of_ble_eq_true rfl, Nat.le_of_ble_eq_true rfl⟩ dX5_unanimous_50 (Nat.le_of_ble_eq_true rfl) (fun r10 => ?_)
    refine v_icmp_ge C dX5_unanimous_53 (tgt := 106) (by decide) ?_ ?_
    · refine v_aload_n C 0 dX5_unanimous_106 rfl ?_
      refine v_iload_n C 1 dX5_unanimous_107 rfl ?_
      refine v_callV1v C 0 rfl rfl rfl (fun l9 r9 h9 => k_X5_settleUnlessBeyond (l := l9) hq  h9) gX5_unanimous_X5_settleUnlessBeyond rfl nI_X5_settleUnlessBeyond ⟨rfl, rfl, Nat.le_of_ble_eq_true rfl, Nat.le_of_ble_eq_true rfl⟩ dX5_unanimous_108 (Nat.le_of_ble_eq_true rfl) (fun r11 => ?_)
      exact v_iret (rvf := fun (res : Int32 × Bool × (Nat → Nat → Int64) × (Nat → Int64)) => (some (.int res.1))) (wf := fun (res : Int32 × Bool × (Nat → Nat → Int64) × (Nat → Int64)) => (xW q cs n nd es kn knd kes img tl ta tn sl res.2.1 wt un ed kwt kun ked tb sb sz sbs res.2.2.1 K P res.2.2.2 wh)) C dX5_unanimous_111 rfl rfl
    · refine v_aload_n C 0 dX5_unanimous_56 rfl ?_
      refine v_get C (T := TX5) (n := 10) (C9 := RX5) iX5 0 rfl rfl 0 (by decide) (List.mem_of_getElem? (i := 1) rfl) rfl rfl dX5_unanimous_57 ?_
      refine v_get C (T := TX0) (n := 7) (C9 := RX0) iX0 1 rfl rfl 6 (by decide) (List.mem_of_getElem? (i := 3) rfl) rfl rfl dX5_unanimous_60 ?_
      refine v_iload_n C 1 dX5_unanimous_63 rfl ?_
      refine v_aalda C (ad := fun j9 => q (22 + j9)) 10 3 rfl rfl (fun _ h9 => if_pos h9) dX5_unanimous_64 (fun hb12 => ?_)
      have hj12 := inb_lt hb12
      refine v_iload C 4 dX5_unanimous_65 rfl ?_
      refine v_lald C (22 + a1.toNatClampNeg) 1 (xW_G hj12) rfl dX5_unanimous_67 ?_
      refine v_lstore_nm C (lvf := fun x13 => [(6, .long x13), (0, .ref (q 0)), (1, .int a1), (2, .int a2), (3, .long a3), (5, .int v6)]) dX5_unanimous_68 (by decide) (fun _ => rfl) (fun x13 => ?_)
      refine v_aload_n C 1 dX5_unanimous_70 rfl ?_
      refine v_get C (T := TX5) (n := 10) (C9 := RX5) iX5 0 rfl rfl 7 (by decide) (List.mem_of_getElem? (i := 4) rfl) rfl rfl dX5_unanimous_71 ?_
      refine v_iload C 5 dX5_unanimous_74 rfl ?_
      refine v_iload C 5 dX5_unanimous_76 rfl ?_
      refine v_iload_n C 3 dX5_unanimous_78 rfl ?_
      refine v_iand C dX5_unanimous_79 ?_
      refine v_iload_n C 3 dX5_unanimous_80 rfl ?_
      refine v_jn2 (wj := (fun v15 bey16 => (xW q cs n nd es kn knd kes img tl ta tn sl bey16 wt un ed kwt kun ked tb sb sz sbs G8 K P wk9 wh))) (pcj := 99) (lvj := (fun v15 bey16 => [(0, .ref (q 0)), (1, .int a1), (2, .int a2), (3, .long a3), (5, .int v6)])) (stj := (fun v15 bey16 => [.long v15, .int v6, .ref (q 19)])) (fun v15 bey16 => ?_) (fun k14 hk14 => ?_)
      · refine v_last_nm C (fun wk17 => (xW q cs n nd es kn knd kes img tl ta tn sl bey16 wt un ed kwt kun ked tb sb sz sbs G8 K P wk17 wh)) 19 1 rfl rfl rfl (fun _ => rfl) dX5_unanimous_99 (fun wk17 => ?_)
        refine v_iinc_nm C (lvf := fun x18 => [(5, .int x18), (0, .ref (q 0)), (1, .int a1), (2, .int a2), (3, .long a3)]) 4 dX5_unanimous_100 rfl rfl (by decide) (fun _ => rfl) (fun x18 => ?_)
        refine v_goto C dX5_unanimous_103 (tgt := 44) (by decide) ?_
        exact v_sub [1, 2, 3, 4, 0] rfl (ih x18 bey16 G8 wk17)
      · refine v_icmp_ne C dX5_unanimous_81 (tgt := 97) (by decide) ?_ ?_
        · refine v_lload C 0 dX5_unanimous_97 rfl ?_
          exact v_sub [1, 2, 3, 4, 5] rfl (hk14 x13 bey7)
        · refine v_aload_n C 1 dX5_unanimous_84 rfl ?_
          refine v_get C (T := TX5) (n := 10) (C9 := RX5) iX5 0 rfl rfl 6 (by decide) (List.mem_of_getElem? (i := 2) rfl) rfl rfl dX5_unanimous_85 ?_
          refine v_lload C 0 dX5_unanimous_88 rfl ?_
          refine v_lload_n C 4 dX5_unanimous_90 rfl ?_
          refine v_callV2v C 6 rfl rfl rfl (fun l9 r9 h9 => k_X1_plus (l := l9) hq  h9) gX5_unanimous_X1_plus rfl nI_X1_plus ⟨rfl, rfl, Nat.le_of_ble_eq_true rfl, Nat.le_of_ble_eq_true rfl⟩ dX5_unanimous_91 (Nat.le_of_ble_eq_true rfl) (fun r19 => ?_)
          refine v_goto C dX5_unanimous_94 (tgt := 99) (by decide) ?_
          exact v_sub [1, 2, 3, 4, 5] rfl (hk14 r19.1 r19.2)

set_option maxRecDepth 100000 in
set_option maxHeartbeats 4000000 in
theorem k_X5_unanimous {l : Launch} {a1 : Int32} {a2 : Int32} {a3 : Int64}  {res : Int32 × Bool × (Nat → Nat → Int64) × (Nat → Int64)} (hq : (xA q).Nodup)  (hf : f_X5_unanimous n bey G wk a1 a2 a3 = some res) : kMet l yX5_unanimous wsX5_unanimous { frames := 3, cells := 0, slots := 0, locals := 65 } D vwCl (xT cs) (xN tF) (xA q) [.ref (q 0), .int a1, .int a2, .long a3] (xW q cs n nd es kn knd kes img tl ta tn sl bey wt un ed kwt kun ked tb sb sz sbs G K P wk wh) (some (.int res.1)) (xW q cs n nd es kn knd kes img tl ta tn sl res.2.1 wt un ed kwt kun ked tb sb sz sbs res.2.2.1 K P res.2.2.2 wh) := by
  have iX5 : ∀ w ∈ wsX50, w ∈ wsX5_unanimous := fun _ h => List.mem_cons_of_mem _ (List.mem_append_left _ (List.mem_append_left _ (List.mem_append_right _ h)))
  refine kMet.of (cc := cX5_unanimous) (nL := 8) (ret := (some .int)) (own := RX5) (lv := [(0, .ref (q 0)), (1, .int a1), (2, .int a2), (3, .long a3)]) (by decide +kernel) rfl rfl xN_ok hq (Nat.le_of_ble_eq_true rfl) rfl (fun X C => ?_)
  refine VF.of hf ?_
  unfold f_X5_unanimous
  refine v_iload_n C 1 dX5_unanimous_0 rfl ?_
  refine v_callSP1v C (fun l9 r9 h9 => k_X5_isGame (l := l9) h9) gX5_unanimous_X5_isGame rfl nI_X5_isGame ⟨rfl, rfl, Nat.le_of_ble_eq_true rfl, Nat.le_of_ble_eq_true rfl⟩ dX5_unanimous_1 (Nat.le_of_ble_eq_true rfl) (fun r1 => ?_)
  refine v_ifb_ne C (b := r1) dX5_unanimous_4 (tgt := 9) (by decide) ?_ ?_
  · refine v_aload_n C 0 dX5_unanimous_9 rfl ?_
    refine v_get C (T := TX5) (n := 10) (C9 := RX5) iX5 0 rfl rfl 0 (by decide) (List.mem_of_getElem? (i := 1) rfl) rfl rfl dX5_unanimous_10 ?_
    refine v_iload_n C 2 dX5_unanimous_13 rfl ?_
    refine v_callV1v C 1 rfl rfl rfl (fun l9 r9 h9 => k_X0_hasSet (l := l9) hq  h9) gX5_unanimous_X0_hasSet rfl nI_X0_hasSet ⟨rfl, rfl, Nat.le_of_ble_eq_true rfl, Nat.le_of_ble_eq_true rfl⟩ dX5_unanimous_14 (Nat.le_of_ble_eq_true rfl) (fun r2 => ?_)
    refine v_ifb_eq C (b := r2) dX5_unanimous_17 (tgt := 31) (by decide) ?_ ?_
    · refine v_bipush C dX5_unanimous_31 (v := (-2)) (by decide) ?_
      exact v_iret (rvf := fun (res : Int32 × Bool × (Nat → Nat → Int64) × (Nat → Int64)) => (some (.int res.1))) (wf := fun (res : Int32 × Bool × (Nat → Nat → Int64) × (Nat → Int64)) => (xW q cs n nd es kn knd kes img tl ta tn sl res.2.1 wt un ed kwt kun ked tb sb sz sbs res.2.2.1 K P res.2.2.2 wh)) C dX5_unanimous_33 rfl rfl
    · refine v_iload_n C 2 dX5_unanimous_20 rfl ?_
      refine v_if_eq C dX5_unanimous_21 (tgt := 31) (by decide) ?_ ?_
      · refine v_bipush C dX5_unanimous_31 (v := (-2)) (by decide) ?_
        exact v_iret (rvf := fun (res : Int32 × Bool × (Nat → Nat → Int64) × (Nat → Int64)) => (some (.int res.1))) (wf := fun (res : Int32 × Bool × (Nat → Nat → Int64) × (Nat → Int64)) => (xW q cs n nd es kn knd kes img tl ta tn sl res.2.1 wt un ed kwt kun ked tb sb sz sbs res.2.2.1 K P res.2.2.2 wh)) C dX5_unanimous_33 rfl rfl
      · refine v_lload_n C 3 dX5_unanimous_24 rfl ?_
        refine v_callSP1v C (fun l9 r9 h9 => k_X5_isToldValue (l := l9) h9) gX5_unanimous_X5_isToldValue rfl nI_X5_isToldValue ⟨rfl, rfl, Nat.le_of_ble_eq_true rfl, Nat.le_of_ble_eq_true rfl⟩ dX5_unanimous_25 (Nat.le_of_ble_eq_true rfl) (fun r3 => ?_)
        refine v_ifb_ne C (b := r3) dX5_unanimous_28 (tgt := 34) (by decide) ?_ ?_
        · refine v_aload_n C 0 dX5_unanimous_34 rfl ?_
          refine v_get C (T := TX5) (n := 10) (C9 := RX5) iX5 0 rfl rfl 6 (by decide) (List.mem_of_getElem? (i := 2) rfl) rfl rfl dX5_unanimous_35 ?_
          refine v_callV0n C 6 rfl rfl rfl (fun l9 r9 h9 => k_X1_begin (l := l9) hq  h9) gX5_unanimous_X1_begin rfl nI_X1_begin ⟨rfl, rfl, Nat.le_of_ble_eq_true rfl, Nat.le_of_ble_eq_true rfl⟩ dX5_unanimous_38 (Nat.le_of_ble_eq_true rfl) (fun r4 => ?_)
          refine v_iconst C dX5_unanimous_41 (v := 0) (by decide) ?_
          refine v_istore C (lv' := [(5, .int 0), (0, .ref (q 0)), (1, .int a1), (2, .int a2), (3, .long a3)]) dX5_unanimous_42 (by decide) rfl ?_
          refine v_sub [1, 2, 3, 4, 0] rfl (lp_X5_unanimous_1 hq C   FU 0 r4 G wk)
        · refine v_bipush C dX5_unanimous_31 (v := (-2)) (by decide) ?_
          exact v_iret (rvf := fun (res : Int32 × Bool × (Nat → Nat → Int64) × (Nat → Int64)) => (some (.int res.1))) (wf := fun (res : Int32 × Bool × (Nat → Nat → Int64) × (Nat → Int64)) => (xW q cs n nd es kn knd kes img tl ta tn sl res.2.1 wt un ed kwt kun ked tb sb sz sbs res.2.2.1 K P res.2.2.2 wh)) C dX5_unanimous_33 rfl rfl
  · refine v_iconst C dX5_unanimous_7 (v := (-1)) (by decide) ?_
    exact v_iret (rvf := fun (res : Int32 × Bool × (Nat → Nat → Int64) × (Nat → Int64)) => (some (.int res.1))) (wf := fun (res : Int32 × Bool × (Nat → Nat → Int64) × (Nat → Int64)) => (xW q cs n nd es kn knd kes img tl ta tn sl res.2.1 wt un ed kwt kun ked tb sb sz sbs res.2.2.1 K P res.2.2.2 wh)) C dX5_unanimous_8 rfl rfl

def f_X5_without (n : Int32) (G : Nat → Nat → Int64) (wk : Nat → Int64) (a1 : Int32) (a2 : Int32) : Option (Int32 × (Nat → Nat → Int64) × (Nat → Int64)) :=
(f_X5_isGame a1).bind (fun (r1 : Bool) =>
if r1 = true then (
(f_X0_hasPartner n a2).bind (fun (r2 : Bool) =>
if r2 = true then (
(f_X0_everyone n).bind (fun (r3 : Int32) =>
(f_X5_settleParts n G wk a1 (r3 &&& ((1 <<< (a2 &&& 31)) ^^^ (-1)))).bind (fun (r4 : Int32 × (Nat → Nat → Int64) × (Nat → Int64)) =>
some (r4.1, r4.2.1, r4.2.2)))) else (
some ((-1), G, wk)))) else (
some ((-1), G, wk)))

theorem nI_X5_without : NameIn yX5_without 2 := ⟨by decide +kernel, by decide +kernel, by decide +kernel⟩
set_option maxRecDepth 100000 in
set_option maxHeartbeats 4000000 in
theorem k_X5_without {l : Launch} {a1 : Int32} {a2 : Int32}  {res : Int32 × (Nat → Nat → Int64) × (Nat → Int64)} (hq : (xA q).Nodup)  (hf : f_X5_without n G wk a1 a2 = some res) : kMet l yX5_without wsX5_without { frames := 3, cells := 0, slots := 0, locals := 67 } D vwCl (xT cs) (xN tF) (xA q) [.ref (q 0), .int a1, .int a2] (xW q cs n nd es kn knd kes img tl ta tn sl bey wt un ed kwt kun ked tb sb sz sbs G K P wk wh) (some (.int res.1)) (xW q cs n nd es kn knd kes img tl ta tn sl bey wt un ed kwt kun ked tb sb sz sbs res.2.1 K P res.2.2 wh) := by
  have iX5 : ∀ w ∈ wsX50, w ∈ wsX5_without := fun _ h => List.mem_cons_of_mem _ (List.mem_append_left _ (List.mem_append_right _ h))
  refine kMet.of (cc := cX5_without) (nL := 3) (ret := (some .int)) (own := RX5) (lv := [(0, .ref (q 0)), (1, .int a1), (2, .int a2)]) (by decide +kernel) rfl rfl xN_ok hq (Nat.le_of_ble_eq_true rfl) rfl (fun X C => ?_)
  refine VF.of hf ?_
  unfold f_X5_without
  refine v_iload_n C 1 dX5_without_0 rfl ?_
  refine v_callSP1v C (fun l9 r9 h9 => k_X5_isGame (l := l9) h9) gX5_without_X5_isGame rfl nI_X5_isGame ⟨rfl, rfl, Nat.le_of_ble_eq_true rfl, Nat.le_of_ble_eq_true rfl⟩ dX5_without_1 (Nat.le_of_ble_eq_true rfl) (fun r1 => ?_)
  refine v_ifb_eq C (b := r1) dX5_without_4 (tgt := 18) (by decide) ?_ ?_
  · refine v_iconst C dX5_without_18 (v := (-1)) (by decide) ?_
    exact v_iret (rvf := fun (res : Int32 × (Nat → Nat → Int64) × (Nat → Int64)) => (some (.int res.1))) (wf := fun (res : Int32 × (Nat → Nat → Int64) × (Nat → Int64)) => (xW q cs n nd es kn knd kes img tl ta tn sl bey wt un ed kwt kun ked tb sb sz sbs res.2.1 K P res.2.2 wh)) C dX5_without_19 rfl rfl
  · refine v_aload_n C 0 dX5_without_7 rfl ?_
    refine v_get C (T := TX5) (n := 10) (C9 := RX5) iX5 0 rfl rfl 0 (by decide) (List.mem_of_getElem? (i := 1) rfl) rfl rfl dX5_without_8 ?_
    refine v_iload_n C 2 dX5_without_11 rfl ?_
    refine v_callV1v C 1 rfl rfl rfl (fun l9 r9 h9 => k_X0_hasPartner (l := l9) hq  h9) gX5_without_X0_hasPartner rfl nI_X0_hasPartner ⟨rfl, rfl, Nat.le_of_ble_eq_true rfl, Nat.le_of_ble_eq_true rfl⟩ dX5_without_12 (Nat.le_of_ble_eq_true rfl) (fun r2 => ?_)
    refine v_ifb_ne C (b := r2) dX5_without_15 (tgt := 20) (by decide) ?_ ?_
    · refine v_aload_n C 0 dX5_without_20 rfl ?_
      refine v_iload_n C 1 dX5_without_21 rfl ?_
      refine v_aload_n C 0 dX5_without_22 rfl ?_
      refine v_get C (T := TX5) (n := 10) (C9 := RX5) iX5 0 rfl rfl 0 (by decide) (List.mem_of_getElem? (i := 1) rfl) rfl rfl dX5_without_23 ?_
      refine v_callV0v C 1 rfl rfl rfl (fun l9 r9 h9 => k_X0_everyone (l := l9) hq  h9) gX5_without_X0_everyone rfl nI_X0_everyone ⟨rfl, rfl, Nat.le_of_ble_eq_true rfl, Nat.le_of_ble_eq_true rfl⟩ dX5_without_26 (Nat.le_of_ble_eq_true rfl) (fun r3 => ?_)
      refine v_iconst C dX5_without_29 (v := 1) (by decide) ?_
      refine v_iload_n C 2 dX5_without_30 rfl ?_
      refine v_ishl C dX5_without_31 ?_
      refine v_iconst C dX5_without_32 (v := (-1)) (by decide) ?_
      refine v_ixor C dX5_without_33 ?_
      refine v_iand C dX5_without_34 ?_
      refine v_callV2v C 0 rfl rfl rfl (fun l9 r9 h9 => k_X5_settleParts (l := l9) hq  h9) gX5_without_X5_settleParts rfl nI_X5_settleParts ⟨rfl, rfl, Nat.le_of_ble_eq_true rfl, Nat.le_of_ble_eq_true rfl⟩ dX5_without_35 (Nat.le_of_ble_eq_true rfl) (fun r4 => ?_)
      exact v_iret (rvf := fun (res : Int32 × (Nat → Nat → Int64) × (Nat → Int64)) => (some (.int res.1))) (wf := fun (res : Int32 × (Nat → Nat → Int64) × (Nat → Int64)) => (xW q cs n nd es kn knd kes img tl ta tn sl bey wt un ed kwt kun ked tb sb sz sbs res.2.1 K P res.2.2 wh)) C dX5_without_38 rfl rfl
    · refine v_iconst C dX5_without_18 (v := (-1)) (by decide) ?_
      exact v_iret (rvf := fun (res : Int32 × (Nat → Nat → Int64) × (Nat → Int64)) => (some (.int res.1))) (wf := fun (res : Int32 × (Nat → Nat → Int64) × (Nat → Int64)) => (xW q cs n nd es kn knd kes img tl ta tn sl bey wt un ed kwt kun ked tb sb sz sbs res.2.1 K P res.2.2 wh)) C dX5_without_19 rfl rfl

def B_X5_join_1 (n : Int32) (a1 : Int32) (a2 : Int32) (x3 : Int32) (rec4 : Int32 → (Nat → Nat → Int64) → (Nat → Int64) → Option (Int32 × (Nat → Nat → Int64) × (Nat → Int64)))  (v5 : Int32) (G6 : Nat → Nat → Int64) (wk7 : Nat → Int64) : Option (Int32 × (Nat → Nat → Int64) × (Nat → Int64)) :=
(f_X0_sets n).bind (fun (r8 : Int32) =>
if (v5 : Int32) < r8 then (
(f_X5_has v5 a2).bind (fun (r10 : Bool) =>
ck (inb a1 4) (
jn1 (fun (v13 : Int32) =>
ck (inb v13 512) (
ck (inb v5 512) (
nm (vp_updL wk7 v5.toNatClampNeg ((G6 a1.toNatClampNeg) v13.toNatClampNeg)) (fun (wk14 : Nat → Int64) =>
nm (v5 + 1) (fun (x15 : Int32) =>
rec4 x15 G6 wk14))))) (fun k12 =>
if r10 = true then (
k12 (v5 ||| x3)) else (
k12 (v5 &&& (x3 ^^^ (-1)))))))) else (
(f_X5_settle n G6 wk7 a1).bind (fun (r9 : Int32 × (Nat → Nat → Int64)) =>
some (r9.1, r9.2, wk7))))
def L_X5_join_1 (n : Int32) (a1 : Int32) (a2 : Int32) (x3 : Int32)  : Nat → Int32 → (Nat → Nat → Int64) → (Nat → Int64) → Option (Int32 × (Nat → Nat → Int64) × (Nat → Int64))
  | 0, _, _, _ => none
  | m9 + 1, v5, G6, wk7 => B_X5_join_1 n a1 a2 x3 (L_X5_join_1 n a1 a2 x3 m9)  v5 G6 wk7

def f_X5_join (n : Int32) (G : Nat → Nat → Int64) (wk : Nat → Int64) (a1 : Int32) (a2 : Int32) (a3 : Int32) : Option (Int32 × (Nat → Nat → Int64) × (Nat → Int64)) :=
(f_X5_isGame a1).bind (fun (r1 : Bool) =>
if r1 = true then (
(f_X0_hasTwo n a2 a3).bind (fun (r2 : Bool) =>
if r2 = true then (
nm ((1 <<< (a2 &&& 31)) ||| (1 <<< (a3 &&& 31))) (fun (x3 : Int32) =>
L_X5_join_1 n a1 a2 x3  FU 0 G wk)) else (
some ((-1), G, wk)))) else (
some ((-1), G, wk)))

theorem nI_X5_join : NameIn yX5_join 3 := ⟨by decide +kernel, by decide +kernel, by decide +kernel⟩
set_option maxRecDepth 100000 in
set_option maxHeartbeats 4000000 in
theorem lp_X5_join_1 {X : CX} {res : Int32 × (Nat → Nat → Int64) × (Nat → Int64)} {a1 : Int32} {a2 : Int32}  {x3 : Int32} (hq : (xA q).Nodup) (C : Ok X cX5_join 7 (some .int) wsX5_join RX5 { frames := 2, cells := 0, slots := 0, locals := 44 } D vwCl (xT cs) (xA q) (xN tF) (some (.int res.1)) (xW q cs n nd es kn knd kes img tl ta tn sl bey wt un ed kwt kun ked tb sb sz sbs res.2.1 K P res.2.2 wh))  : ∀ fuel : Nat, ∀ v5 : Int32, ∀ G6 : Nat → Nat → Int64, ∀ wk7 : Nat → Int64, VF X res (L_X5_join_1 n a1 a2 x3 fuel v5 G6 wk7) (xW q cs n nd es kn knd kes img tl ta tn sl bey wt un ed kwt kun ked tb sb sz sbs G6 K P wk7 wh) 33 [(0, .ref (q 0)), (1, .int a1), (2, .int a2), (4, .int x3), (5, .int v5)] [] := by
  have iX0 : ∀ w ∈ wsX00, w ∈ wsX5_join := fun _ h => List.mem_cons_of_mem _ (List.mem_append_right _ h)
  have iX5 : ∀ w ∈ wsX50, w ∈ wsX5_join := fun _ h => List.mem_cons_of_mem _ (List.mem_append_left _ (List.mem_append_right _ h))
  intro fuel
  induction fuel with
  | zero =>
    intro _ _ _
    exact v_none
  | succ fuel ih =>
    intro v5 G6 wk7
    show VF X res (B_X5_join_1 n a1 a2 x3 (L_X5_join_1 n a1 a2 x3 fuel)  v5 G6 wk7) _ _ _ _
    unfold B_X5_join_1
    refine v_iload C 4 dX5_join_33 rfl ?_
    refine v_aload_n C 0 dX5_join_35 rfl ?_
    refine v_get C (T := TX5) (n := 10) (C9 := RX5) iX5 0 rfl rfl 0 (by decide) (List.mem_of_getElem? (i := 1) rfl) rfl rfl dX5_join_36 ?_
    refine v_callV0v C 1 rfl rfl rfl (fun l9 r9 h9 => k_X0_sets (l := l9) hq  h9) gX5_join_X0_sets rfl nI_X0_sets ⟨rfl, rfl, Nat.le_of_ble_eq_true rfl, Nat.le_of_ble_eq_true rfl⟩ dX5_join_39 (Nat.le_of_ble_eq_true rfl) (fun r8 => ?_)
    refine v_icmp_ge C dX5_join_42 (tgt := 96) (by decide) ?_ ?_
    · refine v_aload_n C 0 dX5_join_96 rfl ?_
      refine v_iload_n C 1 dX5_join_97 rfl ?_
      refine v_callV1v C 0 rfl rfl rfl (fun l9 r9 h9 => k_X5_settle (l := l9) hq  h9) gX5_join_X5_settle rfl nI_X5_settle ⟨rfl, rfl, Nat.le_of_ble_eq_true rfl, Nat.le_of_ble_eq_true rfl⟩ dX5_join_98 (Nat.le_of_ble_eq_true rfl) (fun r9 => ?_)
      exact v_iret (rvf := fun (res : Int32 × (Nat → Nat → Int64) × (Nat → Int64)) => (some (.int res.1))) (wf := fun (res : Int32 × (Nat → Nat → Int64) × (Nat → Int64)) => (xW q cs n nd es kn knd kes img tl ta tn sl bey wt un ed kwt kun ked tb sb sz sbs res.2.1 K P res.2.2 wh)) C dX5_join_101 rfl rfl
    · refine v_iload C 4 dX5_join_45 rfl ?_
      refine v_iload_n C 2 dX5_join_47 rfl ?_
      refine v_callSP2v C (fun l9 r9 h9 => k_X5_has (l := l9) h9) gX5_join_X5_has rfl nI_X5_has ⟨rfl, rfl, Nat.le_of_ble_eq_true rfl, Nat.le_of_ble_eq_true rfl⟩ dX5_join_48 (Nat.le_of_ble_eq_true rfl) (fun r10 => ?_)
      refine v_istore C (lv' := [(6, .int (bI r10)), (0, .ref (q 0)), (1, .int a1), (2, .int a2), (4, .int x3), (5, .int v5)]) dX5_join_51 (by decide) rfl ?_
      refine v_aload_n C 1 dX5_join_53 rfl ?_
      refine v_get C (T := TX5) (n := 10) (C9 := RX5) iX5 0 rfl rfl 7 (by decide) (List.mem_of_getElem? (i := 2) rfl) rfl rfl dX5_join_54 ?_
      refine v_iload C 5 dX5_join_57 rfl ?_
      refine v_aload_n C 1 dX5_join_59 rfl ?_
      refine v_get C (T := TX5) (n := 10) (C9 := RX5) iX5 0 rfl rfl 0 (by decide) (List.mem_of_getElem? (i := 1) rfl) rfl rfl dX5_join_60 ?_
      refine v_get C (T := TX0) (n := 7) (C9 := RX0) iX0 1 rfl rfl 6 (by decide) (List.mem_of_getElem? (i := 3) rfl) rfl rfl dX5_join_63 ?_
      refine v_iload_n C 2 dX5_join_66 rfl ?_
      refine v_aalda C (ad := fun j9 => q (22 + j9)) 10 3 rfl rfl (fun _ h9 => if_pos h9) dX5_join_67 (fun hb11 => ?_)
      have hj11 := inb_lt hb11
      refine v_iload C 0 dX5_join_68 rfl ?_
      refine v_jn1 (wj := (fun v13 => (xW q cs n nd es kn knd kes img tl ta tn sl bey wt un ed kwt kun ked tb sb sz sbs G6 K P wk7 wh))) (pcj := 88) (lvj := (fun v13 => [(0, .ref (q 0)), (1, .int a1), (2, .int a2), (4, .int x3), (5, .int v5)])) (stj := (fun v13 => [.int v13, .ref (q (22 + a1.toNatClampNeg)), .int v5, .ref (q 19)])) (fun v13 => ?_) (fun k12 hk12 => ?_)
      · refine v_lald C (22 + a1.toNatClampNeg) 1 (xW_G hj11) rfl dX5_join_88 ?_
        refine v_last_nm C (fun wk14 => (xW q cs n nd es kn knd kes img tl ta tn sl bey wt un ed kwt kun ked tb sb sz sbs G6 K P wk14 wh)) 19 1 rfl rfl rfl (fun _ => rfl) dX5_join_89 (fun wk14 => ?_)
        refine v_iinc_nm C (lvf := fun x15 => [(5, .int x15), (0, .ref (q 0)), (1, .int a1), (2, .int a2), (4, .int x3)]) 4 dX5_join_90 rfl rfl (by decide) (fun _ => rfl) (fun x15 => ?_)
        refine v_goto C dX5_join_93 (tgt := 33) (by decide) ?_
        exact v_sub [1, 2, 3, 4, 0] rfl (ih x15 G6 wk14)
      · refine v_ifb_eq C (b := r10) dX5_join_70 (tgt := 81) (by decide) ?_ ?_
        · refine v_iload C 5 dX5_join_81 rfl ?_
          refine v_iload C 4 dX5_join_83 rfl ?_
          refine v_iconst C dX5_join_85 (v := (-1)) (by decide) ?_
          refine v_ixor C dX5_join_86 ?_
          refine v_iand C dX5_join_87 ?_
          exact v_sub [1, 2, 3, 4, 5] rfl (hk12 (v5 &&& (x3 ^^^ (-1))))
        · refine v_iload C 5 dX5_join_73 rfl ?_
          refine v_iload C 4 dX5_join_75 rfl ?_
          refine v_ior C dX5_join_77 ?_
          refine v_goto C dX5_join_78 (tgt := 88) (by decide) ?_
          exact v_sub [1, 2, 3, 4, 5] rfl (hk12 (v5 ||| x3))

set_option maxRecDepth 100000 in
set_option maxHeartbeats 4000000 in
theorem k_X5_join {l : Launch} {a1 : Int32} {a2 : Int32} {a3 : Int32}  {res : Int32 × (Nat → Nat → Int64) × (Nat → Int64)} (hq : (xA q).Nodup)  (hf : f_X5_join n G wk a1 a2 a3 = some res) : kMet l yX5_join wsX5_join { frames := 2, cells := 0, slots := 0, locals := 44 } D vwCl (xT cs) (xN tF) (xA q) [.ref (q 0), .int a1, .int a2, .int a3] (xW q cs n nd es kn knd kes img tl ta tn sl bey wt un ed kwt kun ked tb sb sz sbs G K P wk wh) (some (.int res.1)) (xW q cs n nd es kn knd kes img tl ta tn sl bey wt un ed kwt kun ked tb sb sz sbs res.2.1 K P res.2.2 wh) := by
  have iX5 : ∀ w ∈ wsX50, w ∈ wsX5_join := fun _ h => List.mem_cons_of_mem _ (List.mem_append_left _ (List.mem_append_right _ h))
  refine kMet.of (cc := cX5_join) (nL := 7) (ret := (some .int)) (own := RX5) (lv := [(0, .ref (q 0)), (1, .int a1), (2, .int a2), (3, .int a3)]) (by decide +kernel) rfl rfl xN_ok hq (Nat.le_of_ble_eq_true rfl) rfl (fun X C => ?_)
  refine VF.of hf ?_
  unfold f_X5_join
  refine v_iload_n C 1 dX5_join_0 rfl ?_
  refine v_callSP1v C (fun l9 r9 h9 => k_X5_isGame (l := l9) h9) gX5_join_X5_isGame rfl nI_X5_isGame ⟨rfl, rfl, Nat.le_of_ble_eq_true rfl, Nat.le_of_ble_eq_true rfl⟩ dX5_join_1 (Nat.le_of_ble_eq_true rfl) (fun r1 => ?_)
  refine v_ifb_eq C (b := r1) dX5_join_4 (tgt := 19) (by decide) ?_ ?_
  · refine v_iconst C dX5_join_19 (v := (-1)) (by decide) ?_
    exact v_iret (rvf := fun (res : Int32 × (Nat → Nat → Int64) × (Nat → Int64)) => (some (.int res.1))) (wf := fun (res : Int32 × (Nat → Nat → Int64) × (Nat → Int64)) => (xW q cs n nd es kn knd kes img tl ta tn sl bey wt un ed kwt kun ked tb sb sz sbs res.2.1 K P res.2.2 wh)) C dX5_join_20 rfl rfl
  · refine v_aload_n C 0 dX5_join_7 rfl ?_
    refine v_get C (T := TX5) (n := 10) (C9 := RX5) iX5 0 rfl rfl 0 (by decide) (List.mem_of_getElem? (i := 1) rfl) rfl rfl dX5_join_8 ?_
    refine v_iload_n C 2 dX5_join_11 rfl ?_
    refine v_iload_n C 3 dX5_join_12 rfl ?_
    refine v_callV2v C 1 rfl rfl rfl (fun l9 r9 h9 => k_X0_hasTwo (l := l9) hq  h9) gX5_join_X0_hasTwo rfl nI_X0_hasTwo ⟨rfl, rfl, Nat.le_of_ble_eq_true rfl, Nat.le_of_ble_eq_true rfl⟩ dX5_join_13 (Nat.le_of_ble_eq_true rfl) (fun r2 => ?_)
    refine v_ifb_ne C (b := r2) dX5_join_16 (tgt := 21) (by decide) ?_ ?_
    · refine v_iconst C dX5_join_21 (v := 1) (by decide) ?_
      refine v_iload_n C 2 dX5_join_22 rfl ?_
      refine v_ishl C dX5_join_23 ?_
      refine v_iconst C dX5_join_24 (v := 1) (by decide) ?_
      refine v_iload_n C 3 dX5_join_25 rfl ?_
      refine v_ishl C dX5_join_26 ?_
      refine v_ior C dX5_join_27 ?_
      refine v_istore_nm C (lvf := fun x3 => [(4, .int x3), (0, .ref (q 0)), (1, .int a1), (2, .int a2), (3, .int a3)]) dX5_join_28 (by decide) (fun _ => rfl) (fun x3 => ?_)
      refine v_iconst C dX5_join_30 (v := 0) (by decide) ?_
      refine v_istore C (lv' := [(5, .int 0), (4, .int x3), (0, .ref (q 0)), (1, .int a1), (2, .int a2), (3, .int a3)]) dX5_join_31 (by decide) rfl ?_
      refine v_sub [2, 3, 4, 1, 0] rfl (lp_X5_join_1 hq C   FU 0 G wk)
    · refine v_iconst C dX5_join_19 (v := (-1)) (by decide) ?_
      exact v_iret (rvf := fun (res : Int32 × (Nat → Nat → Int64) × (Nat → Int64)) => (some (.int res.1))) (wf := fun (res : Int32 × (Nat → Nat → Int64) × (Nat → Int64)) => (xW q cs n nd es kn knd kes img tl ta tn sl bey wt un ed kwt kun ked tb sb sz sbs res.2.1 K P res.2.2 wh)) C dX5_join_20 rfl rfl

def B_X5_swap_1 (n : Int32) (a1 : Int32) (a2 : Int32) (a3 : Int32) (x4 : Int32) (rec5 : Int32 → (Nat → Nat → Int64) → (Nat → Int64) → Option (Int32 × (Nat → Nat → Int64) × (Nat → Int64)))  (v6 : Int32) (G7 : Nat → Nat → Int64) (wk8 : Nat → Int64) : Option (Int32 × (Nat → Nat → Int64) × (Nat → Int64)) :=
(f_X0_sets n).bind (fun (r9 : Int32) =>
if (v6 : Int32) < r9 then (
(f_X5_has v6 a2).bind (fun (r11 : Bool) =>
(f_X5_has v6 a3).bind (fun (r12 : Bool) =>
jn1 (fun (v14 : Bool) =>
ck (inb a1 4) (
jn1 (fun (v17 : Int32) =>
ck (inb v17 512) (
ck (inb v6 512) (
nm (vp_updL wk8 v6.toNatClampNeg ((G7 a1.toNatClampNeg) v17.toNatClampNeg)) (fun (wk18 : Nat → Int64) =>
nm (v6 + 1) (fun (x19 : Int32) =>
rec5 x19 G7 wk18))))) (fun k16 =>
if v14 = true then (
k16 (v6 ^^^ x4)) else (
k16 v6)))) (fun k13 =>
if (bI r11 : Int32) = (bI r12) then (
k13 false) else (
k13 true))))) else (
(f_X5_settle n G7 wk8 a1).bind (fun (r10 : Int32 × (Nat → Nat → Int64)) =>
some (r10.1, r10.2, wk8))))
def L_X5_swap_1 (n : Int32) (a1 : Int32) (a2 : Int32) (a3 : Int32) (x4 : Int32)  : Nat → Int32 → (Nat → Nat → Int64) → (Nat → Int64) → Option (Int32 × (Nat → Nat → Int64) × (Nat → Int64))
  | 0, _, _, _ => none
  | m9 + 1, v6, G7, wk8 => B_X5_swap_1 n a1 a2 a3 x4 (L_X5_swap_1 n a1 a2 a3 x4 m9)  v6 G7 wk8

def f_X5_swap (n : Int32) (G : Nat → Nat → Int64) (wk : Nat → Int64) (a1 : Int32) (a2 : Int32) (a3 : Int32) : Option (Int32 × (Nat → Nat → Int64) × (Nat → Int64)) :=
(f_X5_isGame a1).bind (fun (r1 : Bool) =>
if r1 = true then (
(f_X0_hasPartner n a2).bind (fun (r2 : Bool) =>
if r2 = true then (
(f_X0_hasPartner n a3).bind (fun (r3 : Bool) =>
if r3 = true then (
nm ((1 <<< (a2 &&& 31)) ||| (1 <<< (a3 &&& 31))) (fun (x4 : Int32) =>
L_X5_swap_1 n a1 a2 a3 x4  FU 0 G wk)) else (
some ((-1), G, wk)))) else (
some ((-1), G, wk)))) else (
some ((-1), G, wk)))

theorem nI_X5_swap : NameIn yX5_swap 3 := ⟨by decide +kernel, by decide +kernel, by decide +kernel⟩
set_option maxRecDepth 100000 in
set_option maxHeartbeats 4000000 in
theorem lp_X5_swap_1 {X : CX} {res : Int32 × (Nat → Nat → Int64) × (Nat → Int64)} {a1 : Int32} {a2 : Int32} {a3 : Int32}  {x4 : Int32} (hq : (xA q).Nodup) (C : Ok X cX5_swap 7 (some .int) wsX5_swap RX5 { frames := 2, cells := 0, slots := 0, locals := 44 } D vwCl (xT cs) (xA q) (xN tF) (some (.int res.1)) (xW q cs n nd es kn knd kes img tl ta tn sl bey wt un ed kwt kun ked tb sb sz sbs res.2.1 K P res.2.2 wh))  : ∀ fuel : Nat, ∀ v6 : Int32, ∀ G7 : Nat → Nat → Int64, ∀ wk8 : Nat → Int64, VF X res (L_X5_swap_1 n a1 a2 a3 x4 fuel v6 G7 wk8) (xW q cs n nd es kn knd kes img tl ta tn sl bey wt un ed kwt kun ked tb sb sz sbs G7 K P wk8 wh) 43 [(0, .ref (q 0)), (1, .int a1), (2, .int a2), (3, .int a3), (4, .int x4), (5, .int v6)] [] := by
  have iX0 : ∀ w ∈ wsX00, w ∈ wsX5_swap := fun _ h => List.mem_cons_of_mem _ (List.mem_append_right _ h)
  have iX5 : ∀ w ∈ wsX50, w ∈ wsX5_swap := fun _ h => List.mem_cons_of_mem _ (List.mem_append_left _ (List.mem_append_right _ h))
  intro fuel
  induction fuel with
  | zero =>
    intro _ _ _
    exact v_none
  | succ fuel ih =>
    intro v6 G7 wk8
    show VF X res (B_X5_swap_1 n a1 a2 a3 x4 (L_X5_swap_1 n a1 a2 a3 x4 fuel)  v6 G7 wk8) _ _ _ _
    unfold B_X5_swap_1
    refine v_iload C 5 dX5_swap_43 rfl ?_
    refine v_aload_n C 0 dX5_swap_45 rfl ?_
    refine v_get C (T := TX5) (n := 10) (C9 := RX5) iX5 0 rfl rfl 0 (by decide) (List.mem_of_getElem? (i := 1) rfl) rfl rfl dX5_swap_46 ?_
    refine v_callV0v C 1 rfl rfl rfl (fun l9 r9 h9 => k_X0_sets (l := l9) hq  h9) gX5_swap_X0_sets rfl nI_X0_sets ⟨rfl, rfl, Nat.le_of_ble_eq_true rfl, Nat.le_of_ble_eq_true rfl⟩ dX5_swap_49 (Nat.le_of_ble_eq_true rfl) (fun r9 => ?_)
    refine v_icmp_ge C dX5_swap_52 (tgt := 115) (by decide) ?_ ?_
    · refine v_aload_n C 0 dX5_swap_115 rfl ?_
      refine v_iload_n C 1 dX5_swap_116 rfl ?_
      refine v_callV1v C 0 rfl rfl rfl (fun l9 r9 h9 => k_X5_settle (l := l9) hq  h9) gX5_swap_X5_settle rfl nI_X5_settle ⟨rfl, rfl, Nat.le_of_ble_eq_true rfl, Nat.le_of_ble_eq_true rfl⟩ dX5_swap_117 (Nat.le_of_ble_eq_true rfl) (fun r10 => ?_)
      exact v_iret (rvf := fun (res : Int32 × (Nat → Nat → Int64) × (Nat → Int64)) => (some (.int res.1))) (wf := fun (res : Int32 × (Nat → Nat → Int64) × (Nat → Int64)) => (xW q cs n nd es kn knd kes img tl ta tn sl bey wt un ed kwt kun ked tb sb sz sbs res.2.1 K P res.2.2 wh)) C dX5_swap_120 rfl rfl
    · refine v_iload C 5 dX5_swap_55 rfl ?_
      refine v_iload_n C 2 dX5_swap_57 rfl ?_
      refine v_callSP2v C (fun l9 r9 h9 => k_X5_has (l := l9) h9) gX5_swap_X5_has rfl nI_X5_has ⟨rfl, rfl, Nat.le_of_ble_eq_true rfl, Nat.le_of_ble_eq_true rfl⟩ dX5_swap_58 (Nat.le_of_ble_eq_true rfl) (fun r11 => ?_)
      refine v_iload C 5 dX5_swap_61 rfl ?_
      refine v_iload_n C 3 dX5_swap_63 rfl ?_
      refine v_callSP2v C (fun l9 r9 h9 => k_X5_has (l := l9) h9) gX5_swap_X5_has rfl nI_X5_has ⟨rfl, rfl, Nat.le_of_ble_eq_true rfl, Nat.le_of_ble_eq_true rfl⟩ dX5_swap_64 (Nat.le_of_ble_eq_true rfl) (fun r12 => ?_)
      refine v_jn1 (wj := (fun v14 => (xW q cs n nd es kn knd kes img tl ta tn sl bey wt un ed kwt kun ked tb sb sz sbs G7 K P wk8 wh))) (pcj := 75) (lvj := (fun v14 => [(0, .ref (q 0)), (1, .int a1), (2, .int a2), (3, .int a3), (4, .int x4), (5, .int v6)])) (stj := (fun v14 => [.int (bI v14)])) (fun v14 => ?_) (fun k13 hk13 => ?_)
      · refine v_istore C (lv' := [(6, .int (bI v14)), (0, .ref (q 0)), (1, .int a1), (2, .int a2), (3, .int a3), (4, .int x4), (5, .int v6)]) dX5_swap_75 (by decide) rfl ?_
        refine v_aload_n C 1 dX5_swap_77 rfl ?_
        refine v_get C (T := TX5) (n := 10) (C9 := RX5) iX5 0 rfl rfl 7 (by decide) (List.mem_of_getElem? (i := 2) rfl) rfl rfl dX5_swap_78 ?_
        refine v_iload C 6 dX5_swap_81 rfl ?_
        refine v_aload_n C 1 dX5_swap_83 rfl ?_
        refine v_get C (T := TX5) (n := 10) (C9 := RX5) iX5 0 rfl rfl 0 (by decide) (List.mem_of_getElem? (i := 1) rfl) rfl rfl dX5_swap_84 ?_
        refine v_get C (T := TX0) (n := 7) (C9 := RX0) iX0 1 rfl rfl 6 (by decide) (List.mem_of_getElem? (i := 3) rfl) rfl rfl dX5_swap_87 ?_
        refine v_iload_n C 2 dX5_swap_90 rfl ?_
        refine v_aalda C (ad := fun j9 => q (22 + j9)) 10 3 rfl rfl (fun _ h9 => if_pos h9) dX5_swap_91 (fun hb15 => ?_)
        have hj15 := inb_lt hb15
        refine v_iload C 0 dX5_swap_92 rfl ?_
        refine v_jn1 (wj := (fun v17 => (xW q cs n nd es kn knd kes img tl ta tn sl bey wt un ed kwt kun ked tb sb sz sbs G7 K P wk8 wh))) (pcj := 107) (lvj := (fun v17 => [(0, .ref (q 0)), (1, .int a1), (2, .int a2), (3, .int a3), (4, .int x4), (5, .int v6)])) (stj := (fun v17 => [.int v17, .ref (q (22 + a1.toNatClampNeg)), .int v6, .ref (q 19)])) (fun v17 => ?_) (fun k16 hk16 => ?_)
        · refine v_lald C (22 + a1.toNatClampNeg) 1 (xW_G hj15) rfl dX5_swap_107 ?_
          refine v_last_nm C (fun wk18 => (xW q cs n nd es kn knd kes img tl ta tn sl bey wt un ed kwt kun ked tb sb sz sbs G7 K P wk18 wh)) 19 1 rfl rfl rfl (fun _ => rfl) dX5_swap_108 (fun wk18 => ?_)
          refine v_iinc_nm C (lvf := fun x19 => [(5, .int x19), (0, .ref (q 0)), (1, .int a1), (2, .int a2), (3, .int a3), (4, .int x4)]) 5 dX5_swap_109 rfl rfl (by decide) (fun _ => rfl) (fun x19 => ?_)
          refine v_goto C dX5_swap_112 (tgt := 43) (by decide) ?_
          exact v_sub [1, 2, 3, 4, 5, 0] rfl (ih x19 G7 wk18)
        · refine v_ifb_eq C (b := v14) dX5_swap_94 (tgt := 105) (by decide) ?_ ?_
          · refine v_iload C 6 dX5_swap_105 rfl ?_
            exact v_sub [1, 2, 3, 4, 5, 6] rfl (hk16 v6)
          · refine v_iload C 6 dX5_swap_97 rfl ?_
            refine v_iload C 5 dX5_swap_99 rfl ?_
            refine v_ixor C dX5_swap_101 ?_
            refine v_goto C dX5_swap_102 (tgt := 107) (by decide) ?_
            exact v_sub [1, 2, 3, 4, 5, 6] rfl (hk16 (v6 ^^^ x4))
      · refine v_icmp_eq C dX5_swap_67 (tgt := 74) (by decide) ?_ ?_
        · refine v_iconst C dX5_swap_74 (v := 0) (by decide) ?_
          exact v_sub [0, 1, 2, 3, 4, 5] rfl (hk13 false)
        · refine v_iconst C dX5_swap_70 (v := 1) (by decide) ?_
          refine v_goto C dX5_swap_71 (tgt := 75) (by decide) ?_
          exact v_sub [0, 1, 2, 3, 4, 5] rfl (hk13 true)

set_option maxRecDepth 100000 in
set_option maxHeartbeats 4000000 in
theorem k_X5_swap {l : Launch} {a1 : Int32} {a2 : Int32} {a3 : Int32}  {res : Int32 × (Nat → Nat → Int64) × (Nat → Int64)} (hq : (xA q).Nodup)  (hf : f_X5_swap n G wk a1 a2 a3 = some res) : kMet l yX5_swap wsX5_swap { frames := 2, cells := 0, slots := 0, locals := 44 } D vwCl (xT cs) (xN tF) (xA q) [.ref (q 0), .int a1, .int a2, .int a3] (xW q cs n nd es kn knd kes img tl ta tn sl bey wt un ed kwt kun ked tb sb sz sbs G K P wk wh) (some (.int res.1)) (xW q cs n nd es kn knd kes img tl ta tn sl bey wt un ed kwt kun ked tb sb sz sbs res.2.1 K P res.2.2 wh) := by
  have iX5 : ∀ w ∈ wsX50, w ∈ wsX5_swap := fun _ h => List.mem_cons_of_mem _ (List.mem_append_left _ (List.mem_append_right _ h))
  refine kMet.of (cc := cX5_swap) (nL := 7) (ret := (some .int)) (own := RX5) (lv := [(0, .ref (q 0)), (1, .int a1), (2, .int a2), (3, .int a3)]) (by decide +kernel) rfl rfl xN_ok hq (Nat.le_of_ble_eq_true rfl) rfl (fun X C => ?_)
  refine VF.of hf ?_
  unfold f_X5_swap
  refine v_iload_n C 1 dX5_swap_0 rfl ?_
  refine v_callSP1v C (fun l9 r9 h9 => k_X5_isGame (l := l9) h9) gX5_swap_X5_isGame rfl nI_X5_isGame ⟨rfl, rfl, Nat.le_of_ble_eq_true rfl, Nat.le_of_ble_eq_true rfl⟩ dX5_swap_1 (Nat.le_of_ble_eq_true rfl) (fun r1 => ?_)
  refine v_ifb_eq C (b := r1) dX5_swap_4 (tgt := 29) (by decide) ?_ ?_
  · refine v_iconst C dX5_swap_29 (v := (-1)) (by decide) ?_
    exact v_iret (rvf := fun (res : Int32 × (Nat → Nat → Int64) × (Nat → Int64)) => (some (.int res.1))) (wf := fun (res : Int32 × (Nat → Nat → Int64) × (Nat → Int64)) => (xW q cs n nd es kn knd kes img tl ta tn sl bey wt un ed kwt kun ked tb sb sz sbs res.2.1 K P res.2.2 wh)) C dX5_swap_30 rfl rfl
  · refine v_aload_n C 0 dX5_swap_7 rfl ?_
    refine v_get C (T := TX5) (n := 10) (C9 := RX5) iX5 0 rfl rfl 0 (by decide) (List.mem_of_getElem? (i := 1) rfl) rfl rfl dX5_swap_8 ?_
    refine v_iload_n C 2 dX5_swap_11 rfl ?_
    refine v_callV1v C 1 rfl rfl rfl (fun l9 r9 h9 => k_X0_hasPartner (l := l9) hq  h9) gX5_swap_X0_hasPartner rfl nI_X0_hasPartner ⟨rfl, rfl, Nat.le_of_ble_eq_true rfl, Nat.le_of_ble_eq_true rfl⟩ dX5_swap_12 (Nat.le_of_ble_eq_true rfl) (fun r2 => ?_)
    refine v_ifb_eq C (b := r2) dX5_swap_15 (tgt := 29) (by decide) ?_ ?_
    · refine v_iconst C dX5_swap_29 (v := (-1)) (by decide) ?_
      exact v_iret (rvf := fun (res : Int32 × (Nat → Nat → Int64) × (Nat → Int64)) => (some (.int res.1))) (wf := fun (res : Int32 × (Nat → Nat → Int64) × (Nat → Int64)) => (xW q cs n nd es kn knd kes img tl ta tn sl bey wt un ed kwt kun ked tb sb sz sbs res.2.1 K P res.2.2 wh)) C dX5_swap_30 rfl rfl
    · refine v_aload_n C 0 dX5_swap_18 rfl ?_
      refine v_get C (T := TX5) (n := 10) (C9 := RX5) iX5 0 rfl rfl 0 (by decide) (List.mem_of_getElem? (i := 1) rfl) rfl rfl dX5_swap_19 ?_
      refine v_iload_n C 3 dX5_swap_22 rfl ?_
      refine v_callV1v C 1 rfl rfl rfl (fun l9 r9 h9 => k_X0_hasPartner (l := l9) hq  h9) gX5_swap_X0_hasPartner rfl nI_X0_hasPartner ⟨rfl, rfl, Nat.le_of_ble_eq_true rfl, Nat.le_of_ble_eq_true rfl⟩ dX5_swap_23 (Nat.le_of_ble_eq_true rfl) (fun r3 => ?_)
      refine v_ifb_ne C (b := r3) dX5_swap_26 (tgt := 31) (by decide) ?_ ?_
      · refine v_iconst C dX5_swap_31 (v := 1) (by decide) ?_
        refine v_iload_n C 2 dX5_swap_32 rfl ?_
        refine v_ishl C dX5_swap_33 ?_
        refine v_iconst C dX5_swap_34 (v := 1) (by decide) ?_
        refine v_iload_n C 3 dX5_swap_35 rfl ?_
        refine v_ishl C dX5_swap_36 ?_
        refine v_ior C dX5_swap_37 ?_
        refine v_istore_nm C (lvf := fun x4 => [(4, .int x4), (0, .ref (q 0)), (1, .int a1), (2, .int a2), (3, .int a3)]) dX5_swap_38 (by decide) (fun _ => rfl) (fun x4 => ?_)
        refine v_iconst C dX5_swap_40 (v := 0) (by decide) ?_
        refine v_istore C (lv' := [(5, .int 0), (4, .int x4), (0, .ref (q 0)), (1, .int a1), (2, .int a2), (3, .int a3)]) dX5_swap_41 (by decide) rfl ?_
        refine v_sub [2, 3, 4, 5, 1, 0] rfl (lp_X5_swap_1 hq C   FU 0 G wk)
      · refine v_iconst C dX5_swap_29 (v := (-1)) (by decide) ?_
        exact v_iret (rvf := fun (res : Int32 × (Nat → Nat → Int64) × (Nat → Int64)) => (some (.int res.1))) (wf := fun (res : Int32 × (Nat → Nat → Int64) × (Nat → Int64)) => (xW q cs n nd es kn knd kes img tl ta tn sl bey wt un ed kwt kun ked tb sb sz sbs res.2.1 K P res.2.2 wh)) C dX5_swap_30 rfl rfl

end WK
