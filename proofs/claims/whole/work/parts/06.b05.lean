section WK
variable {q : Nat → Nat} {cs : Nat → ClassId} {D : va_G} {tF : Nat} {n : Int32} {nd : Int32} {es : Int32} {kn : Int32} {knd : Int32} {kes : Int32} {img : Bool} {tl : Int32} {ta : Int32} {tn : Int64} {sl : Int32} {bey : Bool} {wt : Nat → Int32} {un : Nat → Int32} {ed : Nat → Int32} {kwt : Nat → Int32} {kun : Nat → Int32} {ked : Nat → Int32} {tb : Nat → Int32} {sb : Nat → Int32} {sz : Nat → Int32} {sbs : Nat → Int32} {G : Nat → Nat → Int64} {K : Nat → Nat → Int64} {P : Nat → Nat → Int64} {wk : Nat → Int64} {wh : Nat → Int64}
def B_X5_pairs_1 (n : Int32) (a1 : Int32) (a2 : Int32) (a3 : Int32) (rec4 : Int32 → (Nat → Nat → Int64) → (Nat → Int64) → Option (Int32 × (Nat → Nat → Int64) × (Nat → Int64)))  (v5 : Int32) (G6 : Nat → Nat → Int64) (wk7 : Nat → Int64) : Option (Int32 × (Nat → Nat → Int64) × (Nat → Int64)) :=
(f_X0_sets n).bind (fun (r8 : Int32) =>
if (v5 : Int32) < r8 then (
(f_J6_bitCount_0f7a4 (v5 &&& a2)).bind (fun (r10 : Int32) =>
(f_J6_bitCount_0f7a4 (v5 &&& a3)).bind (fun (r11 : Int32) =>
ck (inb v5 512) (
nm (vp_updL wk7 v5.toNatClampNeg ((iMin r10 r11).toInt64)) (fun (wk12 : Nat → Int64) =>
nm (v5 + 1) (fun (x13 : Int32) =>
rec4 x13 G6 wk12)))))) else (
(f_X5_settleMade n G6 wk7 a1).bind (fun (r9 : Int32 × (Nat → Nat → Int64)) =>
some (r9.1, r9.2, wk7))))
def L_X5_pairs_1 (n : Int32) (a1 : Int32) (a2 : Int32) (a3 : Int32)  : Nat → Int32 → (Nat → Nat → Int64) → (Nat → Int64) → Option (Int32 × (Nat → Nat → Int64) × (Nat → Int64))
  | 0, _, _, _ => none
  | m9 + 1, v5, G6, wk7 => B_X5_pairs_1 n a1 a2 a3 (L_X5_pairs_1 n a1 a2 a3 m9)  v5 G6 wk7

def f_X5_pairs (n : Int32) (G : Nat → Nat → Int64) (wk : Nat → Int64) (a1 : Int32) (a2 : Int32) (a3 : Int32) : Option (Int32 × (Nat → Nat → Int64) × (Nat → Int64)) :=
(f_X5_isGame a1).bind (fun (r1 : Bool) =>
if r1 = true then (
(f_X0_hasSet n a2).bind (fun (r2 : Bool) =>
if r2 = true then (
(f_X0_hasSet n a3).bind (fun (r3 : Bool) =>
if r3 = true then (
L_X5_pairs_1 n a1 a2 a3  FU 0 G wk) else (
some ((-2), G, wk)))) else (
some ((-2), G, wk)))) else (
some ((-1), G, wk)))

theorem nI_X5_pairs : NameIn yX5_pairs 3 := ⟨by decide +kernel, by decide +kernel, by decide +kernel⟩
set_option maxRecDepth 100000 in
set_option maxHeartbeats 4000000 in
theorem lp_X5_pairs_1 {X : CX} {res : Int32 × (Nat → Nat → Int64) × (Nat → Int64)} {a1 : Int32} {a2 : Int32} {a3 : Int32}   (hq : (xA q).Nodup) (C : Ok X cX5_pairs 5 (some .int) wsX5_pairs RX5 { frames := 3, cells := 0, slots := 0, locals := 67 } D vwCl (xT cs) (xA q) (xN tF) (some (.int res.1)) (xW q cs n nd es kn knd kes img tl ta tn sl bey wt un ed kwt kun ked tb sb sz sbs res.2.1 K P res.2.2 wh))  : ∀ fuel : Nat, ∀ v5 : Int32, ∀ G6 : Nat → Nat → Int64, ∀ wk7 : Nat → Int64, VF X res (L_X5_pairs_1 n a1 a2 a3 fuel v5 G6 wk7) (xW q cs n nd es kn knd kes img tl ta tn sl bey wt un ed kwt kun ked tb sb sz sbs G6 K P wk7 wh) 37 [(0, .ref (q 0)), (1, .int a1), (2, .int a2), (3, .int a3), (4, .int v5)] [] := by
  have iX5 : ∀ w ∈ wsX50, w ∈ wsX5_pairs := fun _ h => List.mem_cons_of_mem _ (List.mem_append_left _ (List.mem_append_right _ h))
  intro fuel
  induction fuel with
  | zero =>
    intro _ _ _
    exact v_none
  | succ fuel ih =>
    intro v5 G6 wk7
    show VF X res (B_X5_pairs_1 n a1 a2 a3 (L_X5_pairs_1 n a1 a2 a3 fuel)  v5 G6 wk7) _ _ _ _
    unfold B_X5_pairs_1
    refine v_iload C 4 dX5_pairs_37 rfl ?_
    refine v_aload_n C 0 dX5_pairs_39 rfl ?_
    refine v_get C (T := TX5) (n := 10) (C9 := RX5) iX5 0 rfl rfl 0 (by decide) (List.mem_of_getElem? (i := 1) rfl) rfl rfl dX5_pairs_40 ?_
    refine v_callV0v C 1 rfl rfl rfl (fun l9 r9 h9 => k_X0_sets (l := l9) hq  h9) gX5_pairs_X0_sets rfl nI_X0_sets ⟨rfl, rfl, Nat.le_of_ble_eq_true rfl, Nat.le_of_ble_eq_true rfl⟩ dX5_pairs_43 (Nat.le_of_ble_eq_true rfl) (fun r8 => ?_)
    refine v_icmp_ge C dX5_pairs_46 (tgt := 80) (by decide) ?_ ?_
    · refine v_aload_n C 0 dX5_pairs_80 rfl ?_
      refine v_iload_n C 1 dX5_pairs_81 rfl ?_
      refine v_callV1v C 0 rfl rfl rfl (fun l9 r9 h9 => k_X5_settleMade (l := l9) hq  h9) gX5_pairs_X5_settleMade rfl nI_X5_settleMade ⟨rfl, rfl, Nat.le_of_ble_eq_true rfl, Nat.le_of_ble_eq_true rfl⟩ dX5_pairs_82 (Nat.le_of_ble_eq_true rfl) (fun r9 => ?_)
      exact v_iret (rvf := fun (res : Int32 × (Nat → Nat → Int64) × (Nat → Int64)) => (some (.int res.1))) (wf := fun (res : Int32 × (Nat → Nat → Int64) × (Nat → Int64)) => (xW q cs n nd es kn knd kes img tl ta tn sl bey wt un ed kwt kun ked tb sb sz sbs res.2.1 K P res.2.2 wh)) C dX5_pairs_85 rfl rfl
    · refine v_aload_n C 0 dX5_pairs_49 rfl ?_
      refine v_get C (T := TX5) (n := 10) (C9 := RX5) iX5 0 rfl rfl 7 (by decide) (List.mem_of_getElem? (i := 2) rfl) rfl rfl dX5_pairs_50 ?_
      refine v_iload C 4 dX5_pairs_53 rfl ?_
      refine v_iload C 4 dX5_pairs_55 rfl ?_
      refine v_iload_n C 2 dX5_pairs_57 rfl ?_
      refine v_iand C dX5_pairs_58 ?_
      refine v_callSP1v C (fun l9 r9 h9 => k_J6_bitCount_0f7a4 (l := l9) h9) gX5_pairs_J6_bitCount_0f7a4 rfl nI_J6_bitCount_0f7a4 ⟨rfl, rfl, Nat.le_of_ble_eq_true rfl, Nat.le_of_ble_eq_true rfl⟩ dX5_pairs_59 (Nat.le_of_ble_eq_true rfl) (fun r10 => ?_)
      refine v_iload C 4 dX5_pairs_62 rfl ?_
      refine v_iload_n C 3 dX5_pairs_64 rfl ?_
      refine v_iand C dX5_pairs_65 ?_
      refine v_callSP1v C (fun l9 r9 h9 => k_J6_bitCount_0f7a4 (l := l9) h9) gX5_pairs_J6_bitCount_0f7a4 rfl nI_J6_bitCount_0f7a4 ⟨rfl, rfl, Nat.le_of_ble_eq_true rfl, Nat.le_of_ble_eq_true rfl⟩ dX5_pairs_66 (Nat.le_of_ble_eq_true rfl) (fun r11 => ?_)
      refine v_mmin C (List.mem_of_getElem? (i := 3) rfl) (List.mem_of_getElem? (i := 4) rfl) (List.mem_of_getElem? (i := 5) rfl) (List.mem_of_getElem? (i := 6) rfl) (Nat.le_of_ble_eq_true rfl) (Nat.le_of_ble_eq_true rfl) dX5_pairs_69 ?_
      refine v_i2l C dX5_pairs_72 ?_
      refine v_last_nm C (fun wk12 => (xW q cs n nd es kn knd kes img tl ta tn sl bey wt un ed kwt kun ked tb sb sz sbs G6 K P wk12 wh)) 19 1 rfl rfl rfl (fun _ => rfl) dX5_pairs_73 (fun wk12 => ?_)
      refine v_iinc_nm C (lvf := fun x13 => [(4, .int x13), (0, .ref (q 0)), (1, .int a1), (2, .int a2), (3, .int a3)]) 4 dX5_pairs_74 rfl rfl (by decide) (fun _ => rfl) (fun x13 => ?_)
      refine v_goto C dX5_pairs_77 (tgt := 37) (by decide) ?_
      exact v_sub [1, 2, 3, 4, 0] rfl (ih x13 G6 wk12)

set_option maxRecDepth 100000 in
set_option maxHeartbeats 4000000 in
theorem k_X5_pairs {l : Launch} {a1 : Int32} {a2 : Int32} {a3 : Int32}  {res : Int32 × (Nat → Nat → Int64) × (Nat → Int64)} (hq : (xA q).Nodup)  (hf : f_X5_pairs n G wk a1 a2 a3 = some res) : kMet l yX5_pairs wsX5_pairs { frames := 3, cells := 0, slots := 0, locals := 67 } D vwCl (xT cs) (xN tF) (xA q) [.ref (q 0), .int a1, .int a2, .int a3] (xW q cs n nd es kn knd kes img tl ta tn sl bey wt un ed kwt kun ked tb sb sz sbs G K P wk wh) (some (.int res.1)) (xW q cs n nd es kn knd kes img tl ta tn sl bey wt un ed kwt kun ked tb sb sz sbs res.2.1 K P res.2.2 wh) := by
  have iX5 : ∀ w ∈ wsX50, w ∈ wsX5_pairs := fun _ h => List.mem_cons_of_mem _ (List.mem_append_left _ (List.mem_append_right _ h))
  refine kMet.of (cc := cX5_pairs) (nL := 5) (ret := (some .int)) (own := RX5) (lv := [(0, .ref (q 0)), (1, .int a1), (2, .int a2), (3, .int a3)]) (by decide +kernel) rfl rfl xN_ok hq (Nat.le_of_ble_eq_true rfl) rfl (fun X C => ?_)
  refine VF.of hf ?_
  unfold f_X5_pairs
  refine v_iload_n C 1 dX5_pairs_0 rfl ?_
  refine v_callSP1v C (fun l9 r9 h9 => k_X5_isGame (l := l9) h9) gX5_pairs_X5_isGame rfl nI_X5_isGame ⟨rfl, rfl, Nat.le_of_ble_eq_true rfl, Nat.le_of_ble_eq_true rfl⟩ dX5_pairs_1 (Nat.le_of_ble_eq_true rfl) (fun r1 => ?_)
  refine v_ifb_ne C (b := r1) dX5_pairs_4 (tgt := 9) (by decide) ?_ ?_
  · refine v_aload_n C 0 dX5_pairs_9 rfl ?_
    refine v_get C (T := TX5) (n := 10) (C9 := RX5) iX5 0 rfl rfl 0 (by decide) (List.mem_of_getElem? (i := 1) rfl) rfl rfl dX5_pairs_10 ?_
    refine v_iload_n C 2 dX5_pairs_13 rfl ?_
    refine v_callV1v C 1 rfl rfl rfl (fun l9 r9 h9 => k_X0_hasSet (l := l9) hq  h9) gX5_pairs_X0_hasSet rfl nI_X0_hasSet ⟨rfl, rfl, Nat.le_of_ble_eq_true rfl, Nat.le_of_ble_eq_true rfl⟩ dX5_pairs_14 (Nat.le_of_ble_eq_true rfl) (fun r2 => ?_)
    refine v_ifb_eq C (b := r2) dX5_pairs_17 (tgt := 31) (by decide) ?_ ?_
    · refine v_bipush C dX5_pairs_31 (v := (-2)) (by decide) ?_
      exact v_iret (rvf := fun (res : Int32 × (Nat → Nat → Int64) × (Nat → Int64)) => (some (.int res.1))) (wf := fun (res : Int32 × (Nat → Nat → Int64) × (Nat → Int64)) => (xW q cs n nd es kn knd kes img tl ta tn sl bey wt un ed kwt kun ked tb sb sz sbs res.2.1 K P res.2.2 wh)) C dX5_pairs_33 rfl rfl
    · refine v_aload_n C 0 dX5_pairs_20 rfl ?_
      refine v_get C (T := TX5) (n := 10) (C9 := RX5) iX5 0 rfl rfl 0 (by decide) (List.mem_of_getElem? (i := 1) rfl) rfl rfl dX5_pairs_21 ?_
      refine v_iload_n C 3 dX5_pairs_24 rfl ?_
      refine v_callV1v C 1 rfl rfl rfl (fun l9 r9 h9 => k_X0_hasSet (l := l9) hq  h9) gX5_pairs_X0_hasSet rfl nI_X0_hasSet ⟨rfl, rfl, Nat.le_of_ble_eq_true rfl, Nat.le_of_ble_eq_true rfl⟩ dX5_pairs_25 (Nat.le_of_ble_eq_true rfl) (fun r3 => ?_)
      refine v_ifb_ne C (b := r3) dX5_pairs_28 (tgt := 34) (by decide) ?_ ?_
      · refine v_iconst C dX5_pairs_34 (v := 0) (by decide) ?_
        refine v_istore C (lv' := [(4, .int 0), (0, .ref (q 0)), (1, .int a1), (2, .int a2), (3, .int a3)]) dX5_pairs_35 (by decide) rfl ?_
        refine v_sub [1, 2, 3, 4, 0] rfl (lp_X5_pairs_1 hq C   FU 0 G wk)
      · refine v_bipush C dX5_pairs_31 (v := (-2)) (by decide) ?_
        exact v_iret (rvf := fun (res : Int32 × (Nat → Nat → Int64) × (Nat → Int64)) => (some (.int res.1))) (wf := fun (res : Int32 × (Nat → Nat → Int64) × (Nat → Int64)) => (xW q cs n nd es kn knd kes img tl ta tn sl bey wt un ed kwt kun ked tb sb sz sbs res.2.1 K P res.2.2 wh)) C dX5_pairs_33 rfl rfl
  · refine v_iconst C dX5_pairs_7 (v := (-1)) (by decide) ?_
    exact v_iret (rvf := fun (res : Int32 × (Nat → Nat → Int64) × (Nat → Int64)) => (some (.int res.1))) (wf := fun (res : Int32 × (Nat → Nat → Int64) × (Nat → Int64)) => (xW q cs n nd es kn knd kes img tl ta tn sl bey wt un ed kwt kun ked tb sb sz sbs res.2.1 K P res.2.2 wh)) C dX5_pairs_8 rfl rfl

def f_X5_copy (n : Int32) (G : Nat → Nat → Int64) (wk : Nat → Int64) (a1 : Int32) (a2 : Int32) : Option (Int32 × (Nat → Nat → Int64) × (Nat → Int64)) :=
(f_X5_isGame a1).bind (fun (r1 : Bool) =>
if r1 = true then (
(f_X5_isGame a2).bind (fun (r2 : Bool) =>
if r2 = true then (
ck (inb a2 4) (
(f_X0_sets n).bind (fun (r4 : Int32) =>
ck (cpk (0 : Int32) (0 : Int32) r4 512 512) (
nm (va_cpy (G a2.toNatClampNeg) wk (0 : Int32).toNatClampNeg (0 : Int32).toNatClampNeg r4.toNatClampNeg) (fun (wk5 : Nat → Int64) =>
(f_X5_settle n G wk5 a1).bind (fun (r6 : Int32 × (Nat → Nat → Int64)) =>
some (1, r6.2, wk5))))))) else (
some ((-1), G, wk)))) else (
some ((-1), G, wk)))

theorem nI_X5_copy : NameIn yX5_copy 2 := ⟨by decide +kernel, by decide +kernel, by decide +kernel⟩
set_option maxRecDepth 100000 in
set_option maxHeartbeats 4000000 in
theorem k_X5_copy {l : Launch} {a1 : Int32} {a2 : Int32}  {res : Int32 × (Nat → Nat → Int64) × (Nat → Int64)} (hq : (xA q).Nodup)  (hf : f_X5_copy n G wk a1 a2 = some res) : kMet l yX5_copy wsX5_copy { frames := 2, cells := 0, slots := 0, locals := 60 } D vwCl (xT cs) (xN tF) (xA q) [.ref (q 0), .int a1, .int a2] (xW q cs n nd es kn knd kes img tl ta tn sl bey wt un ed kwt kun ked tb sb sz sbs G K P wk wh) (some (.int res.1)) (xW q cs n nd es kn knd kes img tl ta tn sl bey wt un ed kwt kun ked tb sb sz sbs res.2.1 K P res.2.2 wh) := by
  have iX0 : ∀ w ∈ wsX00, w ∈ wsX5_copy := fun _ h => List.mem_cons_of_mem _ (List.mem_append_right _ h)
  have iX5 : ∀ w ∈ wsX50, w ∈ wsX5_copy := fun _ h => List.mem_cons_of_mem _ (List.mem_append_left _ (List.mem_append_right _ h))
  refine kMet.of (cc := cX5_copy) (nL := 3) (ret := (some .int)) (own := RX5) (lv := [(0, .ref (q 0)), (1, .int a1), (2, .int a2)]) (by decide +kernel) rfl rfl xN_ok hq (Nat.le_of_ble_eq_true rfl) rfl (fun X C => ?_)
  refine VF.of hf ?_
  unfold f_X5_copy
  refine v_iload_n C 1 dX5_copy_0 rfl ?_
  refine v_callSP1v C (fun l9 r9 h9 => k_X5_isGame (l := l9) h9) gX5_copy_X5_isGame rfl nI_X5_isGame ⟨rfl, rfl, Nat.le_of_ble_eq_true rfl, Nat.le_of_ble_eq_true rfl⟩ dX5_copy_1 (Nat.le_of_ble_eq_true rfl) (fun r1 => ?_)
  refine v_ifb_eq C (b := r1) dX5_copy_4 (tgt := 14) (by decide) ?_ ?_
  · refine v_iconst C dX5_copy_14 (v := (-1)) (by decide) ?_
    exact v_iret (rvf := fun (res : Int32 × (Nat → Nat → Int64) × (Nat → Int64)) => (some (.int res.1))) (wf := fun (res : Int32 × (Nat → Nat → Int64) × (Nat → Int64)) => (xW q cs n nd es kn knd kes img tl ta tn sl bey wt un ed kwt kun ked tb sb sz sbs res.2.1 K P res.2.2 wh)) C dX5_copy_15 rfl rfl
  · refine v_iload_n C 2 dX5_copy_7 rfl ?_
    refine v_callSP1v C (fun l9 r9 h9 => k_X5_isGame (l := l9) h9) gX5_copy_X5_isGame rfl nI_X5_isGame ⟨rfl, rfl, Nat.le_of_ble_eq_true rfl, Nat.le_of_ble_eq_true rfl⟩ dX5_copy_8 (Nat.le_of_ble_eq_true rfl) (fun r2 => ?_)
    refine v_ifb_ne C (b := r2) dX5_copy_11 (tgt := 16) (by decide) ?_ ?_
    · refine v_aload_n C 0 dX5_copy_16 rfl ?_
      refine v_get C (T := TX5) (n := 10) (C9 := RX5) iX5 0 rfl rfl 0 (by decide) (List.mem_of_getElem? (i := 1) rfl) rfl rfl dX5_copy_17 ?_
      refine v_get C (T := TX0) (n := 7) (C9 := RX0) iX0 1 rfl rfl 6 (by decide) (List.mem_of_getElem? (i := 2) rfl) rfl rfl dX5_copy_20 ?_
      refine v_iload_n C 2 dX5_copy_23 rfl ?_
      refine v_aalda C (ad := fun j9 => q (22 + j9)) 10 3 rfl rfl (fun _ h9 => if_pos h9) dX5_copy_24 (fun hb3 => ?_)
      have hj3 := inb_lt hb3
      refine v_iconst C dX5_copy_25 (v := 0) (by decide) ?_
      refine v_aload_n C 0 dX5_copy_26 rfl ?_
      refine v_get C (T := TX5) (n := 10) (C9 := RX5) iX5 0 rfl rfl 7 (by decide) (List.mem_of_getElem? (i := 3) rfl) rfl rfl dX5_copy_27 ?_
      refine v_iconst C dX5_copy_30 (v := 0) (by decide) ?_
      refine v_aload_n C 0 dX5_copy_31 rfl ?_
      refine v_get C (T := TX5) (n := 10) (C9 := RX5) iX5 0 rfl rfl 0 (by decide) (List.mem_of_getElem? (i := 1) rfl) rfl rfl dX5_copy_32 ?_
      refine v_callV0v C 1 rfl rfl rfl (fun l9 r9 h9 => k_X0_sets (l := l9) hq  h9) gX5_copy_X0_sets rfl nI_X0_sets ⟨rfl, rfl, Nat.le_of_ble_eq_true rfl, Nat.le_of_ble_eq_true rfl⟩ dX5_copy_35 (Nat.le_of_ble_eq_true rfl) (fun r4 => ?_)
      refine v_copyl_nm C (fun wk5 => (xW q cs n nd es kn knd kes img tl ta tn sl bey wt un ed kwt kun ked tb sb sz sbs G K P wk5 wh)) (List.mem_of_getElem? (i := 4) rfl) (List.mem_of_getElem? (i := 5) rfl) (List.mem_of_getElem? (i := 6) rfl) (List.mem_of_getElem? (i := 7) rfl) (22 + a2.toNatClampNeg) 19 1 1 (xW_G hj3) rfl rfl rfl rfl (fun _ => rfl) (Nat.le_of_ble_eq_true rfl) (Nat.le_of_ble_eq_true rfl) dX5_copy_38 (fun wk5 => ?_)
      refine v_aload_n C 0 dX5_copy_41 rfl ?_
      refine v_iload_n C 1 dX5_copy_42 rfl ?_
      refine v_callV1v C 0 rfl rfl rfl (fun l9 r9 h9 => k_X5_settle (l := l9) hq  h9) gX5_copy_X5_settle rfl nI_X5_settle ⟨rfl, rfl, Nat.le_of_ble_eq_true rfl, Nat.le_of_ble_eq_true rfl⟩ dX5_copy_43 (Nat.le_of_ble_eq_true rfl) (fun r6 => ?_)
      refine v_pop C dX5_copy_46 rfl ?_
      refine v_iconst C dX5_copy_47 (v := 1) (by decide) ?_
      exact v_iret (rvf := fun (res : Int32 × (Nat → Nat → Int64) × (Nat → Int64)) => (some (.int res.1))) (wf := fun (res : Int32 × (Nat → Nat → Int64) × (Nat → Int64)) => (xW q cs n nd es kn knd kes img tl ta tn sl bey wt un ed kwt kun ked tb sb sz sbs res.2.1 K P res.2.2 wh)) C dX5_copy_48 rfl rfl
    · refine v_iconst C dX5_copy_14 (v := (-1)) (by decide) ?_
      exact v_iret (rvf := fun (res : Int32 × (Nat → Nat → Int64) × (Nat → Int64)) => (some (.int res.1))) (wf := fun (res : Int32 × (Nat → Nat → Int64) × (Nat → Int64)) => (xW q cs n nd es kn knd kes img tl ta tn sl bey wt un ed kwt kun ked tb sb sz sbs res.2.1 K P res.2.2 wh)) C dX5_copy_15 rfl rfl

def f_X5_settleUnlessBeyond (n : Int32) (bey : Bool) (G : Nat → Nat → Int64) (wk : Nat → Int64) (a1 : Int32) : Option (Int32 × (Nat → Nat → Int64)) :=
if bey = true then (
some ((-6), G)) else (
(f_X5_settle n G wk a1).bind (fun (r1 : Int32 × (Nat → Nat → Int64)) =>
some (1, r1.2)))

theorem nI_X5_settleUnlessBeyond : NameIn yX5_settleUnlessBeyond 1 := ⟨by decide +kernel, by decide +kernel, by decide +kernel⟩
set_option maxRecDepth 100000 in
set_option maxHeartbeats 4000000 in
theorem k_X5_settleUnlessBeyond {l : Launch} {a1 : Int32}  {res : Int32 × (Nat → Nat → Int64)} (hq : (xA q).Nodup)  (hf : f_X5_settleUnlessBeyond n bey G wk a1 = some res) : kMet l yX5_settleUnlessBeyond wsX5_settleUnlessBeyond { frames := 2, cells := 0, slots := 0, locals := 44 } D vwCl (xT cs) (xN tF) (xA q) [.ref (q 0), .int a1] (xW q cs n nd es kn knd kes img tl ta tn sl bey wt un ed kwt kun ked tb sb sz sbs G K P wk wh) (some (.int res.1)) (xW q cs n nd es kn knd kes img tl ta tn sl bey wt un ed kwt kun ked tb sb sz sbs res.2 K P wk wh) := by
  have iX1 : ∀ w ∈ wsX10, w ∈ wsX5_settleUnlessBeyond := fun _ h => List.mem_cons_of_mem _ (List.mem_append_left _ (List.mem_append_right _ h))
  have iX5 : ∀ w ∈ wsX50, w ∈ wsX5_settleUnlessBeyond := fun _ h => List.mem_cons_of_mem _ (List.mem_append_left _ (List.mem_append_left _ (List.mem_append_right _ h)))
  refine kMet.of (cc := cX5_settleUnlessBeyond) (nL := 2) (ret := (some .int)) (own := RX5) (lv := [(0, .ref (q 0)), (1, .int a1)]) (by decide +kernel) rfl rfl xN_ok hq (Nat.le_of_ble_eq_true rfl) rfl (fun X C => ?_)
  refine VF.of hf ?_
  unfold f_X5_settleUnlessBeyond
  refine v_aload_n C 0 dX5_settleUnlessBeyond_0 rfl ?_
  refine v_get C (T := TX5) (n := 10) (C9 := RX5) iX5 0 rfl rfl 6 (by decide) (List.mem_of_getElem? (i := 1) rfl) rfl rfl dX5_settleUnlessBeyond_1 ?_
  refine v_get C (T := TX1) (n := 1) (C9 := RX1) iX1 6 rfl rfl 0 (by decide) (List.mem_of_getElem? (i := 2) rfl) rfl rfl dX5_settleUnlessBeyond_4 ?_
  refine v_ifb_eq C (b := bey) dX5_settleUnlessBeyond_7 (tgt := 13) (by decide) ?_ ?_
  · refine v_aload_n C 0 dX5_settleUnlessBeyond_13 rfl ?_
    refine v_iload_n C 1 dX5_settleUnlessBeyond_14 rfl ?_
    refine v_callV1v C 0 rfl rfl rfl (fun l9 r9 h9 => k_X5_settle (l := l9) hq  h9) gX5_settleUnlessBeyond_X5_settle rfl nI_X5_settle ⟨rfl, rfl, Nat.le_of_ble_eq_true rfl, Nat.le_of_ble_eq_true rfl⟩ dX5_settleUnlessBeyond_15 (Nat.le_of_ble_eq_true rfl) (fun r1 => ?_)
    refine v_pop C dX5_settleUnlessBeyond_18 rfl ?_
    refine v_iconst C dX5_settleUnlessBeyond_19 (v := 1) (by decide) ?_
    exact v_iret (rvf := fun (res : Int32 × (Nat → Nat → Int64)) => (some (.int res.1))) (wf := fun (res : Int32 × (Nat → Nat → Int64)) => (xW q cs n nd es kn knd kes img tl ta tn sl bey wt un ed kwt kun ked tb sb sz sbs res.2 K P wk wh)) C dX5_settleUnlessBeyond_20 rfl rfl
  · refine v_bipush C dX5_settleUnlessBeyond_10 (v := (-6)) (by decide) ?_
    exact v_iret (rvf := fun (res : Int32 × (Nat → Nat → Int64)) => (some (.int res.1))) (wf := fun (res : Int32 × (Nat → Nat → Int64)) => (xW q cs n nd es kn knd kes img tl ta tn sl bey wt un ed kwt kun ked tb sb sz sbs res.2 K P wk wh)) C dX5_settleUnlessBeyond_12 rfl rfl

def B_X5_add_1 (n : Int32) (a1 : Int32) (a2 : Int32) (rec4 : Int32 → Bool → (Nat → Nat → Int64) → (Nat → Int64) → Option (Int32 × Bool × (Nat → Nat → Int64) × (Nat → Int64)))  (v5 : Int32) (bey6 : Bool) (G7 : Nat → Nat → Int64) (wk8 : Nat → Int64) : Option (Int32 × Bool × (Nat → Nat → Int64) × (Nat → Int64)) :=
(f_X0_sets n).bind (fun (r9 : Int32) =>
if (v5 : Int32) < r9 then (
ck (inb a1 4) (
ck (inb v5 512) (
ck (inb a2 4) (
ck (inb v5 512) (
(f_X1_plus bey6 ((G7 a1.toNatClampNeg) v5.toNatClampNeg) ((G7 a2.toNatClampNeg) v5.toNatClampNeg)).bind (fun (r13 : Int64 × Bool) =>
ck (inb v5 512) (
nm (vp_updL wk8 v5.toNatClampNeg r13.1) (fun (wk14 : Nat → Int64) =>
nm (v5 + 1) (fun (x15 : Int32) =>
rec4 x15 r13.2 G7 wk14))))))))) else (
(f_X5_settleUnlessBeyond n bey6 G7 wk8 a1).bind (fun (r10 : Int32 × (Nat → Nat → Int64)) =>
some (r10.1, bey6, r10.2, wk8))))
def L_X5_add_1 (n : Int32) (a1 : Int32) (a2 : Int32)  : Nat → Int32 → Bool → (Nat → Nat → Int64) → (Nat → Int64) → Option (Int32 × Bool × (Nat → Nat → Int64) × (Nat → Int64))
  | 0, _, _, _, _ => none
  | m9 + 1, v5, bey6, G7, wk8 => B_X5_add_1 n a1 a2 (L_X5_add_1 n a1 a2 m9)  v5 bey6 G7 wk8

def f_X5_add (n : Int32) (bey : Bool) (G : Nat → Nat → Int64) (wk : Nat → Int64) (a1 : Int32) (a2 : Int32) : Option (Int32 × Bool × (Nat → Nat → Int64) × (Nat → Int64)) :=
(f_X5_isGame a1).bind (fun (r1 : Bool) =>
if r1 = true then (
(f_X5_isGame a2).bind (fun (r2 : Bool) =>
if r2 = true then (
(f_X1_begin bey).bind (fun (r3 : Bool) =>
L_X5_add_1 n a1 a2  FU 0 r3 G wk)) else (
some ((-1), bey, G, wk)))) else (
some ((-1), bey, G, wk)))

theorem nI_X5_add : NameIn yX5_add 2 := ⟨by decide +kernel, by decide +kernel, by decide +kernel⟩
set_option maxRecDepth 100000 in
set_option maxHeartbeats 4000000 in
theorem lp_X5_add_1 {X : CX} {res : Int32 × Bool × (Nat → Nat → Int64) × (Nat → Int64)} {a1 : Int32} {a2 : Int32}   (hq : (xA q).Nodup) (C : Ok X cX5_add 4 (some .int) wsX5_add RX5 { frames := 3, cells := 0, slots := 0, locals := 65 } D vwCl (xT cs) (xA q) (xN tF) (some (.int res.1)) (xW q cs n nd es kn knd kes img tl ta tn sl res.2.1 wt un ed kwt kun ked tb sb sz sbs res.2.2.1 K P res.2.2.2 wh))  : ∀ fuel : Nat, ∀ v5 : Int32, ∀ bey6 : Bool, ∀ G7 : Nat → Nat → Int64, ∀ wk8 : Nat → Int64, VF X res (L_X5_add_1 n a1 a2 fuel v5 bey6 G7 wk8) (xW q cs n nd es kn knd kes img tl ta tn sl bey6 wt un ed kwt kun ked tb sb sz sbs G7 K P wk8 wh) 25 [(0, .ref (q 0)), (1, .int a1), (2, .int a2), (3, .int v5)] [] := by
  have iX0 : ∀ w ∈ wsX00, w ∈ wsX5_add := fun _ h => List.mem_cons_of_mem _ (List.mem_append_left _ (List.mem_append_right _ h))
  have iX5 : ∀ w ∈ wsX50, w ∈ wsX5_add := fun _ h => List.mem_cons_of_mem _ (List.mem_append_left _ (List.mem_append_left _ (List.mem_append_right _ h)))
  intro fuel
  induction fuel with
  | zero =>
    intro _ _ _ _
    exact v_none
  | succ fuel ih =>
    intro v5 bey6 G7 wk8
    show VF X res (B_X5_add_1 n a1 a2 (L_X5_add_1 n a1 a2 fuel)  v5 bey6 G7 wk8) _ _ _ _
    unfold B_X5_add_1
    refine v_iload_n C 3 dX5_add_25 rfl ?_
    refine v_aload_n C 0 dX5_add_26 rfl ?_
    refine v_get C (T := TX5) (n := 10) (C9 := RX5) iX5 0 rfl rfl 0 (by decide) (List.mem_of_getElem? (i := 2) rfl) rfl rfl dX5_add_27 ?_
    refine v_callV0v C 1 rfl rfl rfl (fun l9 r9 h9 => k_X0_sets (l := l9) hq  h9) gX5_add_X0_sets rfl nI_X0_sets ⟨rfl, rfl, Nat.le_of_ble_eq_true rfl, Nat.le_of_ble_eq_true rfl⟩ dX5_add_30 (Nat.le_of_ble_eq_true rfl) (fun r9 => ?_)
    refine v_icmp_ge C dX5_add_33 (tgt := 77) (by decide) ?_ ?_
    · refine v_aload_n C 0 dX5_add_77 rfl ?_
      refine v_iload_n C 1 dX5_add_78 rfl ?_
      refine v_callV1v C 0 rfl rfl rfl (fun l9 r9 h9 => k_X5_settleUnlessBeyond (l := l9) hq  h9) gX5_add_X5_settleUnlessBeyond rfl nI_X5_settleUnlessBeyond ⟨rfl, rfl, Nat.le_of_ble_eq_true rfl, Nat.le_of_ble_eq_true rfl⟩ dX5_add_79 (Nat.le_of_ble_eq_true rfl) (fun r10 => ?_)
      exact v_iret (rvf := fun (res : Int32 × Bool × (Nat → Nat → Int64) × (Nat → Int64)) => (some (.int res.1))) (wf := fun (res : Int32 × Bool × (Nat → Nat → Int64) × (Nat → Int64)) => (xW q cs n nd es kn knd kes img tl ta tn sl res.2.1 wt un ed kwt kun ked tb sb sz sbs res.2.2.1 K P res.2.2.2 wh)) C dX5_add_82 rfl rfl
    · refine v_aload_n C 0 dX5_add_36 rfl ?_
      refine v_get C (T := TX5) (n := 10) (C9 := RX5) iX5 0 rfl rfl 7 (by decide) (List.mem_of_getElem? (i := 3) rfl) rfl rfl dX5_add_37 ?_
      refine v_iload_n C 3 dX5_add_40 rfl ?_
      refine v_aload_n C 0 dX5_add_41 rfl ?_
      refine v_get C (T := TX5) (n := 10) (C9 := RX5) iX5 0 rfl rfl 6 (by decide) (List.mem_of_getElem? (i := 1) rfl) rfl rfl dX5_add_42 ?_
      refine v_aload_n C 0 dX5_add_45 rfl ?_
      refine v_get C (T := TX5) (n := 10) (C9 := RX5) iX5 0 rfl rfl 0 (by decide) (List.mem_of_getElem? (i := 2) rfl) rfl rfl dX5_add_46 ?_
      refine v_get C (T := TX0) (n := 7) (C9 := RX0) iX0 1 rfl rfl 6 (by decide) (List.mem_of_getElem? (i := 4) rfl) rfl rfl dX5_add_49 ?_
      refine v_iload_n C 1 dX5_add_52 rfl ?_
      refine v_aalda C (ad := fun j9 => q (22 + j9)) 10 3 rfl rfl (fun _ h9 => if_pos h9) dX5_add_53 (fun hb11 => ?_)
      have hj11 := inb_lt hb11
      refine v_iload_n C 3 dX5_add_54 rfl ?_
      refine v_lald C (22 + a1.toNatClampNeg) 1 (xW_G hj11) rfl dX5_add_55 ?_
      refine v_aload_n C 0 dX5_add_56 rfl ?_
      refine v_get C (T := TX5) (n := 10) (C9 := RX5) iX5 0 rfl rfl 0 (by decide) (List.mem_of_getElem? (i := 2) rfl) rfl rfl dX5_add_57 ?_
      refine v_get C (T := TX0) (n := 7) (C9 := RX0) iX0 1 rfl rfl 6 (by decide) (List.mem_of_getElem? (i := 4) rfl) rfl rfl dX5_add_60 ?_
      refine v_iload_n C 2 dX5_add_63 rfl ?_
      refine v_aalda C (ad := fun j9 => q (22 + j9)) 10 3 rfl rfl (fun _ h9 => if_pos h9) dX5_add_64 (fun hb12 => ?_)
      have hj12 := inb_lt hb12
      refine v_iload_n C 3 dX5_add_65 rfl ?_
      refine v_lald C (22 + a2.toNatClampNeg) 1 (xW_G hj12) rfl dX5_add_66 ?_
      refine v_callV2v C 6 rfl rfl rfl (fun l9 r9 h9 => k_X1_plus (l := l9) hq  h9) gX5_add_X1_plus rfl nI_X1_plus ⟨rfl, rfl, Nat.le_of_ble_eq_true rfl, Nat.le_of_ble_eq_true rfl⟩ dX5_add_67 (Nat.le_of_ble_eq_true rfl) (fun r13 => ?_)
      refine v_last_nm C (fun wk14 => (xW q cs n nd es kn knd kes img tl ta tn sl r13.2 wt un ed kwt kun ked tb sb sz sbs G7 K P wk14 wh)) 19 1 rfl rfl rfl (fun _ => rfl) dX5_add_70 (fun wk14 => ?_)
      refine v_iinc_nm C (lvf := fun x15 => [(3, .int x15), (0, .ref (q 0)), (1, .int a1), (2, .int a2)]) 3 dX5_add_71 rfl rfl (by decide) (fun _ => rfl) (fun x15 => ?_)
      refine v_goto C dX5_add_74 (tgt := 25) (by decide) ?_
      exact v_sub [1, 2, 3, 0] rfl (ih x15 r13.2 G7 wk14)

set_option maxRecDepth 100000 in
set_option maxHeartbeats 4000000 in
theorem k_X5_add {l : Launch} {a1 : Int32} {a2 : Int32}  {res : Int32 × Bool × (Nat → Nat → Int64) × (Nat → Int64)} (hq : (xA q).Nodup)  (hf : f_X5_add n bey G wk a1 a2 = some res) : kMet l yX5_add wsX5_add { frames := 3, cells := 0, slots := 0, locals := 65 } D vwCl (xT cs) (xN tF) (xA q) [.ref (q 0), .int a1, .int a2] (xW q cs n nd es kn knd kes img tl ta tn sl bey wt un ed kwt kun ked tb sb sz sbs G K P wk wh) (some (.int res.1)) (xW q cs n nd es kn knd kes img tl ta tn sl res.2.1 wt un ed kwt kun ked tb sb sz sbs res.2.2.1 K P res.2.2.2 wh) := by
  have iX5 : ∀ w ∈ wsX50, w ∈ wsX5_add := fun _ h => List.mem_cons_of_mem _ (List.mem_append_left _ (List.mem_append_left _ (List.mem_append_right _ h)))
  refine kMet.of (cc := cX5_add) (nL := 4) (ret := (some .int)) (own := RX5) (lv := [(0, .ref (q 0)), (1, .int a1), (2, .int a2)]) (by decide +kernel) rfl rfl xN_ok hq (Nat.le_of_ble_eq_true rfl) rfl (fun X C => ?_)
  refine VF.of hf ?_
  unfold f_X5_add
  refine v_iload_n C 1 dX5_add_0 rfl ?_
  refine v_callSP1v C (fun l9 r9 h9 => k_X5_isGame (l := l9) h9) gX5_add_X5_isGame rfl nI_X5_isGame ⟨rfl, rfl, Nat.le_of_ble_eq_true rfl, Nat.le_of_ble_eq_true rfl⟩ dX5_add_1 (Nat.le_of_ble_eq_true rfl) (fun r1 => ?_)
  refine v_ifb_eq C (b := r1) dX5_add_4 (tgt := 14) (by decide) ?_ ?_
  · refine v_iconst C dX5_add_14 (v := (-1)) (by decide) ?_
    exact v_iret (rvf := fun (res : Int32 × Bool × (Nat → Nat → Int64) × (Nat → Int64)) => (some (.int res.1))) (wf := fun (res : Int32 × Bool × (Nat → Nat → Int64) × (Nat → Int64)) => (xW q cs n nd es kn knd kes img tl ta tn sl res.2.1 wt un ed kwt kun ked tb sb sz sbs res.2.2.1 K P res.2.2.2 wh)) C dX5_add_15 rfl rfl
  · refine v_iload_n C 2 dX5_add_7 rfl ?_
    refine v_callSP1v C (fun l9 r9 h9 => k_X5_isGame (l := l9) h9) gX5_add_X5_isGame rfl nI_X5_isGame ⟨rfl, rfl, Nat.le_of_ble_eq_true rfl, Nat.le_of_ble_eq_true rfl⟩ dX5_add_8 (Nat.le_of_ble_eq_true rfl) (fun r2 => ?_)
    refine v_ifb_ne C (b := r2) dX5_add_11 (tgt := 16) (by decide) ?_ ?_
    · refine v_aload_n C 0 dX5_add_16 rfl ?_
      refine v_get C (T := TX5) (n := 10) (C9 := RX5) iX5 0 rfl rfl 6 (by decide) (List.mem_of_getElem? (i := 1) rfl) rfl rfl dX5_add_17 ?_
      refine v_callV0n C 6 rfl rfl rfl (fun l9 r9 h9 => k_X1_begin (l := l9) hq  h9) gX5_add_X1_begin rfl nI_X1_begin ⟨rfl, rfl, Nat.le_of_ble_eq_true rfl, Nat.le_of_ble_eq_true rfl⟩ dX5_add_20 (Nat.le_of_ble_eq_true rfl) (fun r3 => ?_)
      refine v_iconst C dX5_add_23 (v := 0) (by decide) ?_
      refine v_istore_n C (lv' := [(3, .int 0), (0, .ref (q 0)), (1, .int a1), (2, .int a2)]) dX5_add_24 rfl (by decide) rfl ?_
      refine v_sub [1, 2, 3, 0] rfl (lp_X5_add_1 hq C   FU 0 r3 G wk)
    · refine v_iconst C dX5_add_14 (v := (-1)) (by decide) ?_
      exact v_iret (rvf := fun (res : Int32 × Bool × (Nat → Nat → Int64) × (Nat → Int64)) => (some (.int res.1))) (wf := fun (res : Int32 × Bool × (Nat → Nat → Int64) × (Nat → Int64)) => (xW q cs n nd es kn knd kes img tl ta tn sl res.2.1 wt un ed kwt kun ked tb sb sz sbs res.2.2.1 K P res.2.2.2 wh)) C dX5_add_15 rfl rfl

def B_X5_times_1 (n : Int32) (a1 : Int32) (a2 : Int32) (rec3 : Int32 → Bool → (Nat → Nat → Int64) → (Nat → Int64) → Option (Int32 × Bool × (Nat → Nat → Int64) × (Nat → Int64)))  (v4 : Int32) (bey5 : Bool) (G6 : Nat → Nat → Int64) (wk7 : Nat → Int64) : Option (Int32 × Bool × (Nat → Nat → Int64) × (Nat → Int64)) :=
(f_X0_sets n).bind (fun (r8 : Int32) =>
if (v4 : Int32) < r8 then (
ck (inb a1 4) (
ck (inb v4 512) (
(f_X1_product bey5 ((G6 a1.toNatClampNeg) v4.toNatClampNeg) a2.toInt64).bind (fun (r11 : Int64 × Bool) =>
ck (inb v4 512) (
nm (vp_updL wk7 v4.toNatClampNeg r11.1) (fun (wk12 : Nat → Int64) =>
nm (v4 + 1) (fun (x13 : Int32) =>
rec3 x13 r11.2 G6 wk12))))))) else (
(f_X5_settleUnlessBeyond n bey5 G6 wk7 a1).bind (fun (r9 : Int32 × (Nat → Nat → Int64)) =>
some (r9.1, bey5, r9.2, wk7))))
def L_X5_times_1 (n : Int32) (a1 : Int32) (a2 : Int32)  : Nat → Int32 → Bool → (Nat → Nat → Int64) → (Nat → Int64) → Option (Int32 × Bool × (Nat → Nat → Int64) × (Nat → Int64))
  | 0, _, _, _, _ => none
  | m9 + 1, v4, bey5, G6, wk7 => B_X5_times_1 n a1 a2 (L_X5_times_1 n a1 a2 m9)  v4 bey5 G6 wk7

def f_X5_times (n : Int32) (bey : Bool) (G : Nat → Nat → Int64) (wk : Nat → Int64) (a1 : Int32) (a2 : Int32) : Option (Int32 × Bool × (Nat → Nat → Int64) × (Nat → Int64)) :=
(f_X5_isGame a1).bind (fun (r1 : Bool) =>
if r1 = true then (
if (a2 : Int32) < (-1000) then (
some ((-2), bey, G, wk)) else (
if (1000 : Int32) < a2 then (
some ((-2), bey, G, wk)) else (
(f_X1_begin bey).bind (fun (r2 : Bool) =>
L_X5_times_1 n a1 a2  FU 0 r2 G wk)))) else (
some ((-1), bey, G, wk)))

theorem nI_X5_times : NameIn yX5_times 2 := ⟨by decide +kernel, by decide +kernel, by decide +kernel⟩
set_option maxRecDepth 100000 in
set_option maxHeartbeats 4000000 in
theorem lp_X5_times_1 {X : CX} {res : Int32 × Bool × (Nat → Nat → Int64) × (Nat → Int64)} {a1 : Int32} {a2 : Int32}   (hq : (xA q).Nodup) (C : Ok X cX5_times 4 (some .int) wsX5_times RX5 { frames := 3, cells := 0, slots := 0, locals := 65 } D vwCl (xT cs) (xA q) (xN tF) (some (.int res.1)) (xW q cs n nd es kn knd kes img tl ta tn sl res.2.1 wt un ed kwt kun ked tb sb sz sbs res.2.2.1 K P res.2.2.2 wh))  : ∀ fuel : Nat, ∀ v4 : Int32, ∀ bey5 : Bool, ∀ G6 : Nat → Nat → Int64, ∀ wk7 : Nat → Int64, VF X res (L_X5_times_1 n a1 a2 fuel v4 bey5 G6 wk7) (xW q cs n nd es kn knd kes img tl ta tn sl bey5 wt un ed kwt kun ked tb sb sz sbs G6 K P wk7 wh) 35 [(0, .ref (q 0)), (1, .int a1), (2, .int a2), (3, .int v4)] [] := by
  have iX0 : ∀ w ∈ wsX00, w ∈ wsX5_times := fun _ h => List.mem_cons_of_mem _ (List.mem_append_left _ (List.mem_append_right _ h))
  have iX5 : ∀ w ∈ wsX50, w ∈ wsX5_times := fun _ h => List.mem_cons_of_mem _ (List.mem_append_left _ (List.mem_append_left _ (List.mem_append_right _ h)))
  intro fuel
  induction fuel with
  | zero =>
    intro _ _ _ _
    exact v_none
  | succ fuel ih =>
    intro v4 bey5 G6 wk7
    show VF X res (B_X5_times_1 n a1 a2 (L_X5_times_1 n a1 a2 fuel)  v4 bey5 G6 wk7) _ _ _ _
    unfold B_X5_times_1
    refine v_iload_n C 3 dX5_times_35 rfl ?_
    refine v_aload_n C 0 dX5_times_36 rfl ?_
    refine v_get C (T := TX5) (n := 10) (C9 := RX5) iX5 0 rfl rfl 0 (by decide) (List.mem_of_getElem? (i := 2) rfl) rfl rfl dX5_times_37 ?_
    refine v_callV0v C 1 rfl rfl rfl (fun l9 r9 h9 => k_X0_sets (l := l9) hq  h9) gX5_times_X0_sets rfl nI_X0_sets ⟨rfl, rfl, Nat.le_of_ble_eq_true rfl, Nat.le_of_ble_eq_true rfl⟩ dX5_times_40 (Nat.le_of_ble_eq_true rfl) (fun r8 => ?_)
    refine v_icmp_ge C dX5_times_43 (tgt := 78) (by decide) ?_ ?_
    · refine v_aload_n C 0 dX5_times_78 rfl ?_
      refine v_iload_n C 1 dX5_times_79 rfl ?_
      refine v_callV1v C 0 rfl rfl rfl (fun l9 r9 h9 => k_X5_settleUnlessBeyond (l := l9) hq  h9) gX5_times_X5_settleUnlessBeyond rfl nI_X5_settleUnlessBeyond ⟨rfl, rfl, Nat.le_of_ble_eq_true rfl, Nat.le_of_ble_eq_true rfl⟩ dX5_times_80 (Nat.le_of_ble_eq_true rfl) (fun r9 => ?_)
      exact v_iret (rvf := fun (res : Int32 × Bool × (Nat → Nat → Int64) × (Nat → Int64)) => (some (.int res.1))) (wf := fun (res : Int32 × Bool × (Nat → Nat → Int64) × (Nat → Int64)) => (xW q cs n nd es kn knd kes img tl ta tn sl res.2.1 wt un ed kwt kun ked tb sb sz sbs res.2.2.1 K P res.2.2.2 wh)) C dX5_times_83 rfl rfl
    · refine v_aload_n C 0 dX5_times_46 rfl ?_
      refine v_get C (T := TX5) (n := 10) (C9 := RX5) iX5 0 rfl rfl 7 (by decide) (List.mem_of_getElem? (i := 3) rfl) rfl rfl dX5_times_47 ?_
      refine v_iload_n C 3 dX5_times_50 rfl ?_
      refine v_aload_n C 0 dX5_times_51 rfl ?_
      refine v_get C (T := TX5) (n := 10) (C9 := RX5) iX5 0 rfl rfl 6 (by decide) (List.mem_of_getElem? (i := 1) rfl) rfl rfl dX5_times_52 ?_
      refine v_aload_n C 0 dX5_times_55 rfl ?_
      refine v_get C (T := TX5) (n := 10) (C9 := RX5) iX5 0 rfl rfl 0 (by decide) (List.mem_of_getElem? (i := 2) rfl) rfl rfl dX5_times_56 ?_
      refine v_get C (T := TX0) (n := 7) (C9 := RX0) iX0 1 rfl rfl 6 (by decide) (List.mem_of_getElem? (i := 4) rfl) rfl rfl dX5_times_59 ?_
      refine v_iload_n C 1 dX5_times_62 rfl ?_
      refine v_aalda C (ad := fun j9 => q (22 + j9)) 10 3 rfl rfl (fun _ h9 => if_pos h9) dX5_times_63 (fun hb10 => ?_)
      have hj10 := inb_lt hb10
      refine v_iload_n C 3 dX5_times_64 rfl ?_
      refine v_lald C (22 + a1.toNatClampNeg) 1 (xW_G hj10) rfl dX5_times_65 ?_
      refine v_iload_n C 2 dX5_times_66 rfl ?_
      refine v_i2l C dX5_times_67 ?_
      refine v_callV2v C 6 rfl rfl rfl (fun l9 r9 h9 => k_X1_product (l := l9) hq  h9) gX5_times_X1_product rfl nI_X1_product ⟨rfl, rfl, Nat.le_of_ble_eq_true rfl, Nat.le_of_ble_eq_true rfl⟩ dX5_times_68 (Nat.le_of_ble_eq_true rfl) (fun r11 => ?_)
      refine v_last_nm C (fun wk12 => (xW q cs n nd es kn knd kes img tl ta tn sl r11.2 wt un ed kwt kun ked tb sb sz sbs G6 K P wk12 wh)) 19 1 rfl rfl rfl (fun _ => rfl) dX5_times_71 (fun wk12 => ?_)
      refine v_iinc_nm C (lvf := fun x13 => [(3, .int x13), (0, .ref (q 0)), (1, .int a1), (2, .int a2)]) 3 dX5_times_72 rfl rfl (by decide) (fun _ => rfl) (fun x13 => ?_)
      refine v_goto C dX5_times_75 (tgt := 35) (by decide) ?_
      exact v_sub [1, 2, 3, 0] rfl (ih x13 r11.2 G6 wk12)

set_option maxRecDepth 100000 in
set_option maxHeartbeats 4000000 in
theorem k_X5_times {l : Launch} {a1 : Int32} {a2 : Int32}  {res : Int32 × Bool × (Nat → Nat → Int64) × (Nat → Int64)} (hq : (xA q).Nodup)  (hf : f_X5_times n bey G wk a1 a2 = some res) : kMet l yX5_times wsX5_times { frames := 3, cells := 0, slots := 0, locals := 65 } D vwCl (xT cs) (xN tF) (xA q) [.ref (q 0), .int a1, .int a2] (xW q cs n nd es kn knd kes img tl ta tn sl bey wt un ed kwt kun ked tb sb sz sbs G K P wk wh) (some (.int res.1)) (xW q cs n nd es kn knd kes img tl ta tn sl res.2.1 wt un ed kwt kun ked tb sb sz sbs res.2.2.1 K P res.2.2.2 wh) := by
  have iX5 : ∀ w ∈ wsX50, w ∈ wsX5_times := fun _ h => List.mem_cons_of_mem _ (List.mem_append_left _ (List.mem_append_left _ (List.mem_append_right _ h)))
  refine kMet.of (cc := cX5_times) (nL := 4) (ret := (some .int)) (own := RX5) (lv := [(0, .ref (q 0)), (1, .int a1), (2, .int a2)]) (by decide +kernel) rfl rfl xN_ok hq (Nat.le_of_ble_eq_true rfl) rfl (fun X C => ?_)
  refine VF.of hf ?_
  unfold f_X5_times
  refine v_iload_n C 1 dX5_times_0 rfl ?_
  refine v_callSP1v C (fun l9 r9 h9 => k_X5_isGame (l := l9) h9) gX5_times_X5_isGame rfl nI_X5_isGame ⟨rfl, rfl, Nat.le_of_ble_eq_true rfl, Nat.le_of_ble_eq_true rfl⟩ dX5_times_1 (Nat.le_of_ble_eq_true rfl) (fun r1 => ?_)
  refine v_ifb_ne C (b := r1) dX5_times_4 (tgt := 9) (by decide) ?_ ?_
  · refine v_iload_n C 2 dX5_times_9 rfl ?_
    refine v_sipush C dX5_times_10 (v := (-1000)) (by decide) ?_
    refine v_icmp_lt C dX5_times_13 (tgt := 23) (by decide) ?_ ?_
    · refine v_bipush C dX5_times_23 (v := (-2)) (by decide) ?_
      exact v_iret (rvf := fun (res : Int32 × Bool × (Nat → Nat → Int64) × (Nat → Int64)) => (some (.int res.1))) (wf := fun (res : Int32 × Bool × (Nat → Nat → Int64) × (Nat → Int64)) => (xW q cs n nd es kn knd kes img tl ta tn sl res.2.1 wt un ed kwt kun ked tb sb sz sbs res.2.2.1 K P res.2.2.2 wh)) C dX5_times_25 rfl rfl
    · refine v_iload_n C 2 dX5_times_16 rfl ?_
      refine v_sipush C dX5_times_17 (v := 1000) (by decide) ?_
      refine v_icmp_le C dX5_times_20 (tgt := 26) (by decide) ?_ ?_
      · refine v_aload_n C 0 dX5_times_26 rfl ?_
        refine v_get C (T := TX5) (n := 10) (C9 := RX5) iX5 0 rfl rfl 6 (by decide) (List.mem_of_getElem? (i := 1) rfl) rfl rfl dX5_times_27 ?_
        refine v_callV0n C 6 rfl rfl rfl (fun l9 r9 h9 => k_X1_begin (l := l9) hq  h9) gX5_times_X1_begin rfl nI_X1_begin ⟨rfl, rfl, Nat.le_of_ble_eq_true rfl, Nat.le_of_ble_eq_true rfl⟩ dX5_times_30 (Nat.le_of_ble_eq_true rfl) (fun r2 => ?_)
        refine v_iconst C dX5_times_33 (v := 0) (by decide) ?_
        refine v_istore_n C (lv' := [(3, .int 0), (0, .ref (q 0)), (1, .int a1), (2, .int a2)]) dX5_times_34 rfl (by decide) rfl ?_
        refine v_sub [1, 2, 3, 0] rfl (lp_X5_times_1 hq C   FU 0 r2 G wk)
      · refine v_bipush C dX5_times_23 (v := (-2)) (by decide) ?_
        exact v_iret (rvf := fun (res : Int32 × Bool × (Nat → Nat → Int64) × (Nat → Int64)) => (some (.int res.1))) (wf := fun (res : Int32 × Bool × (Nat → Nat → Int64) × (Nat → Int64)) => (xW q cs n nd es kn knd kes img tl ta tn sl res.2.1 wt un ed kwt kun ked tb sb sz sbs res.2.2.1 K P res.2.2.2 wh)) C dX5_times_25 rfl rfl
  · refine v_iconst C dX5_times_7 (v := (-1)) (by decide) ?_
    exact v_iret (rvf := fun (res : Int32 × Bool × (Nat → Nat → Int64) × (Nat → Int64)) => (some (.int res.1))) (wf := fun (res : Int32 × Bool × (Nat → Nat → Int64) × (Nat → Int64)) => (xW q cs n nd es kn knd kes img tl ta tn sl res.2.1 wt un ed kwt kun ked tb sb sz sbs res.2.2.1 K P res.2.2.2 wh)) C dX5_times_8 rfl rfl

def B_X5_dual_1 (n : Int32) (a1 : Int32) (r3 : Int32) (rec5 : Int32 → Bool → (Nat → Nat → Int64) → (Nat → Int64) → Option (Int32 × Bool × (Nat → Nat → Int64) × (Nat → Int64)))  (v6 : Int32) (bey7 : Bool) (G8 : Nat → Nat → Int64) (wk9 : Nat → Int64) : Option (Int32 × Bool × (Nat → Nat → Int64) × (Nat → Int64)) :=
if (r3 : Int32) < v6 then (
(f_X5_settleUnlessBeyond n bey7 G8 wk9 a1).bind (fun (r10 : Int32 × (Nat → Nat → Int64)) =>
some (r10.1, bey7, r10.2, wk9))) else (
ck (inb r3 512) (
ck (inb (r3 ^^^ v6) 512) (
(f_X1_less bey7 ((G8 a1.toNatClampNeg) r3.toNatClampNeg) ((G8 a1.toNatClampNeg) (r3 ^^^ v6).toNatClampNeg)).bind (fun (r11 : Int64 × Bool) =>
ck (inb v6 512) (
nm (vp_updL wk9 v6.toNatClampNeg r11.1) (fun (wk12 : Nat → Int64) =>
nm (v6 + 1) (fun (x13 : Int32) =>
rec5 x13 r11.2 G8 wk12)))))))
def L_X5_dual_1 (n : Int32) (a1 : Int32) (r3 : Int32)  : Nat → Int32 → Bool → (Nat → Nat → Int64) → (Nat → Int64) → Option (Int32 × Bool × (Nat → Nat → Int64) × (Nat → Int64))
  | 0, _, _, _, _ => none
  | m9 + 1, v6, bey7, G8, wk9 => B_X5_dual_1 n a1 r3 (L_X5_dual_1 n a1 r3 m9)  v6 bey7 G8 wk9

def f_X5_dual (n : Int32) (bey : Bool) (G : Nat → Nat → Int64) (wk : Nat → Int64) (a1 : Int32) : Option (Int32 × Bool × (Nat → Nat → Int64) × (Nat → Int64)) :=
(f_X5_isGame a1).bind (fun (r1 : Bool) =>
if r1 = true then (
ck (inb a1 4) (
(f_X0_everyone n).bind (fun (r3 : Int32) =>
(f_X1_begin bey).bind (fun (r4 : Bool) =>
L_X5_dual_1 n a1 r3  FU 0 r4 G wk)))) else (
some ((-1), bey, G, wk)))

theorem nI_X5_dual : NameIn yX5_dual 1 := ⟨by decide +kernel, by decide +kernel, by decide +kernel⟩
set_option maxRecDepth 100000 in
set_option maxHeartbeats 4000000 in
theorem lp_X5_dual_1 {X : CX} {res : Int32 × Bool × (Nat → Nat → Int64) × (Nat → Int64)} {a1 : Int32}  {r3 : Int32} (hq : (xA q).Nodup) (C : Ok X cX5_dual 5 (some .int) wsX5_dual RX5 { frames := 3, cells := 0, slots := 0, locals := 65 } D vwCl (xT cs) (xA q) (xN tF) (some (.int res.1)) (xW q cs n nd es kn knd kes img tl ta tn sl res.2.1 wt un ed kwt kun ked tb sb sz sbs res.2.2.1 K P res.2.2.2 wh)) (hj2 : a1.toNatClampNeg < 4) : ∀ fuel : Nat, ∀ v6 : Int32, ∀ bey7 : Bool, ∀ G8 : Nat → Nat → Int64, ∀ wk9 : Nat → Int64, VF X res (L_X5_dual_1 n a1 r3 fuel v6 bey7 G8 wk9) (xW q cs n nd es kn knd kes img tl ta tn sl bey7 wt un ed kwt kun ked tb sb sz sbs G8 K P wk9 wh) 37 [(0, .ref (q 0)), (1, .int a1), (2, .ref (q (22 + a1.toNatClampNeg))), (3, .int r3), (4, .int v6)] [] := by
  have iX5 : ∀ w ∈ wsX50, w ∈ wsX5_dual := fun _ h => List.mem_cons_of_mem _ (List.mem_append_left _ (List.mem_append_left _ (List.mem_append_right _ h)))
  intro fuel
  induction fuel with
  | zero =>
    intro _ _ _ _
    exact v_none
  | succ fuel ih =>
    intro v6 bey7 G8 wk9
    show VF X res (B_X5_dual_1 n a1 r3 (L_X5_dual_1 n a1 r3 fuel)  v6 bey7 G8 wk9) _ _ _ _
    unfold B_X5_dual_1
    refine v_iload C 4 dX5_dual_37 rfl ?_
    refine v_iload_n C 3 dX5_dual_39 rfl ?_
    refine v_icmp_gt C dX5_dual_40 (tgt := 72) (by decide) ?_ ?_
    · refine v_aload_n C 0 dX5_dual_72 rfl ?_
      refine v_iload_n C 1 dX5_dual_73 rfl ?_
      refine v_callV1v C 0 rfl rfl rfl (fun l9 r9 h9 => k_X5_settleUnlessBeyond (l := l9) hq  h9) gX5_dual_X5_settleUnlessBeyond rfl nI_X5_settleUnlessBeyond ⟨rfl, rfl, Nat.le_of_ble_eq_true rfl, Nat.le_of_ble_eq_true rfl⟩ dX5_dual_74 (Nat.le_of_ble_eq_true rfl) (fun r10 => ?_)
      exact v_iret (rvf := fun (res : Int32 × Bool × (Nat → Nat → Int64) × (Nat → Int64)) => (some (.int res.1))) (wf := fun (res : Int32 × Bool × (Nat → Nat → Int64) × (Nat → Int64)) => (xW q cs n nd es kn knd kes img tl ta tn sl res.2.1 wt un ed kwt kun ked tb sb sz sbs res.2.2.1 K P res.2.2.2 wh)) C dX5_dual_77 rfl rfl
    · refine v_aload_n C 0 dX5_dual_43 rfl ?_
      refine v_get C (T := TX5) (n := 10) (C9 := RX5) iX5 0 rfl rfl 7 (by decide) (List.mem_of_getElem? (i := 4) rfl) rfl rfl dX5_dual_44 ?_
      refine v_iload C 4 dX5_dual_47 rfl ?_
      refine v_aload_n C 0 dX5_dual_49 rfl ?_
      refine v_get C (T := TX5) (n := 10) (C9 := RX5) iX5 0 rfl rfl 6 (by decide) (List.mem_of_getElem? (i := 3) rfl) rfl rfl dX5_dual_50 ?_
      refine v_aload_n C 2 dX5_dual_53 rfl ?_
      refine v_iload_n C 3 dX5_dual_54 rfl ?_
      refine v_lald C (22 + a1.toNatClampNeg) 1 (xW_G hj2) rfl dX5_dual_55 ?_
      refine v_aload_n C 2 dX5_dual_56 rfl ?_
      refine v_iload_n C 3 dX5_dual_57 rfl ?_
      refine v_iload C 4 dX5_dual_58 rfl ?_
      refine v_ixor C dX5_dual_60 ?_
      refine v_lald C (22 + a1.toNatClampNeg) 1 (xW_G hj2) rfl dX5_dual_61 ?_
      refine v_callV2v C 6 rfl rfl rfl (fun l9 r9 h9 => k_X1_less (l := l9) hq  h9) gX5_dual_X1_less rfl nI_X1_less ⟨rfl, rfl, Nat.le_of_ble_eq_true rfl, Nat.le_of_ble_eq_true rfl⟩ dX5_dual_62 (Nat.le_of_ble_eq_true rfl) (fun r11 => ?_)
      refine v_last_nm C (fun wk12 => (xW q cs n nd es kn knd kes img tl ta tn sl r11.2 wt un ed kwt kun ked tb sb sz sbs G8 K P wk12 wh)) 19 1 rfl rfl rfl (fun _ => rfl) dX5_dual_65 (fun wk12 => ?_)
      refine v_iinc_nm C (lvf := fun x13 => [(4, .int x13), (0, .ref (q 0)), (1, .int a1), (2, .ref (q (22 + a1.toNatClampNeg))), (3, .int r3)]) 4 dX5_dual_66 rfl rfl (by decide) (fun _ => rfl) (fun x13 => ?_)
      refine v_goto C dX5_dual_69 (tgt := 37) (by decide) ?_
      exact v_sub [1, 2, 3, 4, 0] rfl (ih x13 r11.2 G8 wk12)

set_option maxRecDepth 100000 in
set_option maxHeartbeats 4000000 in
theorem k_X5_dual {l : Launch} {a1 : Int32}  {res : Int32 × Bool × (Nat → Nat → Int64) × (Nat → Int64)} (hq : (xA q).Nodup)  (hf : f_X5_dual n bey G wk a1 = some res) : kMet l yX5_dual wsX5_dual { frames := 3, cells := 0, slots := 0, locals := 65 } D vwCl (xT cs) (xN tF) (xA q) [.ref (q 0), .int a1] (xW q cs n nd es kn knd kes img tl ta tn sl bey wt un ed kwt kun ked tb sb sz sbs G K P wk wh) (some (.int res.1)) (xW q cs n nd es kn knd kes img tl ta tn sl res.2.1 wt un ed kwt kun ked tb sb sz sbs res.2.2.1 K P res.2.2.2 wh) := by
  have iX0 : ∀ w ∈ wsX00, w ∈ wsX5_dual := fun _ h => List.mem_cons_of_mem _ (List.mem_append_left _ (List.mem_append_right _ h))
  have iX5 : ∀ w ∈ wsX50, w ∈ wsX5_dual := fun _ h => List.mem_cons_of_mem _ (List.mem_append_left _ (List.mem_append_left _ (List.mem_append_right _ h)))
  refine kMet.of (cc := cX5_dual) (nL := 5) (ret := (some .int)) (own := RX5) (lv := [(0, .ref (q 0)), (1, .int a1)]) (by decide +kernel) rfl rfl xN_ok hq (Nat.le_of_ble_eq_true rfl) rfl (fun X C => ?_)
  refine VF.of hf ?_
  unfold f_X5_dual
  refine v_iload_n C 1 dX5_dual_0 rfl ?_
  refine v_callSP1v C (fun l9 r9 h9 => k_X5_isGame (l := l9) h9) gX5_dual_X5_isGame rfl nI_X5_isGame ⟨rfl, rfl, Nat.le_of_ble_eq_true rfl, Nat.le_of_ble_eq_true rfl⟩ dX5_dual_1 (Nat.le_of_ble_eq_true rfl) (fun r1 => ?_)
  refine v_ifb_ne C (b := r1) dX5_dual_4 (tgt := 9) (by decide) ?_ ?_
  · refine v_aload_n C 0 dX5_dual_9 rfl ?_
    refine v_get C (T := TX5) (n := 10) (C9 := RX5) iX5 0 rfl rfl 0 (by decide) (List.mem_of_getElem? (i := 1) rfl) rfl rfl dX5_dual_10 ?_
    refine v_get C (T := TX0) (n := 7) (C9 := RX0) iX0 1 rfl rfl 6 (by decide) (List.mem_of_getElem? (i := 2) rfl) rfl rfl dX5_dual_13 ?_
    refine v_iload_n C 1 dX5_dual_16 rfl ?_
    refine v_aalda C (ad := fun j9 => q (22 + j9)) 10 3 rfl rfl (fun _ h9 => if_pos h9) dX5_dual_17 (fun hb2 => ?_)
    have hj2 := inb_lt hb2
    refine v_astore_n C (lv' := [(2, .ref (q (22 + a1.toNatClampNeg))), (0, .ref (q 0)), (1, .int a1)]) dX5_dual_18 rfl (by decide) rfl ?_
    refine v_aload_n C 1 dX5_dual_19 rfl ?_
    refine v_get C (T := TX5) (n := 10) (C9 := RX5) iX5 0 rfl rfl 0 (by decide) (List.mem_of_getElem? (i := 1) rfl) rfl rfl dX5_dual_20 ?_
    refine v_callV0v C 1 rfl rfl rfl (fun l9 r9 h9 => k_X0_everyone (l := l9) hq  h9) gX5_dual_X0_everyone rfl nI_X0_everyone ⟨rfl, rfl, Nat.le_of_ble_eq_true rfl, Nat.le_of_ble_eq_true rfl⟩ dX5_dual_23 (Nat.le_of_ble_eq_true rfl) (fun r3 => ?_)
    refine v_istore_n C (lv' := [(3, .int r3), (2, .ref (q (22 + a1.toNatClampNeg))), (0, .ref (q 0)), (1, .int a1)]) dX5_dual_26 rfl (by decide) rfl ?_
    refine v_aload_n C 2 dX5_dual_27 rfl ?_
    refine v_get C (T := TX5) (n := 10) (C9 := RX5) iX5 0 rfl rfl 6 (by decide) (List.mem_of_getElem? (i := 3) rfl) rfl rfl dX5_dual_28 ?_
    refine v_callV0n C 6 rfl rfl rfl (fun l9 r9 h9 => k_X1_begin (l := l9) hq  h9) gX5_dual_X1_begin rfl nI_X1_begin ⟨rfl, rfl, Nat.le_of_ble_eq_true rfl, Nat.le_of_ble_eq_true rfl⟩ dX5_dual_31 (Nat.le_of_ble_eq_true rfl) (fun r4 => ?_)
    refine v_iconst C dX5_dual_34 (v := 0) (by decide) ?_
    refine v_istore C (lv' := [(4, .int 0), (3, .int r3), (2, .ref (q (22 + a1.toNatClampNeg))), (0, .ref (q 0)), (1, .int a1)]) dX5_dual_35 (by decide) rfl ?_
    refine v_sub [3, 4, 2, 1, 0] rfl (lp_X5_dual_1 hq C hj2  FU 0 r4 G wk)
  · refine v_iconst C dX5_dual_7 (v := (-1)) (by decide) ?_
    exact v_iret (rvf := fun (res : Int32 × Bool × (Nat → Nat → Int64) × (Nat → Int64)) => (some (.int res.1))) (wf := fun (res : Int32 × Bool × (Nat → Nat → Int64) × (Nat → Int64)) => (xW q cs n nd es kn knd kes img tl ta tn sl res.2.1 wt un ed kwt kun ked tb sb sz sbs res.2.2.1 K P res.2.2.2 wh)) C dX5_dual_8 rfl rfl

def B_X5_bestSplit_1 (wk : Nat → Int64) (vs : Nat → Int64) (a2 : Int32) (x3 : Int32) (rec5 : Int64 → Int32 → Int32 → Bool → Option (Int64 × Bool))  (v6 : Int64) (v7 : Int32) (v8 : Int32) (bey9 : Bool) : Option (Int64 × Bool) :=
(f_J6_bitCount_0f7a4 x3).bind (fun (r10 : Int32) =>
if (v8 : Int32) < (1 <<< (r10 &&& 31)) then (
(f_X5_nextWithin v7 x3).bind (fun (r11 : Int32) =>
ck (inb (a2 &&& (r11 ^^^ (-1))) 512) (
ck (inb r11 512) (
(f_X1_plus bey9 (vs (a2 &&& (r11 ^^^ (-1))).toNatClampNeg) (wk r11.toNatClampNeg)).bind (fun (r12 : Int64 × Bool) =>
nm (lMax v6 r12.1) (fun (x13 : Int64) =>
nm (v8 + 1) (fun (x14 : Int32) =>
rec5 x13 r11 x14 r12.2))))))) else (
some (v6, bey9)))
def L_X5_bestSplit_1 (wk : Nat → Int64) (vs : Nat → Int64) (a2 : Int32) (x3 : Int32)  : Nat → Int64 → Int32 → Int32 → Bool → Option (Int64 × Bool)
  | 0, _, _, _, _ => none
  | m9 + 1, v6, v7, v8, bey9 => B_X5_bestSplit_1 wk vs a2 x3 (L_X5_bestSplit_1 wk vs a2 x3 m9)  v6 v7 v8 bey9

def f_X5_bestSplit (bey : Bool) (wk : Nat → Int64) (vs : Nat → Int64) (a2 : Int32) : Option (Int64 × Bool) :=
(f_X5_leastOf a2).bind (fun (r1 : Int32) =>
nm (1 <<< (r1 &&& 31)) (fun (x2 : Int32) =>
nm (a2 &&& (x2 ^^^ (-1))) (fun (x3 : Int32) =>
ck (inb a2 512) (
nm (vs a2.toNatClampNeg) (fun (x4 : Int64) =>
L_X5_bestSplit_1 wk vs a2 x3  FU x4 0 1 bey)))))

theorem nI_X5_bestSplit : NameIn yX5_bestSplit 2 := ⟨by decide +kernel, by decide +kernel, by decide +kernel⟩
set_option maxRecDepth 100000 in
set_option maxHeartbeats 4000000 in
theorem lp_X5_bestSplit_1 {X : CX} {res : Int64 × Bool} {a2 : Int32} {vj : Nat} {x3 : Int32} (hq : (xA q).Nodup) (C : Ok X cX5_bestSplit 9 (some .long) wsX5_bestSplit RX5 { frames := 2, cells := 0, slots := 0, locals := 42 } D vwCl (xT cs) (xA q) (xN tF) (some (.long res.1)) (xW q cs n nd es kn knd kes img tl ta tn sl res.2 wt un ed kwt kun ked tb sb sz sbs G K P wk wh)) (hvj : vj < 4) : ∀ fuel : Nat, ∀ v6 : Int64, ∀ v7 : Int32, ∀ v8 : Int32, ∀ bey9 : Bool, VF X res (L_X5_bestSplit_1 wk (G vj) a2 x3 fuel v6 v7 v8 bey9) (xW q cs n nd es kn knd kes img tl ta tn sl bey9 wt un ed kwt kun ked tb sb sz sbs G K P wk wh) 25 [(0, .ref (q 0)), (1, .ref (q (22 + vj))), (2, .int a2), (4, .int x3), (5, .long v6), (7, .int v7), (8, .int v8)] [] := by
  have iX5 : ∀ w ∈ wsX50, w ∈ wsX5_bestSplit := fun _ h => List.mem_cons_of_mem _ (List.mem_append_left _ (List.mem_append_right _ h))
  intro fuel
  induction fuel with
  | zero =>
    intro _ _ _ _
    exact v_none
  | succ fuel ih =>
    intro v6 v7 v8 bey9
    show VF X res (B_X5_bestSplit_1 wk (G vj) a2 x3 (L_X5_bestSplit_1 wk (G vj) a2 x3 fuel)  v6 v7 v8 bey9) _ _ _ _
    unfold B_X5_bestSplit_1
    refine v_iload C 6 dX5_bestSplit_25 rfl ?_
    refine v_iconst C dX5_bestSplit_27 (v := 1) (by decide) ?_
    refine v_iload C 3 dX5_bestSplit_28 rfl ?_
    refine v_callSP1v C (fun l9 r9 h9 => k_J6_bitCount_0f7a4 (l := l9) h9) gX5_bestSplit_J6_bitCount_0f7a4 rfl nI_J6_bitCount_0f7a4 ⟨rfl, rfl, Nat.le_of_ble_eq_true rfl, Nat.le_of_ble_eq_true rfl⟩ dX5_bestSplit_30 (Nat.le_of_ble_eq_true rfl) (fun r10 => ?_)
    refine v_ishl C dX5_bestSplit_33 ?_
    refine v_icmp_ge C dX5_bestSplit_34 (tgt := 81) (by decide) ?_ ?_
    · refine v_lload C 4 dX5_bestSplit_81 rfl ?_
      exact v_lret (rvf := fun (res : Int64 × Bool) => (some (.long res.1))) (wf := fun (res : Int64 × Bool) => (xW q cs n nd es kn knd kes img tl ta tn sl res.2 wt un ed kwt kun ked tb sb sz sbs G K P wk wh)) C dX5_bestSplit_83 rfl rfl
    · refine v_iload C 5 dX5_bestSplit_37 rfl ?_
      refine v_iload C 3 dX5_bestSplit_39 rfl ?_
      refine v_callSP2v C (fun l9 r9 h9 => k_X5_nextWithin (l := l9) h9) gX5_bestSplit_X5_nextWithin rfl nI_X5_nextWithin ⟨rfl, rfl, Nat.le_of_ble_eq_true rfl, Nat.le_of_ble_eq_true rfl⟩ dX5_bestSplit_41 (Nat.le_of_ble_eq_true rfl) (fun r11 => ?_)
      refine v_istore C (lv' := [(7, .int r11), (0, .ref (q 0)), (1, .ref (q (22 + vj))), (2, .int a2), (4, .int x3), (5, .long v6), (8, .int v8)]) dX5_bestSplit_44 (by decide) rfl ?_
      refine v_lload C 5 dX5_bestSplit_46 rfl ?_
      refine v_aload_n C 1 dX5_bestSplit_48 rfl ?_
      refine v_get C (T := TX5) (n := 10) (C9 := RX5) iX5 0 rfl rfl 6 (by decide) (List.mem_of_getElem? (i := 1) rfl) rfl rfl dX5_bestSplit_49 ?_
      refine v_aload_n C 2 dX5_bestSplit_52 rfl ?_
      refine v_iload_n C 3 dX5_bestSplit_53 rfl ?_
      refine v_iload C 0 dX5_bestSplit_54 rfl ?_
      refine v_iconst C dX5_bestSplit_56 (v := (-1)) (by decide) ?_
      refine v_ixor C dX5_bestSplit_57 ?_
      refine v_iand C dX5_bestSplit_58 ?_
      refine v_lald C (22 + vj) 1 (xW_G hvj) rfl dX5_bestSplit_59 ?_
      refine v_aload_n C 1 dX5_bestSplit_60 rfl ?_
      refine v_get C (T := TX5) (n := 10) (C9 := RX5) iX5 0 rfl rfl 7 (by decide) (List.mem_of_getElem? (i := 2) rfl) rfl rfl dX5_bestSplit_61 ?_
      refine v_iload C 0 dX5_bestSplit_64 rfl ?_
      refine v_lald C 19 1 rfl rfl dX5_bestSplit_66 ?_
      refine v_callV2v C 6 rfl rfl rfl (fun l9 r9 h9 => k_X1_plus (l := l9) hq  h9) gX5_bestSplit_X1_plus rfl nI_X1_plus ⟨rfl, rfl, Nat.le_of_ble_eq_true rfl, Nat.le_of_ble_eq_true rfl⟩ dX5_bestSplit_67 (Nat.le_of_ble_eq_true rfl) (fun r12 => ?_)
      refine v_mmaxl C (List.mem_of_getElem? (i := 3) rfl) (List.mem_of_getElem? (i := 4) rfl) (List.mem_of_getElem? (i := 5) rfl) (List.mem_of_getElem? (i := 6) rfl) (Nat.le_of_ble_eq_true rfl) (Nat.le_of_ble_eq_true rfl) dX5_bestSplit_70 ?_
      refine v_lstore_nm C (lvf := fun x13 => [(5, .long x13), (7, .int r11), (0, .ref (q 0)), (1, .ref (q (22 + vj))), (2, .int a2), (4, .int x3), (8, .int v8)]) dX5_bestSplit_73 (by decide) (fun _ => rfl) (fun x13 => ?_)
      refine v_iinc_nm C (lvf := fun x14 => [(8, .int x14), (5, .long x13), (7, .int r11), (0, .ref (q 0)), (1, .ref (q (22 + vj))), (2, .int a2), (4, .int x3)]) 6 dX5_bestSplit_75 rfl rfl (by decide) (fun _ => rfl) (fun x14 => ?_)
      refine v_goto C dX5_bestSplit_78 (tgt := 25) (by decide) ?_
      exact v_sub [3, 4, 5, 6, 1, 2, 0] rfl (ih x13 r11 x14 r12.2)

set_option maxRecDepth 100000 in
set_option maxHeartbeats 4000000 in
theorem k_X5_bestSplit {l : Launch} {a2 : Int32} {vj : Nat} {res : Int64 × Bool} (hq : (xA q).Nodup) (hvj : vj < 4) (hf : f_X5_bestSplit bey wk (G vj) a2 = some res) : kMet l yX5_bestSplit wsX5_bestSplit { frames := 2, cells := 0, slots := 0, locals := 42 } D vwCl (xT cs) (xN tF) (xA q) [.ref (q 0), .ref (q (22 + vj)), .int a2] (xW q cs n nd es kn knd kes img tl ta tn sl bey wt un ed kwt kun ked tb sb sz sbs G K P wk wh) (some (.long res.1)) (xW q cs n nd es kn knd kes img tl ta tn sl res.2 wt un ed kwt kun ked tb sb sz sbs G K P wk wh) := by
  refine kMet.of (cc := cX5_bestSplit) (nL := 9) (ret := (some .long)) (own := RX5) (lv := [(0, .ref (q 0)), (1, .ref (q (22 + vj))), (2, .int a2)]) (by decide +kernel) rfl rfl xN_ok hq (Nat.le_of_ble_eq_true rfl) rfl (fun X C => ?_)
  refine VF.of hf ?_
  unfold f_X5_bestSplit
  refine v_iconst C dX5_bestSplit_0 (v := 1) (by decide) ?_
  refine v_iload_n C 2 dX5_bestSplit_1 rfl ?_
  refine v_callSP1v C (fun l9 r9 h9 => k_X5_leastOf (l := l9) h9) gX5_bestSplit_X5_leastOf rfl nI_X5_leastOf ⟨rfl, rfl, Nat.le_of_ble_eq_true rfl, Nat.le_of_ble_eq_true rfl⟩ dX5_bestSplit_2 (Nat.le_of_ble_eq_true rfl) (fun r1 => ?_)
  refine v_ishl C dX5_bestSplit_5 ?_
  refine v_istore_n_nm C (lvf := fun x2 => [(3, .int x2), (0, .ref (q 0)), (1, .ref (q (22 + vj))), (2, .int a2)]) dX5_bestSplit_6 rfl (by decide) (fun _ => rfl) (fun x2 => ?_)
  refine v_iload_n C 3 dX5_bestSplit_7 rfl ?_
  refine v_iload_n C 0 dX5_bestSplit_8 rfl ?_
  refine v_iconst C dX5_bestSplit_9 (v := (-1)) (by decide) ?_
  refine v_ixor C dX5_bestSplit_10 ?_
  refine v_iand C dX5_bestSplit_11 ?_
  refine v_istore_nm C (lvf := fun x3 => [(4, .int x3), (3, .int x2), (0, .ref (q 0)), (1, .ref (q (22 + vj))), (2, .int a2)]) dX5_bestSplit_12 (by decide) (fun _ => rfl) (fun x3 => ?_)
  refine v_aload_n C 3 dX5_bestSplit_14 rfl ?_
  refine v_iload_n C 4 dX5_bestSplit_15 rfl ?_
  refine v_lald C (22 + vj) 1 (xW_G hvj) rfl dX5_bestSplit_16 ?_
  refine v_lstore_nm C (lvf := fun x4 => [(5, .long x4), (4, .int x3), (3, .int x2), (0, .ref (q 0)), (1, .ref (q (22 + vj))), (2, .int a2)]) dX5_bestSplit_17 (by decide) (fun _ => rfl) (fun x4 => ?_)
  refine v_iconst C dX5_bestSplit_19 (v := 0) (by decide) ?_
  refine v_istore C (lv' := [(7, .int 0), (5, .long x4), (4, .int x3), (3, .int x2), (0, .ref (q 0)), (1, .ref (q (22 + vj))), (2, .int a2)]) dX5_bestSplit_20 (by decide) rfl ?_
  refine v_iconst C dX5_bestSplit_22 (v := 1) (by decide) ?_
  refine v_istore C (lv' := [(8, .int 1), (7, .int 0), (5, .long x4), (4, .int x3), (3, .int x2), (0, .ref (q 0)), (1, .ref (q (22 + vj))), (2, .int a2)]) dX5_bestSplit_23 (by decide) rfl ?_
  refine v_sub [5, 6, 7, 3, 2, 1, 0] rfl (lp_X5_bestSplit_1 hq C hvj  FU x4 0 1 bey)

end WK
