section WK
variable {q : Nat → Nat} {cs : Nat → ClassId} {D : va_G} {tF : Nat} {n : Int32} {nd : Int32} {es : Int32} {kn : Int32} {knd : Int32} {kes : Int32} {img : Bool} {tl : Int32} {ta : Int32} {tn : Int64} {sl : Int32} {bey : Bool} {wt : Nat → Int32} {un : Nat → Int32} {ed : Nat → Int32} {kwt : Nat → Int32} {kun : Nat → Int32} {ked : Nat → Int32} {tb : Nat → Int32} {sb : Nat → Int32} {sz : Nat → Int32} {sbs : Nat → Int32} {G : Nat → Nat → Int64} {K : Nat → Nat → Int64} {P : Nat → Nat → Int64} {wk : Nat → Int64} {wh : Nat → Int64}
def f_X1_begin (bey : Bool) : Option (Bool) :=
nm false (fun (bey1 : Bool) =>
some bey1)

theorem nI_X1_begin : NameIn yX1_begin 0 := ⟨by decide +kernel, by decide +kernel, by decide +kernel⟩
set_option maxRecDepth 100000 in
set_option maxHeartbeats 4000000 in
theorem k_X1_begin {l : Launch}   {res : Bool} (hq : (xA q).Nodup)  (hf : f_X1_begin bey = some res) : kMet l yX1_begin wsX1_begin { frames := 0, cells := 0, slots := 0, locals := 0 } D vwCl (xT cs) (xN tF) (xA q) [.ref (q 6)] (xW q cs n nd es kn knd kes img tl ta tn sl bey wt un ed kwt kun ked tb sb sz sbs G K P wk wh) none (xW q cs n nd es kn knd kes img tl ta tn sl res wt un ed kwt kun ked tb sb sz sbs G K P wk wh) := by
  have iX1 : ∀ w ∈ wsX10, w ∈ wsX1_begin := fun _ h => List.mem_cons_of_mem _ (List.mem_append_right _ h)
  refine kMet.of (cc := cX1_begin) (nL := 1) (ret := none) (own := RX1) (lv := [(0, .ref (q 6))]) (by decide +kernel) rfl rfl xN_ok hq (Nat.le_of_ble_eq_true rfl) rfl (fun X C => ?_)
  refine VF.of hf ?_
  unfold f_X1_begin
  refine v_aload_n C 0 dX1_begin_0 rfl ?_
  refine v_iconst C dX1_begin_1 (v := 0) (by decide) ?_
  refine v_put_nm C (v := false) (fun z9 => Value.int (bI z9)) (ty := .boolean) (T := TX1) (n := 1) (C9 := RX1) (ty0 := tyX1) (fun bey1 => (xW q cs n nd es kn knd kes img tl ta tn sl bey1 wt un ed kwt kun ked tb sb sz sbs G K P wk wh)) iX1 tyX1_ok nmX1 6 rfl rfl rfl 0 (by decide) (List.mem_of_getElem? (i := 1) rfl) rfl rfl rfl bI_nar bI_fit (Nat.le_of_ble_eq_true rfl) (fun _ => rfl) dX1_begin_2 (fun bey1 => ?_)
  exact v_vret (rvf := fun (res : Bool) => none) (wf := fun (res : Bool) => (xW q cs n nd es kn knd kes img tl ta tn sl res wt un ed kwt kun ked tb sb sz sbs G K P wk wh)) C dX1_begin_5 rfl rfl

def f_X1_plus (bey : Bool) (a1 : Int64) (a2 : Int64) : Option (Int64 × Bool) :=
nm (a1 + a2) (fun (x1 : Int64) =>
if ((a1 ^^^ x1) &&& (a2 ^^^ x1) : Int64) < 0 then (
nm true (fun (bey2 : Bool) =>
some (x1, bey2))) else (
some (x1, bey)))

theorem nI_X1_plus : NameIn yX1_plus 2 := ⟨by decide +kernel, by decide +kernel, by decide +kernel⟩
set_option maxRecDepth 100000 in
set_option maxHeartbeats 4000000 in
theorem k_X1_plus {l : Launch} {a1 : Int64} {a2 : Int64}  {res : Int64 × Bool} (hq : (xA q).Nodup)  (hf : f_X1_plus bey a1 a2 = some res) : kMet l yX1_plus wsX1_plus { frames := 0, cells := 0, slots := 0, locals := 0 } D vwCl (xT cs) (xN tF) (xA q) [.ref (q 6), .long a1, .long a2] (xW q cs n nd es kn knd kes img tl ta tn sl bey wt un ed kwt kun ked tb sb sz sbs G K P wk wh) (some (.long res.1)) (xW q cs n nd es kn knd kes img tl ta tn sl res.2 wt un ed kwt kun ked tb sb sz sbs G K P wk wh) := by
  have iX1 : ∀ w ∈ wsX10, w ∈ wsX1_plus := fun _ h => List.mem_cons_of_mem _ (List.mem_append_right _ h)
  refine kMet.of (cc := cX1_plus) (nL := 7) (ret := (some .long)) (own := RX1) (lv := [(0, .ref (q 6)), (1, .long a1), (3, .long a2)]) (by decide +kernel) rfl rfl xN_ok hq (Nat.le_of_ble_eq_true rfl) rfl (fun X C => ?_)
  refine VF.of hf ?_
  unfold f_X1_plus
  refine v_lload_n C 1 dX1_plus_0 rfl ?_
  refine v_lload_n C 2 dX1_plus_1 rfl ?_
  refine v_ladd C dX1_plus_2 ?_
  refine v_lstore_nm C (lvf := fun x1 => [(5, .long x1), (0, .ref (q 6)), (1, .long a1), (3, .long a2)]) dX1_plus_3 (by decide) (fun _ => rfl) (fun x1 => ?_)
  refine v_lload_n C 2 dX1_plus_5 rfl ?_
  refine v_lload C 0 dX1_plus_6 rfl ?_
  refine v_lxor C dX1_plus_8 ?_
  refine v_lload_n C 3 dX1_plus_9 rfl ?_
  refine v_lload C 0 dX1_plus_10 rfl ?_
  refine v_lxor C dX1_plus_12 ?_
  refine v_land C dX1_plus_13 ?_
  refine v_lconst C dX1_plus_14 (v := 0) (by decide) ?_
  refine v_lcmp_ge C dX1_plus_15 dX1_plus_16 (tgt := 24) (by decide) ?_ ?_
  · refine v_lload C 0 dX1_plus_24 rfl ?_
    exact v_lret (rvf := fun (res : Int64 × Bool) => (some (.long res.1))) (wf := fun (res : Int64 × Bool) => (xW q cs n nd es kn knd kes img tl ta tn sl res.2 wt un ed kwt kun ked tb sb sz sbs G K P wk wh)) C dX1_plus_26 rfl rfl
  · refine v_aload_n C 1 dX1_plus_19 rfl ?_
    refine v_iconst C dX1_plus_20 (v := 1) (by decide) ?_
    refine v_put_nm C (v := true) (fun z9 => Value.int (bI z9)) (ty := .boolean) (T := TX1) (n := 1) (C9 := RX1) (ty0 := tyX1) (fun bey2 => (xW q cs n nd es kn knd kes img tl ta tn sl bey2 wt un ed kwt kun ked tb sb sz sbs G K P wk wh)) iX1 tyX1_ok nmX1 6 rfl rfl rfl 0 (by decide) (List.mem_of_getElem? (i := 1) rfl) rfl rfl rfl bI_nar bI_fit (Nat.le_of_ble_eq_true rfl) (fun _ => rfl) dX1_plus_21 (fun bey2 => ?_)
    refine v_lload C 0 dX1_plus_24 rfl ?_
    exact v_lret (rvf := fun (res : Int64 × Bool) => (some (.long res.1))) (wf := fun (res : Int64 × Bool) => (xW q cs n nd es kn knd kes img tl ta tn sl res.2 wt un ed kwt kun ked tb sb sz sbs G K P wk wh)) C dX1_plus_26 rfl rfl

def f_X1_less (bey : Bool) (a1 : Int64) (a2 : Int64) : Option (Int64 × Bool) :=
nm (a1 - a2) (fun (x1 : Int64) =>
if ((a1 ^^^ a2) &&& (a1 ^^^ x1) : Int64) < 0 then (
nm true (fun (bey2 : Bool) =>
some (x1, bey2))) else (
some (x1, bey)))

theorem nI_X1_less : NameIn yX1_less 2 := ⟨by decide +kernel, by decide +kernel, by decide +kernel⟩
set_option maxRecDepth 100000 in
set_option maxHeartbeats 4000000 in
theorem k_X1_less {l : Launch} {a1 : Int64} {a2 : Int64}  {res : Int64 × Bool} (hq : (xA q).Nodup)  (hf : f_X1_less bey a1 a2 = some res) : kMet l yX1_less wsX1_less { frames := 0, cells := 0, slots := 0, locals := 0 } D vwCl (xT cs) (xN tF) (xA q) [.ref (q 6), .long a1, .long a2] (xW q cs n nd es kn knd kes img tl ta tn sl bey wt un ed kwt kun ked tb sb sz sbs G K P wk wh) (some (.long res.1)) (xW q cs n nd es kn knd kes img tl ta tn sl res.2 wt un ed kwt kun ked tb sb sz sbs G K P wk wh) := by
  have iX1 : ∀ w ∈ wsX10, w ∈ wsX1_less := fun _ h => List.mem_cons_of_mem _ (List.mem_append_right _ h)
  refine kMet.of (cc := cX1_less) (nL := 7) (ret := (some .long)) (own := RX1) (lv := [(0, .ref (q 6)), (1, .long a1), (3, .long a2)]) (by decide +kernel) rfl rfl xN_ok hq (Nat.le_of_ble_eq_true rfl) rfl (fun X C => ?_)
  refine VF.of hf ?_
  unfold f_X1_less
  refine v_lload_n C 1 dX1_less_0 rfl ?_
  refine v_lload_n C 2 dX1_less_1 rfl ?_
  refine v_lsub C dX1_less_2 ?_
  refine v_lstore_nm C (lvf := fun x1 => [(5, .long x1), (0, .ref (q 6)), (1, .long a1), (3, .long a2)]) dX1_less_3 (by decide) (fun _ => rfl) (fun x1 => ?_)
  refine v_lload_n C 2 dX1_less_5 rfl ?_
  refine v_lload_n C 3 dX1_less_6 rfl ?_
  refine v_lxor C dX1_less_7 ?_
  refine v_lload_n C 2 dX1_less_8 rfl ?_
  refine v_lload C 0 dX1_less_9 rfl ?_
  refine v_lxor C dX1_less_11 ?_
  refine v_land C dX1_less_12 ?_
  refine v_lconst C dX1_less_13 (v := 0) (by decide) ?_
  refine v_lcmp_ge C dX1_less_14 dX1_less_15 (tgt := 23) (by decide) ?_ ?_
  · refine v_lload C 0 dX1_less_23 rfl ?_
    exact v_lret (rvf := fun (res : Int64 × Bool) => (some (.long res.1))) (wf := fun (res : Int64 × Bool) => (xW q cs n nd es kn knd kes img tl ta tn sl res.2 wt un ed kwt kun ked tb sb sz sbs G K P wk wh)) C dX1_less_25 rfl rfl
  · refine v_aload_n C 1 dX1_less_18 rfl ?_
    refine v_iconst C dX1_less_19 (v := 1) (by decide) ?_
    refine v_put_nm C (v := true) (fun z9 => Value.int (bI z9)) (ty := .boolean) (T := TX1) (n := 1) (C9 := RX1) (ty0 := tyX1) (fun bey2 => (xW q cs n nd es kn knd kes img tl ta tn sl bey2 wt un ed kwt kun ked tb sb sz sbs G K P wk wh)) iX1 tyX1_ok nmX1 6 rfl rfl rfl 0 (by decide) (List.mem_of_getElem? (i := 1) rfl) rfl rfl rfl bI_nar bI_fit (Nat.le_of_ble_eq_true rfl) (fun _ => rfl) dX1_less_20 (fun bey2 => ?_)
    refine v_lload C 0 dX1_less_23 rfl ?_
    exact v_lret (rvf := fun (res : Int64 × Bool) => (some (.long res.1))) (wf := fun (res : Int64 × Bool) => (xW q cs n nd es kn knd kes img tl ta tn sl res.2 wt un ed kwt kun ked tb sb sz sbs G K P wk wh)) C dX1_less_25 rfl rfl

def f_X1_product (bey : Bool) (a1 : Int64) (a2 : Int64) : Option (Int64 × Bool) :=
nm (a1 * a2) (fun (x1 : Int64) =>
jn0 (nm true (fun (bey3 : Bool) =>
some (x1, bey3))) (fun k2 =>
if (a2 : Int64) = (-1) then (
if (a1 : Int64) = (-9223372036854775808) then (
k2) else (
some (x1, bey))) else (
if (a2 : Int64) = 0 then (
some (x1, bey)) else (
ck ((a2 : Int64) != 0) (
if (x1 / a2 : Int64) = a1 then (
some (x1, bey)) else (
k2))))))

theorem nI_X1_product : NameIn yX1_product 2 := ⟨by decide +kernel, by decide +kernel, by decide +kernel⟩
set_option maxRecDepth 100000 in
set_option maxHeartbeats 4000000 in
theorem k_X1_product {l : Launch} {a1 : Int64} {a2 : Int64}  {res : Int64 × Bool} (hq : (xA q).Nodup)  (hf : f_X1_product bey a1 a2 = some res) : kMet l yX1_product wsX1_product { frames := 0, cells := 0, slots := 0, locals := 0 } D vwCl (xT cs) (xN tF) (xA q) [.ref (q 6), .long a1, .long a2] (xW q cs n nd es kn knd kes img tl ta tn sl bey wt un ed kwt kun ked tb sb sz sbs G K P wk wh) (some (.long res.1)) (xW q cs n nd es kn knd kes img tl ta tn sl res.2 wt un ed kwt kun ked tb sb sz sbs G K P wk wh) := by
  have iX1 : ∀ w ∈ wsX10, w ∈ wsX1_product := fun _ h => List.mem_cons_of_mem _ (List.mem_append_right _ h)
  refine kMet.of (cc := cX1_product) (nL := 7) (ret := (some .long)) (own := RX1) (lv := [(0, .ref (q 6)), (1, .long a1), (3, .long a2)]) (by decide +kernel) rfl rfl xN_ok hq (Nat.le_of_ble_eq_true rfl) rfl (fun X C => ?_)
  refine VF.of hf ?_
  unfold f_X1_product
  refine v_lload_n C 1 dX1_product_0 rfl ?_
  refine v_lload_n C 2 dX1_product_1 rfl ?_
  refine v_lmul C dX1_product_2 ?_
  refine v_lstore_nm C (lvf := fun x1 => [(5, .long x1), (0, .ref (q 6)), (1, .long a1), (3, .long a2)]) dX1_product_3 (by decide) (fun _ => rfl) (fun x1 => ?_)
  refine v_lload_n C 3 dX1_product_5 rfl ?_
  refine v_ldc2 C (v := (-1)) (List.mem_of_getElem? (i := 1) rfl) dX1_product_6 ?_
  refine v_jn0 (wj := ((xW q cs n nd es kn knd kes img tl ta tn sl bey wt un ed kwt kun ked tb sb sz sbs G K P wk wh))) (pcj := 39) (lvj := ([(0, .ref (q 6)), (5, .long x1)])) (stj := ([])) ?_ (fun k2 hk2 => ?_)
  · refine v_aload_n C 0 dX1_product_39 rfl ?_
    refine v_iconst C dX1_product_40 (v := 1) (by decide) ?_
    refine v_put_nm C (v := true) (fun z9 => Value.int (bI z9)) (ty := .boolean) (T := TX1) (n := 1) (C9 := RX1) (ty0 := tyX1) (fun bey3 => (xW q cs n nd es kn knd kes img tl ta tn sl bey3 wt un ed kwt kun ked tb sb sz sbs G K P wk wh)) iX1 tyX1_ok nmX1 6 rfl rfl rfl 0 (by decide) (List.mem_of_getElem? (i := 3) rfl) rfl rfl rfl bI_nar bI_fit (Nat.le_of_ble_eq_true rfl) (fun _ => rfl) dX1_product_41 (fun bey3 => ?_)
    refine v_lload C 1 dX1_product_44 rfl ?_
    exact v_lret (rvf := fun (res : Int64 × Bool) => (some (.long res.1))) (wf := fun (res : Int64 × Bool) => (xW q cs n nd es kn knd kes img tl ta tn sl res.2 wt un ed kwt kun ked tb sb sz sbs G K P wk wh)) C dX1_product_46 rfl rfl
  · refine v_lcmp_ne C dX1_product_9 dX1_product_10 (tgt := 24) (by decide) ?_ ?_
    · refine v_lload_n C 3 dX1_product_24 rfl ?_
      refine v_lconst C dX1_product_25 (v := 0) (by decide) ?_
      refine v_lcmp_eq C dX1_product_26 dX1_product_27 (tgt := 44) (by decide) ?_ ?_
      · refine v_lload C 0 dX1_product_44 rfl ?_
        exact v_lret (rvf := fun (res : Int64 × Bool) => (some (.long res.1))) (wf := fun (res : Int64 × Bool) => (xW q cs n nd es kn knd kes img tl ta tn sl res.2 wt un ed kwt kun ked tb sb sz sbs G K P wk wh)) C dX1_product_46 rfl rfl
      · refine v_lload C 0 dX1_product_30 rfl ?_
        refine v_lload_n C 3 dX1_product_32 rfl ?_
        refine v_ldiv C dX1_product_33 ?_
        refine v_lload_n C 2 dX1_product_34 rfl ?_
        refine v_lcmp_eq C dX1_product_35 dX1_product_36 (tgt := 44) (by decide) ?_ ?_
        · refine v_lload C 0 dX1_product_44 rfl ?_
          exact v_lret (rvf := fun (res : Int64 × Bool) => (some (.long res.1))) (wf := fun (res : Int64 × Bool) => (xW q cs n nd es kn knd kes img tl ta tn sl res.2 wt un ed kwt kun ked tb sb sz sbs G K P wk wh)) C dX1_product_46 rfl rfl
        · exact v_sub [1, 0] rfl (hk2)
    · refine v_lload_n C 2 dX1_product_13 rfl ?_
      refine v_ldc2 C (v := (-9223372036854775808)) (List.mem_of_getElem? (i := 2) rfl) dX1_product_14 ?_
      refine v_lcmp_ne C dX1_product_17 dX1_product_18 (tgt := 44) (by decide) ?_ ?_
      · refine v_lload C 0 dX1_product_44 rfl ?_
        exact v_lret (rvf := fun (res : Int64 × Bool) => (some (.long res.1))) (wf := fun (res : Int64 × Bool) => (xW q cs n nd es kn knd kes img tl ta tn sl res.2 wt un ed kwt kun ked tb sb sz sbs G K P wk wh)) C dX1_product_46 rfl rfl
      · refine v_goto C dX1_product_21 (tgt := 39) (by decide) ?_
        exact v_sub [1, 0] rfl (hk2)

def f_X2_wipe (sl : Int32) : Option (Int32) :=
nm (0 : Int32) (fun (sl1 : Int32) =>
some sl1)

theorem nI_X2_wipe : NameIn yX2_wipe 0 := ⟨by decide +kernel, by decide +kernel, by decide +kernel⟩
set_option maxRecDepth 100000 in
set_option maxHeartbeats 4000000 in
theorem k_X2_wipe {l : Launch}   {res : Int32} (hq : (xA q).Nodup)  (hf : f_X2_wipe sl = some res) : kMet l yX2_wipe wsX2_wipe { frames := 0, cells := 0, slots := 0, locals := 0 } D vwCl (xT cs) (xN tF) (xA q) [.ref (q 4)] (xW q cs n nd es kn knd kes img tl ta tn sl bey wt un ed kwt kun ked tb sb sz sbs G K P wk wh) none (xW q cs n nd es kn knd kes img tl ta tn res bey wt un ed kwt kun ked tb sb sz sbs G K P wk wh) := by
  have iX2 : ∀ w ∈ wsX20, w ∈ wsX2_wipe := fun _ h => List.mem_cons_of_mem _ (List.mem_append_right _ h)
  refine kMet.of (cc := cX2_wipe) (nL := 1) (ret := none) (own := RX2) (lv := [(0, .ref (q 4))]) (by decide +kernel) rfl rfl xN_ok hq (Nat.le_of_ble_eq_true rfl) rfl (fun X C => ?_)
  refine VF.of hf ?_
  unfold f_X2_wipe
  refine v_aload_n C 0 dX2_wipe_0 rfl ?_
  refine v_iconst C dX2_wipe_1 (v := 0) (by decide) ?_
  refine v_put_nm C (v := (0 : Int32)) Value.int (ty := .int) (T := TX2) (n := 2) (C9 := RX2) (ty0 := tyX2) (fun sl1 => (xW q cs n nd es kn knd kes img tl ta tn sl1 bey wt un ed kwt kun ked tb sb sz sbs G K P wk wh)) iX2 tyX2_ok nmX2 4 rfl rfl rfl 1 (by decide) (List.mem_of_getElem? (i := 1) rfl) rfl rfl rfl (fun _ => rfl) (fun _ => rfl) (Nat.le_of_ble_eq_true rfl) (fun _ => rfl) dX2_wipe_2 (fun sl1 => ?_)
  exact v_vret (rvf := fun (res : Int32) => none) (wf := fun (res : Int32) => (xW q cs n nd es kn knd kes img tl ta tn res bey wt un ed kwt kun ked tb sb sz sbs G K P wk wh)) C dX2_wipe_5 rfl rfl

def f_X2_append (sl : Int32) (sb : Nat → Int32) (a1 : Int32) : Option (Int32 × (Nat → Int32)) :=
if (sl : Int32) < 256 then (
ck (inb sl 256) (
nm (upd sb sl.toNatClampNeg (vp_nar .byte a1.toInt8.toInt32)) (fun (sb1 : Nat → Int32) =>
nm (sl + 1) (fun (sl2 : Int32) =>
some (sl2, sb1))))) else (
some (sl, sb))

theorem nI_X2_append : NameIn yX2_append 1 := ⟨by decide +kernel, by decide +kernel, by decide +kernel⟩
set_option maxRecDepth 100000 in
set_option maxHeartbeats 4000000 in
theorem k_X2_append {l : Launch} {a1 : Int32}  {res : Int32 × (Nat → Int32)} (hq : (xA q).Nodup)  (hf : f_X2_append sl sb a1 = some res) : kMet l yX2_append wsX2_append { frames := 0, cells := 0, slots := 0, locals := 0 } D vwCl (xT cs) (xN tF) (xA q) [.ref (q 4), .int a1] (xW q cs n nd es kn knd kes img tl ta tn sl bey wt un ed kwt kun ked tb sb sz sbs G K P wk wh) none (xW q cs n nd es kn knd kes img tl ta tn res.1 bey wt un ed kwt kun ked tb res.2 sz sbs G K P wk wh) := by
  have iX2 : ∀ w ∈ wsX20, w ∈ wsX2_append := fun _ h => List.mem_cons_of_mem _ (List.mem_append_right _ h)
  refine kMet.of (cc := cX2_append) (nL := 2) (ret := none) (own := RX2) (lv := [(0, .ref (q 4)), (1, .int a1)]) (by decide +kernel) rfl rfl xN_ok hq (Nat.le_of_ble_eq_true rfl) rfl (fun X C => ?_)
  refine VF.of hf ?_
  unfold f_X2_append
  refine v_aload_n C 0 dX2_append_0 rfl ?_
  refine v_get C (T := TX2) (n := 2) (C9 := RX2) iX2 4 rfl rfl 1 (by decide) (List.mem_of_getElem? (i := 1) rfl) rfl rfl dX2_append_1 ?_
  refine v_aload_n C 0 dX2_append_4 rfl ?_
  refine v_get C (T := TX2) (n := 2) (C9 := RX2) iX2 4 rfl rfl 0 (by decide) (List.mem_of_getElem? (i := 2) rfl) rfl rfl dX2_append_5 ?_
  refine v_alen C (v := 256) 16 2 rfl rfl rfl dX2_append_8 ?_
  refine v_icmp_ge C dX2_append_9 (tgt := 33) (by decide) ?_ ?_
  · exact v_vret (rvf := fun (res : Int32 × (Nat → Int32)) => none) (wf := fun (res : Int32 × (Nat → Int32)) => (xW q cs n nd es kn knd kes img tl ta tn res.1 bey wt un ed kwt kun ked tb res.2 sz sbs G K P wk wh)) C dX2_append_33 rfl rfl
  · refine v_aload_n C 0 dX2_append_12 rfl ?_
    refine v_get C (T := TX2) (n := 2) (C9 := RX2) iX2 4 rfl rfl 0 (by decide) (List.mem_of_getElem? (i := 2) rfl) rfl rfl dX2_append_13 ?_
    refine v_aload_n C 0 dX2_append_16 rfl ?_
    refine v_get C (T := TX2) (n := 2) (C9 := RX2) iX2 4 rfl rfl 1 (by decide) (List.mem_of_getElem? (i := 1) rfl) rfl rfl dX2_append_17 ?_
    refine v_iload_n C 1 dX2_append_20 rfl ?_
    refine v_i2b C dX2_append_21 ?_
    refine v_bast_nm C (fun sb1 => (xW q cs n nd es kn knd kes img tl ta tn sl bey wt un ed kwt kun ked tb sb1 sz sbs G K P wk wh)) 16 2 rfl rfl rfl (fun _ => rfl) dX2_append_22 (fun sb1 => ?_)
    refine v_aload_n C 0 dX2_append_23 rfl ?_
    refine v_dup C dX2_append_24 rfl ?_
    refine v_get C (T := TX2) (n := 2) (C9 := RX2) iX2 4 rfl rfl 1 (by decide) (List.mem_of_getElem? (i := 1) rfl) rfl rfl dX2_append_25 ?_
    refine v_iconst C dX2_append_28 (v := 1) (by decide) ?_
    refine v_iadd C dX2_append_29 ?_
    refine v_put_nm C (v := (sl + 1 : Int32)) Value.int (ty := .int) (T := TX2) (n := 2) (C9 := RX2) (ty0 := tyX2) (fun sl2 => (xW q cs n nd es kn knd kes img tl ta tn sl2 bey wt un ed kwt kun ked tb sb1 sz sbs G K P wk wh)) iX2 tyX2_ok nmX2 4 rfl rfl rfl 1 (by decide) (List.mem_of_getElem? (i := 1) rfl) rfl rfl rfl (fun _ => rfl) (fun _ => rfl) (Nat.le_of_ble_eq_true rfl) (fun _ => rfl) dX2_append_30 (fun sl2 => ?_)
    exact v_vret (rvf := fun (res : Int32 × (Nat → Int32)) => none) (wf := fun (res : Int32 × (Nat → Int32)) => (xW q cs n nd es kn knd kes img tl ta tn res.1 bey wt un ed kwt kun ked tb res.2 sz sbs G K P wk wh)) C dX2_append_33 rfl rfl

def B_X2_appendNumber_1 (a1 : Int64) (rec4 : Int64 → Int32 → Option (Int32 × (Nat → Int32))) (kx5 : Int64 → Option (Int32 × (Nat → Int32))) (v6 : Int64) (v7 : Int32) : Option (Int32 × (Nat → Int32)) :=
if (v7 : Int32) < 19 then (
ck ((v6 : Int64) != 0) (
ck ((10 : Int64) != 0) (
if ((a1 / v6) / 10 : Int64) = 0 then (
kx5 v6) else (
nm (v6 * 10) (fun (x8 : Int64) =>
nm (v7 + 1) (fun (x9 : Int32) =>
rec4 x8 x9)))))) else (
kx5 v6)
def L_X2_appendNumber_1 (a1 : Int64) (kx5 : Int64 → Option (Int32 × (Nat → Int32))) : Nat → Int64 → Int32 → Option (Int32 × (Nat → Int32))
  | 0, _, _ => none
  | m9 + 1, v6, v7 => B_X2_appendNumber_1 a1 (L_X2_appendNumber_1 a1 kx5 m9) kx5 v6 v7

def B_X2_appendNumber_2 (a1 : Int64) (rec11 : Int64 → Int32 → Int32 → (Nat → Int32) → Option (Int32 × (Nat → Int32))) (kx12 : Int32 → (Nat → Int32) → Option (Int32 × (Nat → Int32))) (v13 : Int64) (v14 : Int32) (sl15 : Int32) (sb16 : Nat → Int32) : Option (Int32 × (Nat → Int32)) :=
if (v14 : Int32) < 19 then (
if (0 : Int64) < v13 then (
ck ((v13 : Int64) != 0) (
ck ((10 : Int64) != 0) (
(f_X2_append sl15 sb16 ((((48 + (lAbs ((a1 / v13) - (a1 / v13) / 10 * 10))).toInt32).toUInt32 % 65536).toInt32)).bind (fun (r17 : Int32 × (Nat → Int32)) =>
ck ((10 : Int64) != 0) (
nm (v13 / 10) (fun (x18 : Int64) =>
nm (v14 + 1) (fun (x19 : Int32) =>
rec11 x18 x19 r17.1 r17.2))))))) else (
kx12 sl15 sb16)) else (
kx12 sl15 sb16)
def L_X2_appendNumber_2 (a1 : Int64) (kx12 : Int32 → (Nat → Int32) → Option (Int32 × (Nat → Int32))) : Nat → Int64 → Int32 → Int32 → (Nat → Int32) → Option (Int32 × (Nat → Int32))
  | 0, _, _, _, _ => none
  | m9 + 1, v13, v14, sl15, sb16 => B_X2_appendNumber_2 a1 (L_X2_appendNumber_2 a1 kx12 m9) kx12 v13 v14 sl15 sb16

def f_X2_appendNumber (sl : Int32) (sb : Nat → Int32) (a1 : Int64) : Option (Int32 × (Nat → Int32)) :=
jn2 (fun (sl2 : Int32) (sb3 : Nat → Int32) =>
L_X2_appendNumber_1 a1 (fun (v10 : Int64) =>
L_X2_appendNumber_2 a1 (fun (sl20 : Int32) (sb21 : Nat → Int32) =>
some (sl20, sb21)) FU v10 0 sl2 sb3) FU 1 1) (fun k1 =>
if (a1 : Int64) < 0 then (
(f_X2_append sl sb 45).bind (fun (r22 : Int32 × (Nat → Int32)) =>
k1 r22.1 r22.2)) else (
k1 sl sb))

theorem nI_X2_appendNumber : NameIn yX2_appendNumber 1 := ⟨by decide +kernel, by decide +kernel, by decide +kernel⟩
set_option maxRecDepth 100000 in
set_option maxHeartbeats 4000000 in
theorem lp_X2_appendNumber_1 {X : CX} {res : Int32 × (Nat → Int32)} {a1 : Int64}  {sl2 : Int32} {sb3 : Nat → Int32} (hq : (xA q).Nodup) (C : Ok X cX2_appendNumber 6 none wsX2_appendNumber RX2 { frames := 1, cells := 0, slots := 0, locals := 23 } D vwCl (xT cs) (xA q) (xN tF) none (xW q cs n nd es kn knd kes img tl ta tn res.1 bey wt un ed kwt kun ked tb res.2 sz sbs G K P wk wh))  (kx5 : Int64 → Option (Int32 × (Nat → Int32))) (Jkx5 : ∀ y3 : Int64, VF X res (kx5 y3) (xW q cs n nd es kn knd kes img tl ta tn sl2 bey wt un ed kwt kun ked tb sb3 sz sbs G K P wk wh) 48 [(0, .ref (q 4)), (1, .long a1), (3, .long y3)] []) : ∀ fuel : Nat, ∀ v6 : Int64, ∀ v7 : Int32, VF X res (L_X2_appendNumber_1 a1 kx5 fuel v6 v7) (xW q cs n nd es kn knd kes img tl ta tn sl2 bey wt un ed kwt kun ked tb sb3 sz sbs G K P wk wh) 17 [(0, .ref (q 4)), (1, .long a1), (3, .long v6), (5, .int v7)] [] := by
  intro fuel
  induction fuel with
  | zero =>
    intro _ _
    exact v_none
  | succ fuel ih =>
    intro v6 v7
    show VF X res (B_X2_appendNumber_1 a1 (L_X2_appendNumber_1 a1 kx5 fuel) kx5 v6 v7) _ _ _ _
    unfold B_X2_appendNumber_1
    refine v_iload C 3 dX2_appendNumber_17 rfl ?_
    refine v_bipush C dX2_appendNumber_19 (v := 19) (by decide) ?_
    refine v_icmp_ge C dX2_appendNumber_21 (tgt := 48) (by decide) ?_ ?_
    · exact v_sub [0, 1, 2] rfl (Jkx5 v6)
    · refine v_lload_n C 1 dX2_appendNumber_24 rfl ?_
      refine v_lload_n C 2 dX2_appendNumber_25 rfl ?_
      refine v_ldiv C dX2_appendNumber_26 ?_
      refine v_ldc2 C (v := 10) (List.mem_of_getElem? (i := 1) rfl) dX2_appendNumber_27 ?_
      refine v_ldiv C dX2_appendNumber_30 ?_
      refine v_lconst C dX2_appendNumber_31 (v := 0) (by decide) ?_
      refine v_lcmp_eq C dX2_appendNumber_32 dX2_appendNumber_33 (tgt := 48) (by decide) ?_ ?_
      · exact v_sub [0, 1, 2] rfl (Jkx5 v6)
      · refine v_lload_n C 2 dX2_appendNumber_36 rfl ?_
        refine v_ldc2 C (v := 10) (List.mem_of_getElem? (i := 1) rfl) dX2_appendNumber_37 ?_
        refine v_lmul C dX2_appendNumber_40 ?_
        refine v_lstore_n_nm C (lvf := fun x8 => [(3, .long x8), (0, .ref (q 4)), (1, .long a1), (5, .int v7)]) dX2_appendNumber_41 rfl (by decide) (fun _ => rfl) (fun x8 => ?_)
        refine v_iinc_nm C (lvf := fun x9 => [(5, .int x9), (3, .long x8), (0, .ref (q 4)), (1, .long a1)]) 3 dX2_appendNumber_42 rfl rfl (by decide) (fun _ => rfl) (fun x9 => ?_)
        refine v_goto C dX2_appendNumber_45 (tgt := 17) (by decide) ?_
        exact v_sub [2, 3, 1, 0] rfl (ih x8 x9)

set_option maxRecDepth 100000 in
set_option maxHeartbeats 4000000 in
theorem lp_X2_appendNumber_2 {X : CX} {res : Int32 × (Nat → Int32)} {a1 : Int64}   (hq : (xA q).Nodup) (C : Ok X cX2_appendNumber 6 none wsX2_appendNumber RX2 { frames := 1, cells := 0, slots := 0, locals := 23 } D vwCl (xT cs) (xA q) (xN tF) none (xW q cs n nd es kn knd kes img tl ta tn res.1 bey wt un ed kwt kun ked tb res.2 sz sbs G K P wk wh))  (kx12 : Int32 → (Nat → Int32) → Option (Int32 × (Nat → Int32))) (Jkx12 : ∀ slZz : Int32, ∀ sbZz : Nat → Int32, VF X res (kx12 slZz sbZz) (xW q cs n nd es kn knd kes img tl ta tn slZz bey wt un ed kwt kun ked tb sbZz sz sbs G K P wk wh) 96 [] []) : ∀ fuel : Nat, ∀ v13 : Int64, ∀ v14 : Int32, ∀ sl15 : Int32, ∀ sb16 : Nat → Int32, VF X res (L_X2_appendNumber_2 a1 kx12 fuel v13 v14 sl15 sb16) (xW q cs n nd es kn knd kes img tl ta tn sl15 bey wt un ed kwt kun ked tb sb16 sz sbs G K P wk wh) 51 [(0, .ref (q 4)), (1, .long a1), (3, .long v13), (5, .int v14)] [] := by
  intro fuel
  induction fuel with
  | zero =>
    intro _ _ _ _
    exact v_none
  | succ fuel ih =>
    intro v13 v14 sl15 sb16
    show VF X res (B_X2_appendNumber_2 a1 (L_X2_appendNumber_2 a1 kx12 fuel) kx12 v13 v14 sl15 sb16) _ _ _ _
    unfold B_X2_appendNumber_2
    refine v_iload C 3 dX2_appendNumber_51 rfl ?_
    refine v_bipush C dX2_appendNumber_53 (v := 19) (by decide) ?_
    refine v_icmp_ge C dX2_appendNumber_55 (tgt := 96) (by decide) ?_ ?_
    · exact v_sub [] rfl (Jkx12 sl15 sb16)
    · refine v_lload_n C 2 dX2_appendNumber_58 rfl ?_
      refine v_lconst C dX2_appendNumber_59 (v := 0) (by decide) ?_
      refine v_lcmp_le C dX2_appendNumber_60 dX2_appendNumber_61 (tgt := 96) (by decide) ?_ ?_
      · exact v_sub [] rfl (Jkx12 sl15 sb16)
      · refine v_aload_n C 0 dX2_appendNumber_64 rfl ?_
        refine v_ldc2 C (v := 48) (List.mem_of_getElem? (i := 2) rfl) dX2_appendNumber_65 ?_
        refine v_lload_n C 1 dX2_appendNumber_68 rfl ?_
        refine v_lload_n C 2 dX2_appendNumber_69 rfl ?_
        refine v_ldiv C dX2_appendNumber_70 ?_
        refine v_ldc2 C (v := 10) (List.mem_of_getElem? (i := 1) rfl) dX2_appendNumber_71 ?_
        refine v_lrem C dX2_appendNumber_74 ?_
        refine v_mabsl C (List.mem_of_getElem? (i := 3) rfl) (List.mem_of_getElem? (i := 4) rfl) (List.mem_of_getElem? (i := 5) rfl) (List.mem_of_getElem? (i := 6) rfl) (Nat.le_of_ble_eq_true rfl) (Nat.le_of_ble_eq_true rfl) dX2_appendNumber_75 ?_
        refine v_ladd C dX2_appendNumber_78 ?_
        refine v_l2i C dX2_appendNumber_79 ?_
        refine v_i2c C dX2_appendNumber_80 ?_
        refine v_callV1n C 4 rfl rfl rfl (fun l9 r9 h9 => k_X2_append (l := l9) hq  h9) gX2_appendNumber_X2_append rfl nI_X2_append ⟨rfl, rfl, Nat.le_of_ble_eq_true rfl, Nat.le_of_ble_eq_true rfl⟩ dX2_appendNumber_81 (Nat.le_of_ble_eq_true rfl) (fun r17 => ?_)
        refine v_lload_n C 2 dX2_appendNumber_84 rfl ?_
        refine v_ldc2 C (v := 10) (List.mem_of_getElem? (i := 1) rfl) dX2_appendNumber_85 ?_
        refine v_ldiv C dX2_appendNumber_88 ?_
        refine v_lstore_n_nm C (lvf := fun x18 => [(3, .long x18), (0, .ref (q 4)), (1, .long a1), (5, .int v14)]) dX2_appendNumber_89 rfl (by decide) (fun _ => rfl) (fun x18 => ?_)
        refine v_iinc_nm C (lvf := fun x19 => [(5, .int x19), (3, .long x18), (0, .ref (q 4)), (1, .long a1)]) 3 dX2_appendNumber_90 rfl rfl (by decide) (fun _ => rfl) (fun x19 => ?_)
        refine v_goto C dX2_appendNumber_93 (tgt := 51) (by decide) ?_
        exact v_sub [2, 3, 1, 0] rfl (ih x18 x19 r17.1 r17.2)

set_option maxRecDepth 100000 in
set_option maxHeartbeats 4000000 in
theorem k_X2_appendNumber {l : Launch} {a1 : Int64}  {res : Int32 × (Nat → Int32)} (hq : (xA q).Nodup)  (hf : f_X2_appendNumber sl sb a1 = some res) : kMet l yX2_appendNumber wsX2_appendNumber { frames := 1, cells := 0, slots := 0, locals := 23 } D vwCl (xT cs) (xN tF) (xA q) [.ref (q 4), .long a1] (xW q cs n nd es kn knd kes img tl ta tn sl bey wt un ed kwt kun ked tb sb sz sbs G K P wk wh) none (xW q cs n nd es kn knd kes img tl ta tn res.1 bey wt un ed kwt kun ked tb res.2 sz sbs G K P wk wh) := by
  refine kMet.of (cc := cX2_appendNumber) (nL := 6) (ret := none) (own := RX2) (lv := [(0, .ref (q 4)), (1, .long a1)]) (by decide +kernel) rfl rfl xN_ok hq (Nat.le_of_ble_eq_true rfl) rfl (fun X C => ?_)
  refine VF.of hf ?_
  unfold f_X2_appendNumber
  refine v_lload_n C 1 dX2_appendNumber_0 rfl ?_
  refine v_lconst C dX2_appendNumber_1 (v := 0) (by decide) ?_
  refine v_jn2 (wj := (fun sl2 sb3 => (xW q cs n nd es kn knd kes img tl ta tn sl2 bey wt un ed kwt kun ked tb sb3 sz sbs G K P wk wh))) (pcj := 12) (lvj := (fun sl2 sb3 => [(0, .ref (q 4)), (1, .long a1)])) (stj := (fun sl2 sb3 => [])) (fun sl2 sb3 => ?_) (fun k1 hk1 => ?_)
  · refine v_lconst C dX2_appendNumber_12 (v := 1) (by decide) ?_
    refine v_lstore_n C (lv' := [(3, .long 1), (0, .ref (q 4)), (1, .long a1)]) dX2_appendNumber_13 rfl (by decide) rfl ?_
    refine v_iconst C dX2_appendNumber_14 (v := 1) (by decide) ?_
    refine v_istore C (lv' := [(5, .int 1), (3, .long 1), (0, .ref (q 4)), (1, .long a1)]) dX2_appendNumber_15 (by decide) rfl ?_
    refine v_sub [2, 3, 1, 0] rfl (lp_X2_appendNumber_1 hq C  _ (fun v10 => ?_) FU 1 1)
    refine v_iconst C dX2_appendNumber_48 (v := 0) (by decide) ?_
    refine v_istore C (lv' := [(5, .int 0), (0, .ref (q 4)), (1, .long a1), (3, .long v10)]) dX2_appendNumber_49 (by decide) rfl ?_
    refine v_sub [1, 2, 3, 0] rfl (lp_X2_appendNumber_2 hq C  _ (fun sl20 sb21 => ?_) FU v10 0 sl2 sb3)
    exact v_vret (rvf := fun (res : Int32 × (Nat → Int32)) => none) (wf := fun (res : Int32 × (Nat → Int32)) => (xW q cs n nd es kn knd kes img tl ta tn res.1 bey wt un ed kwt kun ked tb res.2 sz sbs G K P wk wh)) C dX2_appendNumber_96 rfl rfl
  · refine v_lcmp_ge C dX2_appendNumber_2 dX2_appendNumber_3 (tgt := 12) (by decide) ?_ ?_
    · exact v_sub [0, 1] rfl (hk1 sl sb)
    · refine v_aload_n C 0 dX2_appendNumber_6 rfl ?_
      refine v_bipush C dX2_appendNumber_7 (v := 45) (by decide) ?_
      refine v_callV1n C 4 rfl rfl rfl (fun l9 r9 h9 => k_X2_append (l := l9) hq  h9) gX2_appendNumber_X2_append rfl nI_X2_append ⟨rfl, rfl, Nat.le_of_ble_eq_true rfl, Nat.le_of_ble_eq_true rfl⟩ dX2_appendNumber_9 (Nat.le_of_ble_eq_true rfl) (fun r22 => ?_)
      exact v_sub [0, 1] rfl (hk1 r22.1 r22.2)

def f_X2_appendFraction (sl : Int32) (sb : Nat → Int32) (a1 : Int64) (a2 : Int64) : Option (Int32 × (Nat → Int32)) :=
(f_X2_appendNumber sl sb a1).bind (fun (r1 : Int32 × (Nat → Int32)) =>
if (a2 : Int64) = 1 then (
some (r1.1, r1.2)) else (
(f_X2_append r1.1 r1.2 47).bind (fun (r2 : Int32 × (Nat → Int32)) =>
(f_X2_appendNumber r2.1 r2.2 a2).bind (fun (r3 : Int32 × (Nat → Int32)) =>
some (r3.1, r3.2)))))

theorem nI_X2_appendFraction : NameIn yX2_appendFraction 2 := ⟨by decide +kernel, by decide +kernel, by decide +kernel⟩
set_option maxRecDepth 100000 in
set_option maxHeartbeats 4000000 in
theorem k_X2_appendFraction {l : Launch} {a1 : Int64} {a2 : Int64}  {res : Int32 × (Nat → Int32)} (hq : (xA q).Nodup)  (hf : f_X2_appendFraction sl sb a1 a2 = some res) : kMet l yX2_appendFraction wsX2_appendFraction { frames := 2, cells := 0, slots := 0, locals := 48 } D vwCl (xT cs) (xN tF) (xA q) [.ref (q 4), .long a1, .long a2] (xW q cs n nd es kn knd kes img tl ta tn sl bey wt un ed kwt kun ked tb sb sz sbs G K P wk wh) none (xW q cs n nd es kn knd kes img tl ta tn res.1 bey wt un ed kwt kun ked tb res.2 sz sbs G K P wk wh) := by
  refine kMet.of (cc := cX2_appendFraction) (nL := 5) (ret := none) (own := RX2) (lv := [(0, .ref (q 4)), (1, .long a1), (3, .long a2)]) (by decide +kernel) rfl rfl xN_ok hq (Nat.le_of_ble_eq_true rfl) rfl (fun X C => ?_)
  refine VF.of hf ?_
  unfold f_X2_appendFraction
  refine v_aload_n C 0 dX2_appendFraction_0 rfl ?_
  refine v_lload_n C 1 dX2_appendFraction_1 rfl ?_
  refine v_callV1n C 4 rfl rfl rfl (fun l9 r9 h9 => k_X2_appendNumber (l := l9) hq  h9) gX2_appendFraction_X2_appendNumber rfl nI_X2_appendNumber ⟨rfl, rfl, Nat.le_of_ble_eq_true rfl, Nat.le_of_ble_eq_true rfl⟩ dX2_appendFraction_2 (Nat.le_of_ble_eq_true rfl) (fun r1 => ?_)
  refine v_lload_n C 2 dX2_appendFraction_5 rfl ?_
  refine v_lconst C dX2_appendFraction_6 (v := 1) (by decide) ?_
  refine v_lcmp_eq C dX2_appendFraction_7 dX2_appendFraction_8 (tgt := 22) (by decide) ?_ ?_
  · exact v_vret (rvf := fun (res : Int32 × (Nat → Int32)) => none) (wf := fun (res : Int32 × (Nat → Int32)) => (xW q cs n nd es kn knd kes img tl ta tn res.1 bey wt un ed kwt kun ked tb res.2 sz sbs G K P wk wh)) C dX2_appendFraction_22 rfl rfl
  · refine v_aload_n C 0 dX2_appendFraction_11 rfl ?_
    refine v_bipush C dX2_appendFraction_12 (v := 47) (by decide) ?_
    refine v_callV1n C 4 rfl rfl rfl (fun l9 r9 h9 => k_X2_append (l := l9) hq  h9) gX2_appendFraction_X2_append rfl nI_X2_append ⟨rfl, rfl, Nat.le_of_ble_eq_true rfl, Nat.le_of_ble_eq_true rfl⟩ dX2_appendFraction_14 (Nat.le_of_ble_eq_true rfl) (fun r2 => ?_)
    refine v_aload_n C 0 dX2_appendFraction_17 rfl ?_
    refine v_lload_n C 2 dX2_appendFraction_18 rfl ?_
    refine v_callV1n C 4 rfl rfl rfl (fun l9 r9 h9 => k_X2_appendNumber (l := l9) hq  h9) gX2_appendFraction_X2_appendNumber rfl nI_X2_appendNumber ⟨rfl, rfl, Nat.le_of_ble_eq_true rfl, Nat.le_of_ble_eq_true rfl⟩ dX2_appendFraction_19 (Nat.le_of_ble_eq_true rfl) (fun r3 => ?_)
    exact v_vret (rvf := fun (res : Int32 × (Nat → Int32)) => none) (wf := fun (res : Int32 × (Nat → Int32)) => (xW q cs n nd es kn knd kes img tl ta tn res.1 bey wt un ed kwt kun ked tb res.2 sz sbs G K P wk wh)) C dX2_appendFraction_22 rfl rfl

def f_X3_begin (sz : Nat → Int32) (P : Nat → Nat → Int64) (a1 : Int32) (a2 : Int32) : Option ((Nat → Int32) × (Nat → Nat → Int64)) :=
(f_X5_isRow a1).bind (fun (r1 : Bool) =>
if r1 = true then (
if (a2 : Int32) < 0 then (
some (sz, P)) else (
if (20 : Int32) < a2 then (
some (sz, P)) else (
ck (inb a1 4) (
nm (upd sz a1.toNatClampNeg a2) (fun (sz2 : Nat → Int32) =>
ck (inb a1 4) (
(f_filll (P a1.toNatClampNeg) (0 : Int64) 20).bind (fun (F4 : Nat → Int64) =>
nm (va_up P a1.toNatClampNeg F4) (fun (P5 : Nat → Nat → Int64) =>
some (sz2, P5))))))))) else (
some (sz, P)))

theorem nI_X3_begin : NameIn yX3_begin 2 := ⟨by decide +kernel, by decide +kernel, by decide +kernel⟩
set_option maxRecDepth 100000 in
set_option maxHeartbeats 4000000 in
theorem k_X3_begin {l : Launch} {a1 : Int32} {a2 : Int32}  {res : (Nat → Int32) × (Nat → Nat → Int64)} (hq : (xA q).Nodup)  (hf : f_X3_begin sz P a1 a2 = some res) : kMet l yX3_begin wsX3_begin { frames := 1, cells := 0, slots := 0, locals := 24 } D vwCl (xT cs) (xN tF) (xA q) [.ref (q 5), .int a1, .int a2] (xW q cs n nd es kn knd kes img tl ta tn sl bey wt un ed kwt kun ked tb sb sz sbs G K P wk wh) none (xW q cs n nd es kn knd kes img tl ta tn sl bey wt un ed kwt kun ked tb sb res.1 sbs G K res.2 wk wh) := by
  have iX3 : ∀ w ∈ wsX30, w ∈ wsX3_begin := fun _ h => List.mem_cons_of_mem _ (List.mem_append_right _ h)
  refine kMet.of (cc := cX3_begin) (nL := 3) (ret := none) (own := RX3) (lv := [(0, .ref (q 5)), (1, .int a1), (2, .int a2)]) (by decide +kernel) rfl rfl xN_ok hq (Nat.le_of_ble_eq_true rfl) rfl (fun X C => ?_)
  refine VF.of hf ?_
  unfold f_X3_begin
  refine v_iload_n C 1 dX3_begin_0 rfl ?_
  refine v_callNP1v C (fun l9 r9 h9 => k_X5_isRow (l := l9) h9) gX3_begin_X5_isRow_n20 (List.mem_of_getElem? (i := 3) rfl) (List.mem_of_getElem? (i := 4) rfl) (fun _ _ h9 => xN_X3_20 h9) rfl nI_X5_isRow ⟨rfl, rfl, Nat.le_of_ble_eq_true rfl, Nat.le_of_ble_eq_true rfl⟩ dX3_begin_1 (Nat.le_of_ble_eq_true rfl) (fun r1 => ?_)
  refine v_ifb_eq C (b := r1) dX3_begin_4 (tgt := 34) (by decide) ?_ ?_
  · exact v_vret (rvf := fun (res : (Nat → Int32) × (Nat → Nat → Int64)) => none) (wf := fun (res : (Nat → Int32) × (Nat → Nat → Int64)) => (xW q cs n nd es kn knd kes img tl ta tn sl bey wt un ed kwt kun ked tb sb res.1 sbs G K res.2 wk wh)) C dX3_begin_34 rfl rfl
  · refine v_iload_n C 2 dX3_begin_7 rfl ?_
    refine v_if_lt C dX3_begin_8 (tgt := 34) (by decide) ?_ ?_
    · exact v_vret (rvf := fun (res : (Nat → Int32) × (Nat → Nat → Int64)) => none) (wf := fun (res : (Nat → Int32) × (Nat → Nat → Int64)) => (xW q cs n nd es kn knd kes img tl ta tn sl bey wt un ed kwt kun ked tb sb res.1 sbs G K res.2 wk wh)) C dX3_begin_34 rfl rfl
    · refine v_iload_n C 2 dX3_begin_11 rfl ?_
      refine v_bipush C dX3_begin_12 (v := 20) (by decide) ?_
      refine v_icmp_gt C dX3_begin_14 (tgt := 34) (by decide) ?_ ?_
      · exact v_vret (rvf := fun (res : (Nat → Int32) × (Nat → Nat → Int64)) => none) (wf := fun (res : (Nat → Int32) × (Nat → Nat → Int64)) => (xW q cs n nd es kn knd kes img tl ta tn sl bey wt un ed kwt kun ked tb sb res.1 sbs G K res.2 wk wh)) C dX3_begin_34 rfl rfl
      · refine v_aload_n C 0 dX3_begin_17 rfl ?_
        refine v_get C (T := TX3) (n := 2) (C9 := RX3) iX3 5 rfl rfl 1 (by decide) (List.mem_of_getElem? (i := 1) rfl) rfl rfl dX3_begin_18 ?_
        refine v_iload_n C 1 dX3_begin_21 rfl ?_
        refine v_iload_n C 2 dX3_begin_22 rfl ?_
        refine v_iast_nm C (fun sz2 => (xW q cs n nd es kn knd kes img tl ta tn sl bey wt un ed kwt kun ked tb sb sz2 sbs G K P wk wh)) 18 0 rfl rfl rfl (fun _ => rfl) dX3_begin_23 (fun sz2 => ?_)
        refine v_aload_n C 0 dX3_begin_24 rfl ?_
        refine v_get C (T := TX3) (n := 2) (C9 := RX3) iX3 5 rfl rfl 0 (by decide) (List.mem_of_getElem? (i := 2) rfl) rfl rfl dX3_begin_25 ?_
        refine v_iload_n C 1 dX3_begin_28 rfl ?_
        refine v_aalda C (ad := fun j9 => q (30 + j9)) 17 3 rfl rfl (fun _ h9 => if_pos h9) dX3_begin_29 (fun hb3 => ?_)
        have hj3 := inb_lt hb3
        refine v_lconst C dX3_begin_30 (v := 0) (by decide) ?_
        refine v_filll_nm C (fun F4 => (xW q cs n nd es kn knd kes img tl ta tn sl bey wt un ed kwt kun ked tb sb sz2 sbs G K (va_up P a1.toNatClampNeg F4) wk wh)) (fun l9 F9 D9 h9 => k_filll (l := l9) (by decide) h9) (30 + a1.toNatClampNeg) 1 (xW_P hj3) rfl rfl (fun _ => xW_P_set hj3) gX3_begin_J7_fill_d0a16 rfl nI_J7_fill_d0a16 ⟨rfl, rfl, Nat.le_of_ble_eq_true rfl, Nat.le_of_ble_eq_true rfl⟩ dX3_begin_31 (Nat.le_of_ble_eq_true rfl) (fun F4 => ?_)
        refine v_namew (wf := fun P5 => (xW q cs n nd es kn knd kes img tl ta tn sl bey wt un ed kwt kun ked tb sb sz2 sbs G K P5 wk wh)) (fun P5 => ?_)
        exact v_vret (rvf := fun (res : (Nat → Int32) × (Nat → Nat → Int64)) => none) (wf := fun (res : (Nat → Int32) × (Nat → Nat → Int64)) => (xW q cs n nd es kn knd kes img tl ta tn sl bey wt un ed kwt kun ked tb sb res.1 sbs G K res.2 wk wh)) C dX3_begin_34 rfl rfl

def f_X3_isNothing (sz : Nat → Int32) (a1 : Int32) : Option (Bool) :=
(f_X5_isRow a1).bind (fun (r1 : Bool) =>
jn0 (some true) (fun k2 =>
if r1 = true then (
ck (inb a1 4) (
if (sz a1.toNatClampNeg : Int32) = (-1) then (
k2) else (
some false))) else (
k2)))

theorem nI_X3_isNothing : NameIn yX3_isNothing 1 := ⟨by decide +kernel, by decide +kernel, by decide +kernel⟩
set_option maxRecDepth 100000 in
set_option maxHeartbeats 4000000 in
theorem k_X3_isNothing {l : Launch} {a1 : Int32}  {res : Bool} (hq : (xA q).Nodup)  (hf : f_X3_isNothing sz a1 = some res) : kMet l yX3_isNothing wsX3_isNothing { frames := 1, cells := 0, slots := 0, locals := 20 } D vwCl (xT cs) (xN tF) (xA q) [.ref (q 5), .int a1] (xW q cs n nd es kn knd kes img tl ta tn sl bey wt un ed kwt kun ked tb sb sz sbs G K P wk wh) (some (.int (bI res))) (xW q cs n nd es kn knd kes img tl ta tn sl bey wt un ed kwt kun ked tb sb sz sbs G K P wk wh) := by
  have iX3 : ∀ w ∈ wsX30, w ∈ wsX3_isNothing := fun _ h => List.mem_cons_of_mem _ (List.mem_append_right _ h)
  refine kMet.of (cc := cX3_isNothing) (nL := 2) (ret := (some .boolean)) (own := RX3) (lv := [(0, .ref (q 5)), (1, .int a1)]) (by decide +kernel) rfl rfl xN_ok hq (Nat.le_of_ble_eq_true rfl) rfl (fun X C => ?_)
  refine VF.of hf ?_
  unfold f_X3_isNothing
  refine v_iload_n C 1 dX3_isNothing_0 rfl ?_
  refine v_callNP1v C (fun l9 r9 h9 => k_X5_isRow (l := l9) h9) gX3_isNothing_X5_isRow_n20 (List.mem_of_getElem? (i := 2) rfl) (List.mem_of_getElem? (i := 3) rfl) (fun _ _ h9 => xN_X3_20 h9) rfl nI_X5_isRow ⟨rfl, rfl, Nat.le_of_ble_eq_true rfl, Nat.le_of_ble_eq_true rfl⟩ dX3_isNothing_1 (Nat.le_of_ble_eq_true rfl) (fun r1 => ?_)
  refine v_jn0 (wj := ((xW q cs n nd es kn knd kes img tl ta tn sl bey wt un ed kwt kun ked tb sb sz sbs G K P wk wh))) (pcj := 17) (lvj := ([])) (stj := ([])) ?_ (fun k2 hk2 => ?_)
  · refine v_iconst C dX3_isNothing_17 (v := 1) (by decide) ?_
    refine v_goto C dX3_isNothing_18 (tgt := 22) (by decide) ?_
    exact v_zret (rvf := fun (res : Bool) => (some (.int (bI res)))) (wf := fun (res : Bool) => (xW q cs n nd es kn knd kes img tl ta tn sl bey wt un ed kwt kun ked tb sb sz sbs G K P wk wh)) C dX3_isNothing_22 rfl rfl
  · refine v_ifb_eq C (b := r1) dX3_isNothing_4 (tgt := 17) (by decide) ?_ ?_
    · exact v_sub [] rfl (hk2)
    · refine v_aload_n C 0 dX3_isNothing_7 rfl ?_
      refine v_get C (T := TX3) (n := 2) (C9 := RX3) iX3 5 rfl rfl 1 (by decide) (List.mem_of_getElem? (i := 1) rfl) rfl rfl dX3_isNothing_8 ?_
      refine v_iload_n C 1 dX3_isNothing_11 rfl ?_
      refine v_iald C 18 0 rfl rfl dX3_isNothing_12 ?_
      refine v_iconst C dX3_isNothing_13 (v := (-1)) (by decide) ?_
      refine v_icmp_ne C dX3_isNothing_14 (tgt := 21) (by decide) ?_ ?_
      · refine v_iconst C dX3_isNothing_21 (v := 0) (by decide) ?_
        exact v_zret (rvf := fun (res : Bool) => (some (.int (bI res)))) (wf := fun (res : Bool) => (xW q cs n nd es kn knd kes img tl ta tn sl bey wt un ed kwt kun ked tb sb sz sbs G K P wk wh)) C dX3_isNothing_22 rfl rfl
      · exact v_sub [] rfl (hk2)

def f_X3_holds (sz : Nat → Int32) (a1 : Int32) (a2 : Int32) (a3 : Int32) : Option (Bool) :=
(f_X5_isRow a1).bind (fun (r1 : Bool) =>
jn0 (some false) (fun k2 =>
if r1 = true then (
if (a2 : Int32) < 0 then (
k2) else (
ck (inb a1 4) (
if ((sz a1.toNatClampNeg) - a3 : Int32) < a2 then (
k2) else (
some true)))) else (
k2)))

theorem nI_X3_holds : NameIn yX3_holds 3 := ⟨by decide +kernel, by decide +kernel, by decide +kernel⟩
set_option maxRecDepth 100000 in
set_option maxHeartbeats 4000000 in
theorem k_X3_holds {l : Launch} {a1 : Int32} {a2 : Int32} {a3 : Int32}  {res : Bool} (hq : (xA q).Nodup)  (hf : f_X3_holds sz a1 a2 a3 = some res) : kMet l yX3_holds wsX3_holds { frames := 1, cells := 0, slots := 0, locals := 20 } D vwCl (xT cs) (xN tF) (xA q) [.ref (q 5), .int a1, .int a2, .int a3] (xW q cs n nd es kn knd kes img tl ta tn sl bey wt un ed kwt kun ked tb sb sz sbs G K P wk wh) (some (.int (bI res))) (xW q cs n nd es kn knd kes img tl ta tn sl bey wt un ed kwt kun ked tb sb sz sbs G K P wk wh) := by
  have iX3 : ∀ w ∈ wsX30, w ∈ wsX3_holds := fun _ h => List.mem_cons_of_mem _ (List.mem_append_right _ h)
  refine kMet.of (cc := cX3_holds) (nL := 4) (ret := (some .boolean)) (own := RX3) (lv := [(0, .ref (q 5)), (1, .int a1), (2, .int a2), (3, .int a3)]) (by decide +kernel) rfl rfl xN_ok hq (Nat.le_of_ble_eq_true rfl) rfl (fun X C => ?_)
  refine VF.of hf ?_
  unfold f_X3_holds
  refine v_iload_n C 1 dX3_holds_0 rfl ?_
  refine v_callNP1v C (fun l9 r9 h9 => k_X5_isRow (l := l9) h9) gX3_holds_X5_isRow_n20 (List.mem_of_getElem? (i := 2) rfl) (List.mem_of_getElem? (i := 3) rfl) (fun _ _ h9 => xN_X3_20 h9) rfl nI_X5_isRow ⟨rfl, rfl, Nat.le_of_ble_eq_true rfl, Nat.le_of_ble_eq_true rfl⟩ dX3_holds_1 (Nat.le_of_ble_eq_true rfl) (fun r1 => ?_)
  refine v_jn0 (wj := ((xW q cs n nd es kn knd kes img tl ta tn sl bey wt un ed kwt kun ked tb sb sz sbs G K P wk wh))) (pcj := 27) (lvj := ([])) (stj := ([])) ?_ (fun k2 hk2 => ?_)
  · refine v_iconst C dX3_holds_27 (v := 0) (by decide) ?_
    exact v_zret (rvf := fun (res : Bool) => (some (.int (bI res)))) (wf := fun (res : Bool) => (xW q cs n nd es kn knd kes img tl ta tn sl bey wt un ed kwt kun ked tb sb sz sbs G K P wk wh)) C dX3_holds_28 rfl rfl
  · refine v_ifb_eq C (b := r1) dX3_holds_4 (tgt := 27) (by decide) ?_ ?_
    · exact v_sub [] rfl (hk2)
    · refine v_iload_n C 2 dX3_holds_7 rfl ?_
      refine v_if_lt C dX3_holds_8 (tgt := 27) (by decide) ?_ ?_
      · exact v_sub [] rfl (hk2)
      · refine v_iload_n C 2 dX3_holds_11 rfl ?_
        refine v_aload_n C 0 dX3_holds_12 rfl ?_
        refine v_get C (T := TX3) (n := 2) (C9 := RX3) iX3 5 rfl rfl 1 (by decide) (List.mem_of_getElem? (i := 1) rfl) rfl rfl dX3_holds_13 ?_
        refine v_iload_n C 1 dX3_holds_16 rfl ?_
        refine v_iald C 18 0 rfl rfl dX3_holds_17 ?_
        refine v_iload_n C 3 dX3_holds_18 rfl ?_
        refine v_isub C dX3_holds_19 ?_
        refine v_icmp_gt C dX3_holds_20 (tgt := 27) (by decide) ?_ ?_
        · exact v_sub [] rfl (hk2)
        · refine v_iconst C dX3_holds_23 (v := 1) (by decide) ?_
          refine v_goto C dX3_holds_24 (tgt := 28) (by decide) ?_
          exact v_zret (rvf := fun (res : Bool) => (some (.int (bI res)))) (wf := fun (res : Bool) => (xW q cs n nd es kn knd kes img tl ta tn sl bey wt un ed kwt kun ked tb sb sz sbs G K P wk wh)) C dX3_holds_28 rfl rfl

def f_X4_append (tl : Int32) (tb : Nat → Int32) (a1 : Int32) : Option (Bool × Int32 × (Nat → Int32)) :=
if (tl : Int32) < 120 then (
ck (inb tl 120) (
nm (upd tb tl.toNatClampNeg (vp_nar .byte a1)) (fun (tb1 : Nat → Int32) =>
nm (tl + 1) (fun (tl2 : Int32) =>
some (true, tl2, tb1))))) else (
some (false, tl, tb))

theorem nI_X4_append : NameIn yX4_append 1 := ⟨by decide +kernel, by decide +kernel, by decide +kernel⟩
set_option maxRecDepth 100000 in
set_option maxHeartbeats 4000000 in
theorem k_X4_append {l : Launch} {a1 : Int32}  {res : Bool × Int32 × (Nat → Int32)} (hq : (xA q).Nodup)  (hf : f_X4_append tl tb a1 = some res) : kMet l yX4_append wsX4_append { frames := 0, cells := 0, slots := 0, locals := 0 } D vwCl (xT cs) (xN tF) (xA q) [.ref (q 3), .int a1] (xW q cs n nd es kn knd kes img tl ta tn sl bey wt un ed kwt kun ked tb sb sz sbs G K P wk wh) (some (.int (bI res.1))) (xW q cs n nd es kn knd kes img res.2.1 ta tn sl bey wt un ed kwt kun ked res.2.2 sb sz sbs G K P wk wh) := by
  have iX4 : ∀ w ∈ wsX40, w ∈ wsX4_append := fun _ h => List.mem_cons_of_mem _ (List.mem_append_right _ h)
  refine kMet.of (cc := cX4_append) (nL := 2) (ret := (some .boolean)) (own := RX4) (lv := [(0, .ref (q 3)), (1, .int a1)]) (by decide +kernel) rfl rfl xN_ok hq (Nat.le_of_ble_eq_true rfl) rfl (fun X C => ?_)
  refine VF.of hf ?_
  unfold f_X4_append
  refine v_aload_n C 0 dX4_append_0 rfl ?_
  refine v_get C (T := TX4) (n := 4) (C9 := RX4) iX4 3 rfl rfl 1 (by decide) (List.mem_of_getElem? (i := 1) rfl) rfl rfl dX4_append_1 ?_
  refine v_aload_n C 0 dX4_append_4 rfl ?_
  refine v_get C (T := TX4) (n := 4) (C9 := RX4) iX4 3 rfl rfl 0 (by decide) (List.mem_of_getElem? (i := 2) rfl) rfl rfl dX4_append_5 ?_
  refine v_alen C (v := 120) 15 2 rfl rfl rfl dX4_append_8 ?_
  refine v_icmp_lt C dX4_append_9 (tgt := 14) (by decide) ?_ ?_
  · refine v_aload_n C 0 dX4_append_14 rfl ?_
    refine v_get C (T := TX4) (n := 4) (C9 := RX4) iX4 3 rfl rfl 0 (by decide) (List.mem_of_getElem? (i := 2) rfl) rfl rfl dX4_append_15 ?_
    refine v_aload_n C 0 dX4_append_18 rfl ?_
    refine v_get C (T := TX4) (n := 4) (C9 := RX4) iX4 3 rfl rfl 1 (by decide) (List.mem_of_getElem? (i := 1) rfl) rfl rfl dX4_append_19 ?_
    refine v_iload_n C 1 dX4_append_22 rfl ?_
    refine v_bast_nm C (fun tb1 => (xW q cs n nd es kn knd kes img tl ta tn sl bey wt un ed kwt kun ked tb1 sb sz sbs G K P wk wh)) 15 2 rfl rfl rfl (fun _ => rfl) dX4_append_23 (fun tb1 => ?_)
    refine v_aload_n C 0 dX4_append_24 rfl ?_
    refine v_dup C dX4_append_25 rfl ?_
    refine v_get C (T := TX4) (n := 4) (C9 := RX4) iX4 3 rfl rfl 1 (by decide) (List.mem_of_getElem? (i := 1) rfl) rfl rfl dX4_append_26 ?_
    refine v_iconst C dX4_append_29 (v := 1) (by decide) ?_
    refine v_iadd C dX4_append_30 ?_
    refine v_put_nm C (v := (tl + 1 : Int32)) Value.int (ty := .int) (T := TX4) (n := 4) (C9 := RX4) (ty0 := tyX4) (fun tl2 => (xW q cs n nd es kn knd kes img tl2 ta tn sl bey wt un ed kwt kun ked tb1 sb sz sbs G K P wk wh)) iX4 tyX4_ok nmX4 3 rfl rfl rfl 1 (by decide) (List.mem_of_getElem? (i := 1) rfl) rfl rfl rfl (fun _ => rfl) (fun _ => rfl) (Nat.le_of_ble_eq_true rfl) (fun _ => rfl) dX4_append_31 (fun tl2 => ?_)
    refine v_iconst C dX4_append_34 (v := 1) (by decide) ?_
    exact v_zret (rvf := fun (res : Bool × Int32 × (Nat → Int32)) => (some (.int (bI res.1)))) (wf := fun (res : Bool × Int32 × (Nat → Int32)) => (xW q cs n nd es kn knd kes img res.2.1 ta tn sl bey wt un ed kwt kun ked res.2.2 sb sz sbs G K P wk wh)) C dX4_append_35 rfl rfl
  · refine v_iconst C dX4_append_12 (v := 0) (by decide) ?_
    exact v_zret (rvf := fun (res : Bool × Int32 × (Nat → Int32)) => (some (.int (bI res.1)))) (wf := fun (res : Bool × Int32 × (Nat → Int32)) => (xW q cs n nd es kn knd kes img res.2.1 ta tn sl bey wt un ed kwt kun ked res.2.2 sb sz sbs G K P wk wh)) C dX4_append_13 rfl rfl

def f_X4_wipe (tl : Int32) : Option (Int32) :=
nm (0 : Int32) (fun (tl1 : Int32) =>
some tl1)

theorem nI_X4_wipe : NameIn yX4_wipe 0 := ⟨by decide +kernel, by decide +kernel, by decide +kernel⟩
set_option maxRecDepth 100000 in
set_option maxHeartbeats 4000000 in
theorem k_X4_wipe {l : Launch}   {res : Int32} (hq : (xA q).Nodup)  (hf : f_X4_wipe tl = some res) : kMet l yX4_wipe wsX4_wipe { frames := 0, cells := 0, slots := 0, locals := 0 } D vwCl (xT cs) (xN tF) (xA q) [.ref (q 3)] (xW q cs n nd es kn knd kes img tl ta tn sl bey wt un ed kwt kun ked tb sb sz sbs G K P wk wh) none (xW q cs n nd es kn knd kes img res ta tn sl bey wt un ed kwt kun ked tb sb sz sbs G K P wk wh) := by
  have iX4 : ∀ w ∈ wsX40, w ∈ wsX4_wipe := fun _ h => List.mem_cons_of_mem _ (List.mem_append_right _ h)
  refine kMet.of (cc := cX4_wipe) (nL := 1) (ret := none) (own := RX4) (lv := [(0, .ref (q 3))]) (by decide +kernel) rfl rfl xN_ok hq (Nat.le_of_ble_eq_true rfl) rfl (fun X C => ?_)
  refine VF.of hf ?_
  unfold f_X4_wipe
  refine v_aload_n C 0 dX4_wipe_0 rfl ?_
  refine v_iconst C dX4_wipe_1 (v := 0) (by decide) ?_
  refine v_put_nm C (v := (0 : Int32)) Value.int (ty := .int) (T := TX4) (n := 4) (C9 := RX4) (ty0 := tyX4) (fun tl1 => (xW q cs n nd es kn knd kes img tl1 ta tn sl bey wt un ed kwt kun ked tb sb sz sbs G K P wk wh)) iX4 tyX4_ok nmX4 3 rfl rfl rfl 1 (by decide) (List.mem_of_getElem? (i := 1) rfl) rfl rfl rfl (fun _ => rfl) (fun _ => rfl) (Nat.le_of_ble_eq_true rfl) (fun _ => rfl) dX4_wipe_2 (fun tl1 => ?_)
  exact v_vret (rvf := fun (res : Int32) => none) (wf := fun (res : Int32) => (xW q cs n nd es kn knd kes img res ta tn sl bey wt un ed kwt kun ked tb sb sz sbs G K P wk wh)) C dX4_wipe_5 rfl rfl

def f_X4_here (tl : Int32) (ta : Int32) (tb : Nat → Int32) : Option (Int32) :=
jn0 (some 0) (fun k1 =>
if (ta : Int32) < 0 then (
k1) else (
if (ta : Int32) < tl then (
ck (inb ta 120) (
some (tb ta.toNatClampNeg))) else (
k1)))

theorem nI_X4_here : NameIn yX4_here 0 := ⟨by decide +kernel, by decide +kernel, by decide +kernel⟩
set_option maxRecDepth 100000 in
set_option maxHeartbeats 4000000 in
theorem k_X4_here {l : Launch}   {res : Int32} (hq : (xA q).Nodup)  (hf : f_X4_here tl ta tb = some res) : kMet l yX4_here wsX4_here { frames := 0, cells := 0, slots := 0, locals := 0 } D vwCl (xT cs) (xN tF) (xA q) [.ref (q 3)] (xW q cs n nd es kn knd kes img tl ta tn sl bey wt un ed kwt kun ked tb sb sz sbs G K P wk wh) (some (.int res)) (xW q cs n nd es kn knd kes img tl ta tn sl bey wt un ed kwt kun ked tb sb sz sbs G K P wk wh) := by
  have iX4 : ∀ w ∈ wsX40, w ∈ wsX4_here := fun _ h => List.mem_cons_of_mem _ (List.mem_append_right _ h)
  refine kMet.of (cc := cX4_here) (nL := 1) (ret := (some .int)) (own := RX4) (lv := [(0, .ref (q 3))]) (by decide +kernel) rfl rfl xN_ok hq (Nat.le_of_ble_eq_true rfl) rfl (fun X C => ?_)
  refine VF.of hf ?_
  unfold f_X4_here
  refine v_aload_n C 0 dX4_here_0 rfl ?_
  refine v_get C (T := TX4) (n := 4) (C9 := RX4) iX4 3 rfl rfl 2 (by decide) (List.mem_of_getElem? (i := 1) rfl) rfl rfl dX4_here_1 ?_
  refine v_jn0 (wj := ((xW q cs n nd es kn knd kes img tl ta tn sl bey wt un ed kwt kun ked tb sb sz sbs G K P wk wh))) (pcj := 30) (lvj := ([])) (stj := ([])) ?_ (fun k1 hk1 => ?_)
  · refine v_iconst C dX4_here_30 (v := 0) (by decide) ?_
    exact v_iret (rvf := fun (res : Int32) => (some (.int res))) (wf := fun (res : Int32) => (xW q cs n nd es kn knd kes img tl ta tn sl bey wt un ed kwt kun ked tb sb sz sbs G K P wk wh)) C dX4_here_31 rfl rfl
  · refine v_if_lt C dX4_here_4 (tgt := 30) (by decide) ?_ ?_
    · exact v_sub [] rfl (hk1)
    · refine v_aload_n C 0 dX4_here_7 rfl ?_
      refine v_get C (T := TX4) (n := 4) (C9 := RX4) iX4 3 rfl rfl 2 (by decide) (List.mem_of_getElem? (i := 1) rfl) rfl rfl dX4_here_8 ?_
      refine v_aload_n C 0 dX4_here_11 rfl ?_
      refine v_get C (T := TX4) (n := 4) (C9 := RX4) iX4 3 rfl rfl 1 (by decide) (List.mem_of_getElem? (i := 2) rfl) rfl rfl dX4_here_12 ?_
      refine v_icmp_ge C dX4_here_15 (tgt := 30) (by decide) ?_ ?_
      · exact v_sub [] rfl (hk1)
      · refine v_aload_n C 0 dX4_here_18 rfl ?_
        refine v_get C (T := TX4) (n := 4) (C9 := RX4) iX4 3 rfl rfl 0 (by decide) (List.mem_of_getElem? (i := 3) rfl) rfl rfl dX4_here_19 ?_
        refine v_aload_n C 0 dX4_here_22 rfl ?_
        refine v_get C (T := TX4) (n := 4) (C9 := RX4) iX4 3 rfl rfl 2 (by decide) (List.mem_of_getElem? (i := 1) rfl) rfl rfl dX4_here_23 ?_
        refine v_bald C 15 2 rfl rfl dX4_here_26 ?_
        refine v_goto C dX4_here_27 (tgt := 31) (by decide) ?_
        exact v_iret (rvf := fun (res : Int32) => (some (.int res))) (wf := fun (res : Int32) => (xW q cs n nd es kn knd kes img tl ta tn sl bey wt un ed kwt kun ked tb sb sz sbs G K P wk wh)) C dX4_here_31 rfl rfl

end WK
