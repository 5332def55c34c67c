section WK
variable {D : va_G}
def f_X5_has (a1 : Int32) (a2 : Int32) : Option (Bool) :=
if ((a1 >>> (a2 &&& 31)) &&& 1 : Int32) = 1 then (
some true) else (
some false)

theorem nI_X5_has : NameIn yX5_has 2 := ⟨by decide +kernel, by decide +kernel, by decide +kernel⟩
set_option maxRecDepth 100000 in
set_option maxHeartbeats 4000000 in
theorem k_X5_has {l : Launch} {a1 : Int32} {a2 : Int32}  {res : Bool} (hf : f_X5_has a1 a2 = some res) : pMet l yX5_has wsX5_has { frames := 0, cells := 0, slots := 0, locals := 0 } [.int a1, .int a2] (some (.int (bI res))) := by
  intro D
  refine kMet.of (cc := cX5_has) (nL := 2) (ret := (some .boolean)) (own := RX5) (lv := [(0, .int a1), (1, .int a2)]) (by decide +kernel) rfl rfl NT_ok List.nodup_nil (Nat.le_of_ble_eq_true rfl) rfl (fun X C => ?_)
  refine VF.of hf ?_
  unfold f_X5_has
  refine v_iload_n C 0 dX5_has_0 rfl ?_
  refine v_iload_n C 1 dX5_has_1 rfl ?_
  refine v_ishr C dX5_has_2 ?_
  refine v_iconst C dX5_has_3 (v := 1) (by decide) ?_
  refine v_iand C dX5_has_4 ?_
  refine v_iconst C dX5_has_5 (v := 1) (by decide) ?_
  refine v_icmp_ne C dX5_has_6 (tgt := 13) (by decide) ?_ ?_
  · refine v_iconst C dX5_has_13 (v := 0) (by decide) ?_
    exact v_zret (rvf := fun (res : Bool) => (some (.int (bI res)))) (wf := fun (res : Bool) => []) C dX5_has_14 rfl rfl
  · refine v_iconst C dX5_has_9 (v := 1) (by decide) ?_
    refine v_goto C dX5_has_10 (tgt := 14) (by decide) ?_
    exact v_zret (rvf := fun (res : Bool) => (some (.int (bI res)))) (wf := fun (res : Bool) => []) C dX5_has_14 rfl rfl

def B_X5_leastOf_1 (a1 : Int32) (rec1 : Int32 → Option (Int32))  (v2 : Int32) : Option (Int32) :=
if (v2 : Int32) < 9 then (
(f_X5_has a1 v2).bind (fun (r3 : Bool) =>
if r3 = true then (
some v2) else (
nm (v2 + 1) (fun (x4 : Int32) =>
rec1 x4)))) else (
some (-1))
def L_X5_leastOf_1 (a1 : Int32)  : Nat → Int32 → Option (Int32)
  | 0, _ => none
  | m9 + 1, v2 => B_X5_leastOf_1 a1 (L_X5_leastOf_1 a1 m9)  v2

def f_X5_leastOf (a1 : Int32) : Option (Int32) :=
L_X5_leastOf_1 a1  FU 0

theorem nI_X5_leastOf : NameIn yX5_leastOf 1 := ⟨by decide +kernel, by decide +kernel, by decide +kernel⟩
set_option maxRecDepth 100000 in
set_option maxHeartbeats 4000000 in
theorem lp_X5_leastOf_1 {X : CX} {res : Int32} {a1 : Int32}   (C : Ok X cX5_leastOf 2 (some .int) wsX5_leastOf RX5 { frames := 1, cells := 0, slots := 0, locals := 21 } D [] [] [] NT (some (.int res)) [])  : ∀ fuel : Nat, ∀ v2 : Int32, VF X res (L_X5_leastOf_1 a1 fuel v2) [] 2 [(0, .int a1), (1, .int v2)] [] := by
  intro fuel
  induction fuel with
  | zero =>
    intro _
    exact v_none
  | succ fuel ih =>
    intro v2
    show VF X res (B_X5_leastOf_1 a1 (L_X5_leastOf_1 a1 fuel)  v2) _ _ _ _
    unfold B_X5_leastOf_1
    refine v_iload_n C 1 dX5_leastOf_2 rfl ?_
    refine v_bipush C dX5_leastOf_3 (v := 9) (by decide) ?_
    refine v_icmp_ge C dX5_leastOf_5 (tgt := 24) (by decide) ?_ ?_
    · refine v_iconst C dX5_leastOf_24 (v := (-1)) (by decide) ?_
      exact v_iret (rvf := fun (res : Int32) => (some (.int res))) (wf := fun (res : Int32) => []) C dX5_leastOf_25 rfl rfl
    · refine v_iload_n C 0 dX5_leastOf_8 rfl ?_
      refine v_iload_n C 1 dX5_leastOf_9 rfl ?_
      refine v_callSP2v C (fun l9 r9 h9 => k_X5_has (l := l9) h9) gX5_leastOf_X5_has rfl nI_X5_has ⟨rfl, rfl, Nat.le_of_ble_eq_true rfl, Nat.le_of_ble_eq_true rfl⟩ dX5_leastOf_10 (Nat.le_of_ble_eq_true rfl) (fun r3 => ?_)
      refine v_ifb_eq C (b := r3) dX5_leastOf_13 (tgt := 18) (by decide) ?_ ?_
      · refine v_iinc_nm C (lvf := fun x4 => [(1, .int x4), (0, .int a1)]) 1 dX5_leastOf_18 rfl rfl (by decide) (fun _ => rfl) (fun x4 => ?_)
        refine v_goto C dX5_leastOf_21 (tgt := 2) (by decide) ?_
        exact v_sub [1, 0] rfl (ih x4)
      · refine v_iload_n C 1 dX5_leastOf_16 rfl ?_
        exact v_iret (rvf := fun (res : Int32) => (some (.int res))) (wf := fun (res : Int32) => []) C dX5_leastOf_17 rfl rfl

set_option maxRecDepth 100000 in
set_option maxHeartbeats 4000000 in
theorem k_X5_leastOf {l : Launch} {a1 : Int32}  {res : Int32} (hf : f_X5_leastOf a1 = some res) : pMet l yX5_leastOf wsX5_leastOf { frames := 1, cells := 0, slots := 0, locals := 21 } [.int a1] (some (.int res)) := by
  intro D
  refine kMet.of (cc := cX5_leastOf) (nL := 2) (ret := (some .int)) (own := RX5) (lv := [(0, .int a1)]) (by decide +kernel) rfl rfl NT_ok List.nodup_nil (Nat.le_of_ble_eq_true rfl) rfl (fun X C => ?_)
  refine VF.of hf ?_
  unfold f_X5_leastOf
  refine v_iconst C dX5_leastOf_0 (v := 0) (by decide) ?_
  refine v_istore_n C (lv' := [(1, .int 0), (0, .int a1)]) dX5_leastOf_1 rfl (by decide) rfl ?_
  refine v_sub [1, 0] rfl (lp_X5_leastOf_1 C   FU 0)

def f_X5_edgePlace (a1 : Int32) (a2 : Int32) : Option (Int32) :=
some (((iMin a1 a2) * 9) + (iMax a1 a2))

theorem nI_X5_edgePlace : NameIn yX5_edgePlace 2 := ⟨by decide +kernel, by decide +kernel, by decide +kernel⟩
set_option maxRecDepth 100000 in
set_option maxHeartbeats 4000000 in
theorem k_X5_edgePlace {l : Launch} {a1 : Int32} {a2 : Int32}  {res : Int32} (hf : f_X5_edgePlace a1 a2 = some res) : pMet l yX5_edgePlace wsX5_edgePlace { frames := 1, cells := 0, slots := 0, locals := 23 } [.int a1, .int a2] (some (.int res)) := by
  intro D
  refine kMet.of (cc := cX5_edgePlace) (nL := 2) (ret := (some .int)) (own := RX5) (lv := [(0, .int a1), (1, .int a2)]) (by decide +kernel) rfl rfl NT_ok List.nodup_nil (Nat.le_of_ble_eq_true rfl) rfl (fun X C => ?_)
  refine VF.of hf ?_
  unfold f_X5_edgePlace
  refine v_iload_n C 0 dX5_edgePlace_0 rfl ?_
  refine v_iload_n C 1 dX5_edgePlace_1 rfl ?_
  refine v_mmin C (List.mem_of_getElem? (i := 1) rfl) (List.mem_of_getElem? (i := 2) rfl) (List.mem_of_getElem? (i := 3) rfl) (List.mem_of_getElem? (i := 4) rfl) (Nat.le_of_ble_eq_true rfl) (Nat.le_of_ble_eq_true rfl) dX5_edgePlace_2 ?_
  refine v_bipush C dX5_edgePlace_5 (v := 9) (by decide) ?_
  refine v_imul C dX5_edgePlace_7 ?_
  refine v_iload_n C 0 dX5_edgePlace_8 rfl ?_
  refine v_iload_n C 1 dX5_edgePlace_9 rfl ?_
  refine v_mmax C (List.mem_of_getElem? (i := 5) rfl) (List.mem_of_getElem? (i := 6) rfl) (List.mem_of_getElem? (i := 3) rfl) (List.mem_of_getElem? (i := 7) rfl) (Nat.le_of_ble_eq_true rfl) (Nat.le_of_ble_eq_true rfl) dX5_edgePlace_10 ?_
  refine v_iadd C dX5_edgePlace_13 ?_
  exact v_iret (rvf := fun (res : Int32) => (some (.int res))) (wf := fun (res : Int32) => []) C dX5_edgePlace_14 rfl rfl

def f_X5_isRow (a1 : Int32) : Option (Bool) :=
jn0 (some false) (fun k1 =>
if (a1 : Int32) < 0 then (
k1) else (
if (a1 : Int32) < 4 then (
some true) else (
k1)))

theorem nI_X5_isRow : NameIn yX5_isRow 1 := ⟨by decide +kernel, by decide +kernel, by decide +kernel⟩
set_option maxRecDepth 100000 in
set_option maxHeartbeats 4000000 in
theorem k_X5_isRow {l : Launch} {a1 : Int32}  {res : Bool} (hf : f_X5_isRow a1 = some res) : pMet l yX5_isRow wsX5_isRow { frames := 0, cells := 0, slots := 0, locals := 0 } [.int a1] (some (.int (bI res))) := by
  intro D
  refine kMet.of (cc := cX5_isRow) (nL := 1) (ret := (some .boolean)) (own := RX5) (lv := [(0, .int a1)]) (by decide +kernel) rfl rfl NT_ok List.nodup_nil (Nat.le_of_ble_eq_true rfl) rfl (fun X C => ?_)
  refine VF.of hf ?_
  unfold f_X5_isRow
  refine v_iload_n C 0 dX5_isRow_0 rfl ?_
  refine v_jn0 (wj := ([])) (pcj := 13) (lvj := ([])) (stj := ([])) ?_ (fun k1 hk1 => ?_)
  · refine v_iconst C dX5_isRow_13 (v := 0) (by decide) ?_
    exact v_zret (rvf := fun (res : Bool) => (some (.int (bI res)))) (wf := fun (res : Bool) => []) C dX5_isRow_14 rfl rfl
  · refine v_if_lt C dX5_isRow_1 (tgt := 13) (by decide) ?_ ?_
    · exact v_sub [] rfl (hk1)
    · refine v_iload_n C 0 dX5_isRow_4 rfl ?_
      refine v_iconst C dX5_isRow_5 (v := 4) (by decide) ?_
      refine v_icmp_ge C dX5_isRow_6 (tgt := 13) (by decide) ?_ ?_
      · exact v_sub [] rfl (hk1)
      · refine v_iconst C dX5_isRow_9 (v := 1) (by decide) ?_
        refine v_goto C dX5_isRow_10 (tgt := 14) (by decide) ?_
        exact v_zret (rvf := fun (res : Bool) => (some (.int (bI res)))) (wf := fun (res : Bool) => []) C dX5_isRow_14 rfl rfl

def f_X4_isFigure (a1 : Int32) : Option (Bool) :=
jn0 (some false) (fun k1 =>
if (a1 : Int32) < 48 then (
k1) else (
if (57 : Int32) < a1 then (
k1) else (
some true)))

theorem nI_X4_isFigure : NameIn yX4_isFigure 1 := ⟨by decide +kernel, by decide +kernel, by decide +kernel⟩
set_option maxRecDepth 100000 in
set_option maxHeartbeats 4000000 in
theorem k_X4_isFigure {l : Launch} {a1 : Int32}  {res : Bool} (hf : f_X4_isFigure a1 = some res) : pMet l yX4_isFigure wsX4_isFigure { frames := 0, cells := 0, slots := 0, locals := 0 } [.int a1] (some (.int (bI res))) := by
  intro D
  refine kMet.of (cc := cX4_isFigure) (nL := 1) (ret := (some .boolean)) (own := RX4) (lv := [(0, .int a1)]) (by decide +kernel) rfl rfl NT_ok List.nodup_nil (Nat.le_of_ble_eq_true rfl) rfl (fun X C => ?_)
  refine VF.of hf ?_
  unfold f_X4_isFigure
  refine v_iload_n C 0 dX4_isFigure_0 rfl ?_
  refine v_bipush C dX4_isFigure_1 (v := 48) (by decide) ?_
  refine v_jn0 (wj := ([])) (pcj := 16) (lvj := ([])) (stj := ([])) ?_ (fun k1 hk1 => ?_)
  · refine v_iconst C dX4_isFigure_16 (v := 0) (by decide) ?_
    exact v_zret (rvf := fun (res : Bool) => (some (.int (bI res)))) (wf := fun (res : Bool) => []) C dX4_isFigure_17 rfl rfl
  · refine v_icmp_lt C dX4_isFigure_3 (tgt := 16) (by decide) ?_ ?_
    · exact v_sub [] rfl (hk1)
    · refine v_iload_n C 0 dX4_isFigure_6 rfl ?_
      refine v_bipush C dX4_isFigure_7 (v := 57) (by decide) ?_
      refine v_icmp_gt C dX4_isFigure_9 (tgt := 16) (by decide) ?_ ?_
      · exact v_sub [] rfl (hk1)
      · refine v_iconst C dX4_isFigure_12 (v := 1) (by decide) ?_
        refine v_goto C dX4_isFigure_13 (tgt := 17) (by decide) ?_
        exact v_zret (rvf := fun (res : Bool) => (some (.int (bI res)))) (wf := fun (res : Bool) => []) C dX4_isFigure_17 rfl rfl

def f_X5_isGame (a1 : Int32) : Option (Bool) :=
jn0 (some false) (fun k1 =>
if (a1 : Int32) < 0 then (
k1) else (
if (a1 : Int32) < 4 then (
some true) else (
k1)))

theorem nI_X5_isGame : NameIn yX5_isGame 1 := ⟨by decide +kernel, by decide +kernel, by decide +kernel⟩
set_option maxRecDepth 100000 in
set_option maxHeartbeats 4000000 in
theorem k_X5_isGame {l : Launch} {a1 : Int32}  {res : Bool} (hf : f_X5_isGame a1 = some res) : pMet l yX5_isGame wsX5_isGame { frames := 0, cells := 0, slots := 0, locals := 0 } [.int a1] (some (.int (bI res))) := by
  intro D
  refine kMet.of (cc := cX5_isGame) (nL := 1) (ret := (some .boolean)) (own := RX5) (lv := [(0, .int a1)]) (by decide +kernel) rfl rfl NT_ok List.nodup_nil (Nat.le_of_ble_eq_true rfl) rfl (fun X C => ?_)
  refine VF.of hf ?_
  unfold f_X5_isGame
  refine v_iload_n C 0 dX5_isGame_0 rfl ?_
  refine v_jn0 (wj := ([])) (pcj := 13) (lvj := ([])) (stj := ([])) ?_ (fun k1 hk1 => ?_)
  · refine v_iconst C dX5_isGame_13 (v := 0) (by decide) ?_
    exact v_zret (rvf := fun (res : Bool) => (some (.int (bI res)))) (wf := fun (res : Bool) => []) C dX5_isGame_14 rfl rfl
  · refine v_if_lt C dX5_isGame_1 (tgt := 13) (by decide) ?_ ?_
    · exact v_sub [] rfl (hk1)
    · refine v_iload_n C 0 dX5_isGame_4 rfl ?_
      refine v_iconst C dX5_isGame_5 (v := 4) (by decide) ?_
      refine v_icmp_ge C dX5_isGame_6 (tgt := 13) (by decide) ?_ ?_
      · exact v_sub [] rfl (hk1)
      · refine v_iconst C dX5_isGame_9 (v := 1) (by decide) ?_
        refine v_goto C dX5_isGame_10 (tgt := 14) (by decide) ?_
        exact v_zret (rvf := fun (res : Bool) => (some (.int (bI res)))) (wf := fun (res : Bool) => []) C dX5_isGame_14 rfl rfl

def f_X5_isToldValue (a1 : Int64) : Option (Bool) :=
jn0 (some false) (fun k1 =>
if (a1 : Int64) < (-1000000000000) then (
k1) else (
if (1000000000000 : Int64) < a1 then (
k1) else (
some true)))

theorem nI_X5_isToldValue : NameIn yX5_isToldValue 1 := ⟨by decide +kernel, by decide +kernel, by decide +kernel⟩
set_option maxRecDepth 100000 in
set_option maxHeartbeats 4000000 in
theorem k_X5_isToldValue {l : Launch} {a1 : Int64}  {res : Bool} (hf : f_X5_isToldValue a1 = some res) : pMet l yX5_isToldValue wsX5_isToldValue { frames := 0, cells := 0, slots := 0, locals := 0 } [.long a1] (some (.int (bI res))) := by
  intro D
  refine kMet.of (cc := cX5_isToldValue) (nL := 2) (ret := (some .boolean)) (own := RX5) (lv := [(0, .long a1)]) (by decide +kernel) rfl rfl NT_ok List.nodup_nil (Nat.le_of_ble_eq_true rfl) rfl (fun X C => ?_)
  refine VF.of hf ?_
  unfold f_X5_isToldValue
  refine v_lload_n C 0 dX5_isToldValue_0 rfl ?_
  refine v_ldc2 C (v := (-1000000000000)) (List.mem_of_getElem? (i := 1) rfl) dX5_isToldValue_1 ?_
  refine v_jn0 (wj := ([])) (pcj := 20) (lvj := ([])) (stj := ([])) ?_ (fun k1 hk1 => ?_)
  · refine v_iconst C dX5_isToldValue_20 (v := 0) (by decide) ?_
    exact v_zret (rvf := fun (res : Bool) => (some (.int (bI res)))) (wf := fun (res : Bool) => []) C dX5_isToldValue_21 rfl rfl
  · refine v_lcmp_lt C dX5_isToldValue_4 dX5_isToldValue_5 (tgt := 20) (by decide) ?_ ?_
    · exact v_sub [] rfl (hk1)
    · refine v_lload_n C 0 dX5_isToldValue_8 rfl ?_
      refine v_ldc2 C (v := 1000000000000) (List.mem_of_getElem? (i := 2) rfl) dX5_isToldValue_9 ?_
      refine v_lcmp_gt C dX5_isToldValue_12 dX5_isToldValue_13 (tgt := 20) (by decide) ?_ ?_
      · exact v_sub [] rfl (hk1)
      · refine v_iconst C dX5_isToldValue_16 (v := 1) (by decide) ?_
        refine v_goto C dX5_isToldValue_17 (tgt := 21) (by decide) ?_
        exact v_zret (rvf := fun (res : Bool) => (some (.int (bI res)))) (wf := fun (res : Bool) => []) C dX5_isToldValue_21 rfl rfl

def f_J6_bitCount_0f7a4 (a1 : Int32) : Option (Int32) :=
nm (a1 - (((a1.toUInt32 >>> ((1 : Int32).toUInt32 &&& Int32.toUInt32 31)).toInt32) &&& 1431655765)) (fun (x1 : Int32) =>
nm ((x1 &&& 858993459) + (((x1.toUInt32 >>> ((2 : Int32).toUInt32 &&& Int32.toUInt32 31)).toInt32) &&& 858993459)) (fun (x2 : Int32) =>
nm ((x2 + ((x2.toUInt32 >>> ((4 : Int32).toUInt32 &&& Int32.toUInt32 31)).toInt32)) &&& 252645135) (fun (x3 : Int32) =>
nm (x3 + ((x3.toUInt32 >>> ((8 : Int32).toUInt32 &&& Int32.toUInt32 31)).toInt32)) (fun (x4 : Int32) =>
nm (x4 + ((x4.toUInt32 >>> ((16 : Int32).toUInt32 &&& Int32.toUInt32 31)).toInt32)) (fun (x5 : Int32) =>
some (x5 &&& 63))))))

theorem nI_J6_bitCount_0f7a4 : NameIn yJ6_bitCount_0f7a4 1 := ⟨by decide +kernel, by decide +kernel, by decide +kernel⟩
set_option maxRecDepth 100000 in
set_option maxHeartbeats 4000000 in
theorem k_J6_bitCount_0f7a4 {l : Launch} {a1 : Int32}  {res : Int32} (hf : f_J6_bitCount_0f7a4 a1 = some res) : pMet l yJ6_bitCount_0f7a4 wsJ6_bitCount_0f7a4 { frames := 0, cells := 0, slots := 0, locals := 0 } [.int a1] (some (.int res)) := by
  intro D
  refine kMet.of (cc := cJ6_bitCount_0f7a4) (nL := 1) (ret := (some .int)) (own := RJ6) (lv := [(0, .int a1)]) (by decide +kernel) rfl rfl NT_ok List.nodup_nil (Nat.le_of_ble_eq_true rfl) rfl (fun X C => ?_)
  refine VF.of hf ?_
  unfold f_J6_bitCount_0f7a4
  refine v_iload_n C 0 dJ6_bitCount_0f7a4_0 rfl ?_
  refine v_iload_n C 0 dJ6_bitCount_0f7a4_1 rfl ?_
  refine v_iconst C dJ6_bitCount_0f7a4_2 (v := 1) (by decide) ?_
  refine v_iushr C dJ6_bitCount_0f7a4_3 ?_
  refine v_ldcw C (v := 1431655765) (List.mem_of_getElem? (i := 1) rfl) dJ6_bitCount_0f7a4_4 ?_
  refine v_iand C dJ6_bitCount_0f7a4_7 ?_
  refine v_isub C dJ6_bitCount_0f7a4_8 ?_
  refine v_istore_n_nm C (lvf := fun x1 => [(0, .int x1)]) dJ6_bitCount_0f7a4_9 rfl (by decide) (fun _ => rfl) (fun x1 => ?_)
  refine v_iload_n C 0 dJ6_bitCount_0f7a4_10 rfl ?_
  refine v_ldcw C (v := 858993459) (List.mem_of_getElem? (i := 2) rfl) dJ6_bitCount_0f7a4_11 ?_
  refine v_iand C dJ6_bitCount_0f7a4_14 ?_
  refine v_iload_n C 0 dJ6_bitCount_0f7a4_15 rfl ?_
  refine v_iconst C dJ6_bitCount_0f7a4_16 (v := 2) (by decide) ?_
  refine v_iushr C dJ6_bitCount_0f7a4_17 ?_
  refine v_ldcw C (v := 858993459) (List.mem_of_getElem? (i := 2) rfl) dJ6_bitCount_0f7a4_18 ?_
  refine v_iand C dJ6_bitCount_0f7a4_21 ?_
  refine v_iadd C dJ6_bitCount_0f7a4_22 ?_
  refine v_istore_n_nm C (lvf := fun x2 => [(0, .int x2)]) dJ6_bitCount_0f7a4_23 rfl (by decide) (fun _ => rfl) (fun x2 => ?_)
  refine v_iload_n C 0 dJ6_bitCount_0f7a4_24 rfl ?_
  refine v_iload_n C 0 dJ6_bitCount_0f7a4_25 rfl ?_
  refine v_iconst C dJ6_bitCount_0f7a4_26 (v := 4) (by decide) ?_
  refine v_iushr C dJ6_bitCount_0f7a4_27 ?_
  refine v_iadd C dJ6_bitCount_0f7a4_28 ?_
  refine v_ldcw C (v := 252645135) (List.mem_of_getElem? (i := 3) rfl) dJ6_bitCount_0f7a4_29 ?_
  refine v_iand C dJ6_bitCount_0f7a4_32 ?_
  refine v_istore_n_nm C (lvf := fun x3 => [(0, .int x3)]) dJ6_bitCount_0f7a4_33 rfl (by decide) (fun _ => rfl) (fun x3 => ?_)
  refine v_iload_n C 0 dJ6_bitCount_0f7a4_34 rfl ?_
  refine v_iload_n C 0 dJ6_bitCount_0f7a4_35 rfl ?_
  refine v_bipush C dJ6_bitCount_0f7a4_36 (v := 8) (by decide) ?_
  refine v_iushr C dJ6_bitCount_0f7a4_38 ?_
  refine v_iadd C dJ6_bitCount_0f7a4_39 ?_
  refine v_istore_n_nm C (lvf := fun x4 => [(0, .int x4)]) dJ6_bitCount_0f7a4_40 rfl (by decide) (fun _ => rfl) (fun x4 => ?_)
  refine v_iload_n C 0 dJ6_bitCount_0f7a4_41 rfl ?_
  refine v_iload_n C 0 dJ6_bitCount_0f7a4_42 rfl ?_
  refine v_bipush C dJ6_bitCount_0f7a4_43 (v := 16) (by decide) ?_
  refine v_iushr C dJ6_bitCount_0f7a4_45 ?_
  refine v_iadd C dJ6_bitCount_0f7a4_46 ?_
  refine v_istore_n_nm C (lvf := fun x5 => [(0, .int x5)]) dJ6_bitCount_0f7a4_47 rfl (by decide) (fun _ => rfl) (fun x5 => ?_)
  refine v_iload_n C 0 dJ6_bitCount_0f7a4_48 rfl ?_
  refine v_bipush C dJ6_bitCount_0f7a4_49 (v := 63) (by decide) ?_
  refine v_iand C dJ6_bitCount_0f7a4_51 ?_
  exact v_iret (rvf := fun (res : Int32) => (some (.int res))) (wf := fun (res : Int32) => []) C dJ6_bitCount_0f7a4_52 rfl rfl

def f_X5_nextWithin (a1 : Int32) (a2 : Int32) : Option (Int32) :=
some ((a1 - a2) &&& a2)

theorem nI_X5_nextWithin : NameIn yX5_nextWithin 2 := ⟨by decide +kernel, by decide +kernel, by decide +kernel⟩
set_option maxRecDepth 100000 in
set_option maxHeartbeats 4000000 in
theorem k_X5_nextWithin {l : Launch} {a1 : Int32} {a2 : Int32}  {res : Int32} (hf : f_X5_nextWithin a1 a2 = some res) : pMet l yX5_nextWithin wsX5_nextWithin { frames := 0, cells := 0, slots := 0, locals := 0 } [.int a1, .int a2] (some (.int res)) := by
  intro D
  refine kMet.of (cc := cX5_nextWithin) (nL := 2) (ret := (some .int)) (own := RX5) (lv := [(0, .int a1), (1, .int a2)]) (by decide +kernel) rfl rfl NT_ok List.nodup_nil (Nat.le_of_ble_eq_true rfl) rfl (fun X C => ?_)
  refine VF.of hf ?_
  unfold f_X5_nextWithin
  refine v_iload_n C 0 dX5_nextWithin_0 rfl ?_
  refine v_iload_n C 1 dX5_nextWithin_1 rfl ?_
  refine v_isub C dX5_nextWithin_2 ?_
  refine v_iload_n C 1 dX5_nextWithin_3 rfl ?_
  refine v_iand C dX5_nextWithin_4 ?_
  exact v_iret (rvf := fun (res : Int32) => (some (.int res))) (wf := fun (res : Int32) => []) C dX5_nextWithin_5 rfl rfl

def f_X5_isPart (a1 : Int32) : Option (Bool) :=
jn0 (some true) (fun k1 =>
if (a1 : Int32) = 0 then (
k1) else (
if (a1 : Int32) = 1 then (
k1) else (
some false)))

theorem nI_X5_isPart : NameIn yX5_isPart 1 := ⟨by decide +kernel, by decide +kernel, by decide +kernel⟩
set_option maxRecDepth 100000 in
set_option maxHeartbeats 4000000 in
theorem k_X5_isPart {l : Launch} {a1 : Int32}  {res : Bool} (hf : f_X5_isPart a1 = some res) : pMet l yX5_isPart wsX5_isPart { frames := 0, cells := 0, slots := 0, locals := 0 } [.int a1] (some (.int (bI res))) := by
  intro D
  refine kMet.of (cc := cX5_isPart) (nL := 1) (ret := (some .boolean)) (own := RX5) (lv := [(0, .int a1)]) (by decide +kernel) rfl rfl NT_ok List.nodup_nil (Nat.le_of_ble_eq_true rfl) rfl (fun X C => ?_)
  refine VF.of hf ?_
  unfold f_X5_isPart
  refine v_iload_n C 0 dX5_isPart_0 rfl ?_
  refine v_jn0 (wj := ([])) (pcj := 9) (lvj := ([])) (stj := ([])) ?_ (fun k1 hk1 => ?_)
  · refine v_iconst C dX5_isPart_9 (v := 1) (by decide) ?_
    refine v_goto C dX5_isPart_10 (tgt := 14) (by decide) ?_
    exact v_zret (rvf := fun (res : Bool) => (some (.int (bI res)))) (wf := fun (res : Bool) => []) C dX5_isPart_14 rfl rfl
  · refine v_if_eq C dX5_isPart_1 (tgt := 9) (by decide) ?_ ?_
    · exact v_sub [] rfl (hk1)
    · refine v_iload_n C 0 dX5_isPart_4 rfl ?_
      refine v_iconst C dX5_isPart_5 (v := 1) (by decide) ?_
      refine v_icmp_ne C dX5_isPart_6 (tgt := 13) (by decide) ?_ ?_
      · refine v_iconst C dX5_isPart_13 (v := 0) (by decide) ?_
        exact v_zret (rvf := fun (res : Bool) => (some (.int (bI res)))) (wf := fun (res : Bool) => []) C dX5_isPart_14 rfl rfl
      · exact v_sub [] rfl (hk1)

def B_X5_commonDivisor_1  (rec2 : Int64 → Int64 → Int32 → Option (Int64)) (kx3 : Int64 → Option (Int64)) (v4 : Int64) (v5 : Int64) (v6 : Int32) : Option (Int64) :=
if (v6 : Int32) < 1000 then (
if (v5 : Int64) = 0 then (
kx3 v4) else (
ck ((v5 : Int64) != 0) (
nm (v4 - v4 / v5 * v5) (fun (x7 : Int64) =>
nm (v6 + 1) (fun (x8 : Int32) =>
rec2 v5 x7 x8))))) else (
kx3 v4)
def L_X5_commonDivisor_1  (kx3 : Int64 → Option (Int64)) : Nat → Int64 → Int64 → Int32 → Option (Int64)
  | 0, _, _, _ => none
  | m9 + 1, v4, v5, v6 => B_X5_commonDivisor_1  (L_X5_commonDivisor_1 kx3 m9) kx3 v4 v5 v6

def f_X5_commonDivisor (a1 : Int64) (a2 : Int64) : Option (Int64) :=
if (a2 : Int64) < 1 then (
some 1) else (
ck ((a2 : Int64) != 0) (
nm (lAbs (a1 - a1 / a2 * a2)) (fun (x1 : Int64) =>
L_X5_commonDivisor_1  (fun (v9 : Int64) =>
some v9) FU a2 x1 0)))

theorem nI_X5_commonDivisor : NameIn yX5_commonDivisor 2 := ⟨by decide +kernel, by decide +kernel, by decide +kernel⟩
set_option maxRecDepth 100000 in
set_option maxHeartbeats 4000000 in
theorem lp_X5_commonDivisor_1 {X : CX} {res : Int64}    (C : Ok X cX5_commonDivisor 11 (some .long) wsX5_commonDivisor RX5 { frames := 1, cells := 0, slots := 0, locals := 23 } D [] [] [] NT (some (.long res)) [])  (kx3 : Int64 → Option (Int64)) (Jkx3 : ∀ y4 : Int64, VF X res (kx3 y4) [] 58 [(4, .long y4)] []) : ∀ fuel : Nat, ∀ v4 : Int64, ∀ v5 : Int64, ∀ v6 : Int32, VF X res (L_X5_commonDivisor_1 kx3 fuel v4 v5 v6) [] 22 [(4, .long v4), (6, .long v5), (8, .int v6)] [] := by
  intro fuel
  induction fuel with
  | zero =>
    intro _ _ _
    exact v_none
  | succ fuel ih =>
    intro v4 v5 v6
    show VF X res (B_X5_commonDivisor_1  (L_X5_commonDivisor_1 kx3 fuel) kx3 v4 v5 v6) _ _ _ _
    unfold B_X5_commonDivisor_1
    refine v_iload C 2 dX5_commonDivisor_22 rfl ?_
    refine v_sipush C dX5_commonDivisor_24 (v := 1000) (by decide) ?_
    refine v_icmp_ge C dX5_commonDivisor_27 (tgt := 58) (by decide) ?_ ?_
    · exact v_sub [0] rfl (Jkx3 v4)
    · refine v_lload C 1 dX5_commonDivisor_30 rfl ?_
      refine v_lconst C dX5_commonDivisor_32 (v := 0) (by decide) ?_
      refine v_lcmp_eq C dX5_commonDivisor_33 dX5_commonDivisor_34 (tgt := 58) (by decide) ?_ ?_
      · exact v_sub [0] rfl (Jkx3 v4)
      · refine v_lload C 0 dX5_commonDivisor_37 rfl ?_
        refine v_lload C 1 dX5_commonDivisor_39 rfl ?_
        refine v_lrem C dX5_commonDivisor_41 ?_
        refine v_lstore_nm C (lvf := fun x7 => [(9, .long x7), (4, .long v4), (6, .long v5), (8, .int v6)]) dX5_commonDivisor_42 (by decide) (fun _ => rfl) (fun x7 => ?_)
        refine v_lload C 2 dX5_commonDivisor_44 rfl ?_
        refine v_lstore C (lv' := [(4, .long v5), (9, .long x7), (6, .long v5), (8, .int v6)]) dX5_commonDivisor_46 (by decide) rfl ?_
        refine v_lload C 1 dX5_commonDivisor_48 rfl ?_
        refine v_lstore C (lv' := [(6, .long x7), (4, .long v5), (9, .long x7), (8, .int v6)]) dX5_commonDivisor_50 (by decide) rfl ?_
        refine v_iinc_nm C (lvf := fun x8 => [(8, .int x8), (6, .long x7), (4, .long v5), (9, .long x7)]) 3 dX5_commonDivisor_52 rfl rfl (by decide) (fun _ => rfl) (fun x8 => ?_)
        refine v_goto C dX5_commonDivisor_55 (tgt := 22) (by decide) ?_
        exact v_sub [2, 1, 0] rfl (ih v5 x7 x8)

set_option maxRecDepth 100000 in
set_option maxHeartbeats 4000000 in
theorem k_X5_commonDivisor {l : Launch} {a1 : Int64} {a2 : Int64}  {res : Int64} (hf : f_X5_commonDivisor a1 a2 = some res) : pMet l yX5_commonDivisor wsX5_commonDivisor { frames := 1, cells := 0, slots := 0, locals := 23 } [.long a1, .long a2] (some (.long res)) := by
  intro D
  refine kMet.of (cc := cX5_commonDivisor) (nL := 11) (ret := (some .long)) (own := RX5) (lv := [(0, .long a1), (2, .long a2)]) (by decide +kernel) rfl rfl NT_ok List.nodup_nil (Nat.le_of_ble_eq_true rfl) rfl (fun X C => ?_)
  refine VF.of hf ?_
  unfold f_X5_commonDivisor
  refine v_lload_n C 1 dX5_commonDivisor_0 rfl ?_
  refine v_lconst C dX5_commonDivisor_1 (v := 1) (by decide) ?_
  refine v_lcmp_ge C dX5_commonDivisor_2 dX5_commonDivisor_3 (tgt := 8) (by decide) ?_ ?_
  · refine v_lload_n C 1 dX5_commonDivisor_8 rfl ?_
    refine v_lstore C (lv' := [(4, .long a2), (0, .long a1), (2, .long a2)]) dX5_commonDivisor_9 (by decide) rfl ?_
    refine v_lload_n C 1 dX5_commonDivisor_11 rfl ?_
    refine v_lload_n C 2 dX5_commonDivisor_12 rfl ?_
    refine v_lrem C dX5_commonDivisor_13 ?_
    refine v_mabsl C (List.mem_of_getElem? (i := 1) rfl) (List.mem_of_getElem? (i := 2) rfl) (List.mem_of_getElem? (i := 3) rfl) (List.mem_of_getElem? (i := 4) rfl) (Nat.le_of_ble_eq_true rfl) (Nat.le_of_ble_eq_true rfl) dX5_commonDivisor_14 ?_
    refine v_lstore_nm C (lvf := fun x1 => [(6, .long x1), (4, .long a2), (0, .long a1), (2, .long a2)]) dX5_commonDivisor_17 (by decide) (fun _ => rfl) (fun x1 => ?_)
    refine v_iconst C dX5_commonDivisor_19 (v := 0) (by decide) ?_
    refine v_istore C (lv' := [(8, .int 0), (6, .long x1), (4, .long a2), (0, .long a1), (2, .long a2)]) dX5_commonDivisor_20 (by decide) rfl ?_
    refine v_sub [2, 1, 0] rfl (lp_X5_commonDivisor_1 C  _ (fun v9 => ?_) FU a2 x1 0)
    refine v_lload C 0 dX5_commonDivisor_58 rfl ?_
    exact v_lret (rvf := fun (res : Int64) => (some (.long res))) (wf := fun (res : Int64) => []) C dX5_commonDivisor_60 rfl rfl
  · refine v_lconst C dX5_commonDivisor_6 (v := 1) (by decide) ?_
    exact v_lret (rvf := fun (res : Int64) => (some (.long res))) (wf := fun (res : Int64) => []) C dX5_commonDivisor_7 rfl rfl

def f_X5_lowest (a1 : Int64) (a2 : Int64) (a3 : Int32) : Option (Int64) :=
(f_X5_commonDivisor a1 a2).bind (fun (r1 : Int64) =>
if (r1 : Int64) < 1 then (
some (-9223372036854775808)) else (
if (a3 : Int32) = 0 then (
ck ((r1 : Int64) != 0) (
some (a1 / r1))) else (
ck ((r1 : Int64) != 0) (
some (a2 / r1)))))

theorem nI_X5_lowest : NameIn yX5_lowest 3 := ⟨by decide +kernel, by decide +kernel, by decide +kernel⟩
set_option maxRecDepth 100000 in
set_option maxHeartbeats 4000000 in
theorem k_X5_lowest {l : Launch} {a1 : Int64} {a2 : Int64} {a3 : Int32}  {res : Int64} (hf : f_X5_lowest a1 a2 a3 = some res) : pMet l yX5_lowest wsX5_lowest { frames := 2, cells := 0, slots := 0, locals := 53 } [.long a1, .long a2, .int a3] (some (.long res)) := by
  intro D
  refine kMet.of (cc := cX5_lowest) (nL := 7) (ret := (some .long)) (own := RX5) (lv := [(0, .long a1), (2, .long a2), (4, .int a3)]) (by decide +kernel) rfl rfl NT_ok List.nodup_nil (Nat.le_of_ble_eq_true rfl) rfl (fun X C => ?_)
  refine VF.of hf ?_
  unfold f_X5_lowest
  refine v_lload_n C 0 dX5_lowest_0 rfl ?_
  refine v_lload_n C 1 dX5_lowest_1 rfl ?_
  refine v_callSP2v C (fun l9 r9 h9 => k_X5_commonDivisor (l := l9) h9) gX5_lowest_X5_commonDivisor rfl nI_X5_commonDivisor ⟨rfl, rfl, Nat.le_of_ble_eq_true rfl, Nat.le_of_ble_eq_true rfl⟩ dX5_lowest_2 (Nat.le_of_ble_eq_true rfl) (fun r1 => ?_)
  refine v_lstore C (lv' := [(5, .long r1), (0, .long a1), (2, .long a2), (4, .int a3)]) dX5_lowest_5 (by decide) rfl ?_
  refine v_lload C 0 dX5_lowest_7 rfl ?_
  refine v_lconst C dX5_lowest_9 (v := 1) (by decide) ?_
  refine v_lcmp_ge C dX5_lowest_10 dX5_lowest_11 (tgt := 18) (by decide) ?_ ?_
  · refine v_iload C 3 dX5_lowest_18 rfl ?_
    refine v_if_ne C dX5_lowest_20 (tgt := 30) (by decide) ?_ ?_
    · refine v_lload_n C 2 dX5_lowest_30 rfl ?_
      refine v_lload C 0 dX5_lowest_31 rfl ?_
      refine v_ldiv C dX5_lowest_33 ?_
      exact v_lret (rvf := fun (res : Int64) => (some (.long res))) (wf := fun (res : Int64) => []) C dX5_lowest_34 rfl rfl
    · refine v_lload_n C 1 dX5_lowest_23 rfl ?_
      refine v_lload C 0 dX5_lowest_24 rfl ?_
      refine v_ldiv C dX5_lowest_26 ?_
      refine v_goto C dX5_lowest_27 (tgt := 34) (by decide) ?_
      exact v_lret (rvf := fun (res : Int64) => (some (.long res))) (wf := fun (res : Int64) => []) C dX5_lowest_34 rfl rfl
  · refine v_ldc2 C (v := (-9223372036854775808)) (List.mem_of_getElem? (i := 1) rfl) dX5_lowest_14 ?_
    exact v_lret (rvf := fun (res : Int64) => (some (.long res))) (wf := fun (res : Int64) => []) C dX5_lowest_17 rfl rfl

def f_X5_cutToWhole (a1 : Int64) (a2 : Int32) : Option (Int64) :=
if (a2 : Int32) < 1 then (
some 0) else (
ck ((a2.toInt64 : Int64) != 0) (
some (a1 / a2.toInt64)))

theorem nI_X5_cutToWhole : NameIn yX5_cutToWhole 2 := ⟨by decide +kernel, by decide +kernel, by decide +kernel⟩
set_option maxRecDepth 100000 in
set_option maxHeartbeats 4000000 in
theorem k_X5_cutToWhole {l : Launch} {a1 : Int64} {a2 : Int32}  {res : Int64} (hf : f_X5_cutToWhole a1 a2 = some res) : pMet l yX5_cutToWhole wsX5_cutToWhole { frames := 0, cells := 0, slots := 0, locals := 0 } [.long a1, .int a2] (some (.long res)) := by
  intro D
  refine kMet.of (cc := cX5_cutToWhole) (nL := 3) (ret := (some .long)) (own := RX5) (lv := [(0, .long a1), (2, .int a2)]) (by decide +kernel) rfl rfl NT_ok List.nodup_nil (Nat.le_of_ble_eq_true rfl) rfl (fun X C => ?_)
  refine VF.of hf ?_
  unfold f_X5_cutToWhole
  refine v_iload_n C 1 dX5_cutToWhole_0 rfl ?_
  refine v_iconst C dX5_cutToWhole_1 (v := 1) (by decide) ?_
  refine v_icmp_ge C dX5_cutToWhole_2 (tgt := 9) (by decide) ?_ ?_
  · refine v_lload_n C 0 dX5_cutToWhole_9 rfl ?_
    refine v_iload_n C 1 dX5_cutToWhole_10 rfl ?_
    refine v_i2l C dX5_cutToWhole_11 ?_
    refine v_ldiv C dX5_cutToWhole_12 ?_
    exact v_lret (rvf := fun (res : Int64) => (some (.long res))) (wf := fun (res : Int64) => []) C dX5_cutToWhole_13 rfl rfl
  · refine v_lconst C dX5_cutToWhole_5 (v := 0) (by decide) ?_
    refine v_goto C dX5_cutToWhole_6 (tgt := 13) (by decide) ?_
    exact v_lret (rvf := fun (res : Int64) => (some (.long res))) (wf := fun (res : Int64) => []) C dX5_cutToWhole_13 rfl rfl

def B_X6_divisor_1  (rec2 : Int64 → Int64 → Option (Int64)) (kx3 : Int64 → Option (Int64)) (v4 : Int64) (v5 : Int64) : Option (Int64) :=
if (v4 : Int64) = 0 then (
kx3 v5) else (
ck ((v4 : Int64) != 0) (
nm (v5 - v5 / v4 * v4) (fun (x6 : Int64) =>
rec2 x6 v4)))
def L_X6_divisor_1  (kx3 : Int64 → Option (Int64)) : Nat → Int64 → Int64 → Option (Int64)
  | 0, _, _ => none
  | m9 + 1, v4, v5 => B_X6_divisor_1  (L_X6_divisor_1 kx3 m9) kx3 v4 v5

def f_X6_divisor (a1 : Int64) (a2 : Int64) : Option (Int64) :=
ck ((a2 : Int64) != 0) (
nm (a1 - a1 / a2 * a2) (fun (x1 : Int64) =>
L_X6_divisor_1  (fun (v7 : Int64) =>
if (v7 : Int64) < 0 then (
some (-v7)) else (
some v7)) FU x1 a2))

theorem nI_X6_divisor : NameIn yX6_divisor 2 := ⟨by decide +kernel, by decide +kernel, by decide +kernel⟩
set_option maxRecDepth 100000 in
set_option maxHeartbeats 4000000 in
theorem lp_X6_divisor_1 {X : CX} {res : Int64}    (C : Ok X cX6_divisor 10 (some .long) wsX6_divisor RX6 { frames := 0, cells := 0, slots := 0, locals := 0 } D [] [] [] NT (some (.long res)) [])  (kx3 : Int64 → Option (Int64)) (Jkx3 : ∀ y6 : Int64, VF X res (kx3 y6) [] 33 [(6, .long y6)] []) : ∀ fuel : Nat, ∀ v4 : Int64, ∀ v5 : Int64, VF X res (L_X6_divisor_1 kx3 fuel v4 v5) [] 8 [(4, .long v4), (6, .long v5)] [] := by
  intro fuel
  induction fuel with
  | zero =>
    intro _ _
    exact v_none
  | succ fuel ih =>
    intro v4 v5
    show VF X res (B_X6_divisor_1  (L_X6_divisor_1 kx3 fuel) kx3 v4 v5) _ _ _ _
    unfold B_X6_divisor_1
    refine v_lload C 0 dX6_divisor_8 rfl ?_
    refine v_lconst C dX6_divisor_10 (v := 0) (by decide) ?_
    refine v_lcmp_eq C dX6_divisor_11 dX6_divisor_12 (tgt := 33) (by decide) ?_ ?_
    · exact v_sub [1] rfl (Jkx3 v5)
    · refine v_lload C 1 dX6_divisor_15 rfl ?_
      refine v_lload C 0 dX6_divisor_17 rfl ?_
      refine v_lrem C dX6_divisor_19 ?_
      refine v_lstore_nm C (lvf := fun x6 => [(8, .long x6), (4, .long v4), (6, .long v5)]) dX6_divisor_20 (by decide) (fun _ => rfl) (fun x6 => ?_)
      refine v_lload C 1 dX6_divisor_22 rfl ?_
      refine v_lstore C (lv' := [(6, .long v4), (8, .long x6), (4, .long v4)]) dX6_divisor_24 (by decide) rfl ?_
      refine v_lload C 1 dX6_divisor_26 rfl ?_
      refine v_lstore C (lv' := [(4, .long x6), (6, .long v4), (8, .long x6)]) dX6_divisor_28 (by decide) rfl ?_
      refine v_goto C dX6_divisor_30 (tgt := 8) (by decide) ?_
      exact v_sub [0, 1] rfl (ih x6 v4)

set_option maxRecDepth 100000 in
set_option maxHeartbeats 4000000 in
theorem k_X6_divisor {l : Launch} {a1 : Int64} {a2 : Int64}  {res : Int64} (hf : f_X6_divisor a1 a2 = some res) : pMet l yX6_divisor wsX6_divisor { frames := 0, cells := 0, slots := 0, locals := 0 } [.long a1, .long a2] (some (.long res)) := by
  intro D
  refine kMet.of (cc := cX6_divisor) (nL := 10) (ret := (some .long)) (own := RX6) (lv := [(0, .long a1), (2, .long a2)]) (by decide +kernel) rfl rfl NT_ok List.nodup_nil (Nat.le_of_ble_eq_true rfl) rfl (fun X C => ?_)
  refine VF.of hf ?_
  unfold f_X6_divisor
  refine v_lload_n C 0 dX6_divisor_0 rfl ?_
  refine v_lload_n C 1 dX6_divisor_1 rfl ?_
  refine v_lrem C dX6_divisor_2 ?_
  refine v_lstore_nm C (lvf := fun x1 => [(4, .long x1), (0, .long a1), (2, .long a2)]) dX6_divisor_3 (by decide) (fun _ => rfl) (fun x1 => ?_)
  refine v_lload_n C 2 dX6_divisor_5 rfl ?_
  refine v_lstore C (lv' := [(6, .long a2), (4, .long x1), (0, .long a1), (2, .long a2)]) dX6_divisor_6 (by decide) rfl ?_
  refine v_sub [1, 0] rfl (lp_X6_divisor_1 C  _ (fun v7 => ?_) FU x1 a2)
  refine v_lload C 0 dX6_divisor_33 rfl ?_
  refine v_lconst C dX6_divisor_35 (v := 0) (by decide) ?_
  refine v_lcmp_ge C dX6_divisor_36 dX6_divisor_37 (tgt := 46) (by decide) ?_ ?_
  · refine v_lload C 0 dX6_divisor_46 rfl ?_
    exact v_lret (rvf := fun (res : Int64) => (some (.long res))) (wf := fun (res : Int64) => []) C dX6_divisor_48 rfl rfl
  · refine v_lload C 0 dX6_divisor_40 rfl ?_
    refine v_lneg C dX6_divisor_42 ?_
    refine v_goto C dX6_divisor_43 (tgt := 48) (by decide) ?_
    exact v_lret (rvf := fun (res : Int64) => (some (.long res))) (wf := fun (res : Int64) => []) C dX6_divisor_48 rfl rfl

def f_X6_part (a1 : Int64) (a2 : Int64) (a3 : Int32) : Option (Int64) :=
(f_X6_divisor a1 a2).bind (fun (r1 : Int64) =>
if (a3 : Int32) = 0 then (
ck ((r1 : Int64) != 0) (
some (a1 / r1))) else (
ck ((r1 : Int64) != 0) (
some (a2 / r1))))

theorem nI_X6_part : NameIn yX6_part 3 := ⟨by decide +kernel, by decide +kernel, by decide +kernel⟩
set_option maxRecDepth 100000 in
set_option maxHeartbeats 4000000 in
theorem k_X6_part {l : Launch} {a1 : Int64} {a2 : Int64} {a3 : Int32}  {res : Int64} (hf : f_X6_part a1 a2 a3 = some res) : pMet l yX6_part wsX6_part { frames := 1, cells := 0, slots := 0, locals := 29 } [.long a1, .long a2, .int a3] (some (.long res)) := by
  intro D
  refine kMet.of (cc := cX6_part) (nL := 7) (ret := (some .long)) (own := RX6) (lv := [(0, .long a1), (2, .long a2), (4, .int a3)]) (by decide +kernel) rfl rfl NT_ok List.nodup_nil (Nat.le_of_ble_eq_true rfl) rfl (fun X C => ?_)
  refine VF.of hf ?_
  unfold f_X6_part
  refine v_lload_n C 0 dX6_part_0 rfl ?_
  refine v_lload_n C 1 dX6_part_1 rfl ?_
  refine v_callSP2v C (fun l9 r9 h9 => k_X6_divisor (l := l9) h9) gX6_part_X6_divisor rfl nI_X6_divisor ⟨rfl, rfl, Nat.le_of_ble_eq_true rfl, Nat.le_of_ble_eq_true rfl⟩ dX6_part_2 (Nat.le_of_ble_eq_true rfl) (fun r1 => ?_)
  refine v_lstore C (lv' := [(5, .long r1), (0, .long a1), (2, .long a2), (4, .int a3)]) dX6_part_5 (by decide) rfl ?_
  refine v_iload C 3 dX6_part_7 rfl ?_
  refine v_if_ne C dX6_part_9 (tgt := 19) (by decide) ?_ ?_
  · refine v_lload_n C 2 dX6_part_19 rfl ?_
    refine v_lload C 0 dX6_part_20 rfl ?_
    refine v_ldiv C dX6_part_22 ?_
    exact v_lret (rvf := fun (res : Int64) => (some (.long res))) (wf := fun (res : Int64) => []) C dX6_part_23 rfl rfl
  · refine v_lload_n C 1 dX6_part_12 rfl ?_
    refine v_lload C 0 dX6_part_13 rfl ?_
    refine v_ldiv C dX6_part_15 ?_
    refine v_goto C dX6_part_16 (tgt := 23) (by decide) ?_
    exact v_lret (rvf := fun (res : Int64) => (some (.long res))) (wf := fun (res : Int64) => []) C dX6_part_23 rfl rfl

def f_X6_isIn (a1 : Int64) (a2 : Int64) (a3 : Int64) : Option (Bool) :=
jn0 (some false) (fun k1 =>
if (a1 : Int64) < a2 then (
k1) else (
if (a3 : Int64) < a1 then (
k1) else (
some true)))

theorem nI_X6_isIn : NameIn yX6_isIn 3 := ⟨by decide +kernel, by decide +kernel, by decide +kernel⟩
set_option maxRecDepth 100000 in
set_option maxHeartbeats 4000000 in
theorem k_X6_isIn {l : Launch} {a1 : Int64} {a2 : Int64} {a3 : Int64}  {res : Bool} (hf : f_X6_isIn a1 a2 a3 = some res) : pMet l yX6_isIn wsX6_isIn { frames := 0, cells := 0, slots := 0, locals := 0 } [.long a1, .long a2, .long a3] (some (.int (bI res))) := by
  intro D
  refine kMet.of (cc := cX6_isIn) (nL := 6) (ret := (some .boolean)) (own := RX6) (lv := [(0, .long a1), (2, .long a2), (4, .long a3)]) (by decide +kernel) rfl rfl NT_ok List.nodup_nil (Nat.le_of_ble_eq_true rfl) rfl (fun X C => ?_)
  refine VF.of hf ?_
  unfold f_X6_isIn
  refine v_lload_n C 0 dX6_isIn_0 rfl ?_
  refine v_lload_n C 1 dX6_isIn_1 rfl ?_
  refine v_jn0 (wj := ([])) (pcj := 17) (lvj := ([])) (stj := ([])) ?_ (fun k1 hk1 => ?_)
  · refine v_iconst C dX6_isIn_17 (v := 0) (by decide) ?_
    exact v_zret (rvf := fun (res : Bool) => (some (.int (bI res)))) (wf := fun (res : Bool) => []) C dX6_isIn_18 rfl rfl
  · refine v_lcmp_lt C dX6_isIn_2 dX6_isIn_3 (tgt := 17) (by decide) ?_ ?_
    · exact v_sub [] rfl (hk1)
    · refine v_lload_n C 0 dX6_isIn_6 rfl ?_
      refine v_lload C 2 dX6_isIn_7 rfl ?_
      refine v_lcmp_gt C dX6_isIn_9 dX6_isIn_10 (tgt := 17) (by decide) ?_ ?_
      · exact v_sub [] rfl (hk1)
      · refine v_iconst C dX6_isIn_13 (v := 1) (by decide) ?_
        refine v_goto C dX6_isIn_14 (tgt := 18) (by decide) ?_
        exact v_zret (rvf := fun (res : Bool) => (some (.int (bI res)))) (wf := fun (res : Bool) => []) C dX6_isIn_18 rfl rfl

end WK
