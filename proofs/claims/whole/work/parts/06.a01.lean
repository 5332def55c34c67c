section WK
variable {D : va_G}
def f_X6_isGame (a1 : Int32) : Option (Bool) :=
(f_X6_isIn a1.toInt64 0 3).bind (fun (r1 : Bool) =>
some r1)

theorem nI_X6_isGame : NameIn yX6_isGame 1 := ⟨by decide +kernel, by decide +kernel, by decide +kernel⟩
set_option maxRecDepth 100000 in
set_option maxHeartbeats 4000000 in
theorem k_X6_isGame {l : Launch} {a1 : Int32}  {res : Bool} (hf : f_X6_isGame a1 = some res) : pMet l yX6_isGame wsX6_isGame { frames := 1, cells := 0, slots := 0, locals := 25 } [.int a1] (some (.int (bI res))) := by
  intro D
  refine kMet.of (cc := cX6_isGame) (nL := 1) (ret := (some .boolean)) (own := RX6) (lv := [(0, .int a1)]) (by decide +kernel) rfl rfl NT_ok List.nodup_nil (Nat.le_of_ble_eq_true rfl) rfl (fun X C => ?_)
  refine VF.of hf ?_
  unfold f_X6_isGame
  refine v_iload_n C 0 dX6_isGame_0 rfl ?_
  refine v_i2l C dX6_isGame_1 ?_
  refine v_lconst C dX6_isGame_2 (v := 0) (by decide) ?_
  refine v_ldc2 C (v := 3) (List.mem_of_getElem? (i := 1) rfl) dX6_isGame_3 ?_
  refine v_callSP3v C (fun l9 r9 h9 => k_X6_isIn (l := l9) h9) gX6_isGame_X6_isIn rfl nI_X6_isIn ⟨rfl, rfl, Nat.le_of_ble_eq_true rfl, Nat.le_of_ble_eq_true rfl⟩ dX6_isGame_6 (Nat.le_of_ble_eq_true rfl) (fun r1 => ?_)
  exact v_zret (rvf := fun (res : Bool) => (some (.int (bI res)))) (wf := fun (res : Bool) => []) C dX6_isGame_9 rfl rfl

def f_X6_has (a1 : Int32) (a2 : Int32) : Option (Bool) :=
if ((a1 >>> (a2 &&& 31)) &&& 1 : Int32) = 1 then (
some true) else (
some false)

theorem nI_X6_has : NameIn yX6_has 2 := ⟨by decide +kernel, by decide +kernel, by decide +kernel⟩
set_option maxRecDepth 100000 in
set_option maxHeartbeats 4000000 in
theorem k_X6_has {l : Launch} {a1 : Int32} {a2 : Int32}  {res : Bool} (hf : f_X6_has a1 a2 = some res) : pMet l yX6_has wsX6_has { frames := 0, cells := 0, slots := 0, locals := 0 } [.int a1, .int a2] (some (.int (bI res))) := by
  intro D
  refine kMet.of (cc := cX6_has) (nL := 2) (ret := (some .boolean)) (own := RX6) (lv := [(0, .int a1), (1, .int a2)]) (by decide +kernel) rfl rfl NT_ok List.nodup_nil (Nat.le_of_ble_eq_true rfl) rfl (fun X C => ?_)
  refine VF.of hf ?_
  unfold f_X6_has
  refine v_iload_n C 0 dX6_has_0 rfl ?_
  refine v_iload_n C 1 dX6_has_1 rfl ?_
  refine v_ishr C dX6_has_2 ?_
  refine v_iconst C dX6_has_3 (v := 1) (by decide) ?_
  refine v_iand C dX6_has_4 ?_
  refine v_iconst C dX6_has_5 (v := 1) (by decide) ?_
  refine v_icmp_ne C dX6_has_6 (tgt := 13) (by decide) ?_ ?_
  · refine v_iconst C dX6_has_13 (v := 0) (by decide) ?_
    exact v_zret (rvf := fun (res : Bool) => (some (.int (bI res)))) (wf := fun (res : Bool) => []) C dX6_has_14 rfl rfl
  · refine v_iconst C dX6_has_9 (v := 1) (by decide) ?_
    refine v_goto C dX6_has_10 (tgt := 14) (by decide) ?_
    exact v_zret (rvf := fun (res : Bool) => (some (.int (bI res)))) (wf := fun (res : Bool) => []) C dX6_has_14 rfl rfl

def B_X6_size_1 (a1 : Int32) (rec1 : Int32 → Int32 → Option (Int32))  (v2 : Int32) (v3 : Int32) : Option (Int32) :=
if (v3 : Int32) < 9 then (
nm (v2 + ((a1 >>> (v3 &&& 31)) &&& 1)) (fun (x4 : Int32) =>
nm (v3 + 1) (fun (x5 : Int32) =>
rec1 x4 x5))) else (
some v2)
def L_X6_size_1 (a1 : Int32)  : Nat → Int32 → Int32 → Option (Int32)
  | 0, _, _ => none
  | m9 + 1, v2, v3 => B_X6_size_1 a1 (L_X6_size_1 a1 m9)  v2 v3

def f_X6_size (a1 : Int32) : Option (Int32) :=
L_X6_size_1 a1  FU 0 0

theorem nI_X6_size : NameIn yX6_size 1 := ⟨by decide +kernel, by decide +kernel, by decide +kernel⟩
set_option maxRecDepth 100000 in
set_option maxHeartbeats 4000000 in
theorem lp_X6_size_1 {X : CX} {res : Int32} {a1 : Int32}   (C : Ok X cX6_size 3 (some .int) wsX6_size RX6 { frames := 0, cells := 0, slots := 0, locals := 0 } D [] [] [] NT (some (.int res)) [])  : ∀ fuel : Nat, ∀ v2 : Int32, ∀ v3 : Int32, VF X res (L_X6_size_1 a1 fuel v2 v3) [] 4 [(0, .int a1), (1, .int v2), (2, .int v3)] [] := by
  intro fuel
  induction fuel with
  | zero =>
    intro _ _
    exact v_none
  | succ fuel ih =>
    intro v2 v3
    show VF X res (B_X6_size_1 a1 (L_X6_size_1 a1 fuel)  v2 v3) _ _ _ _
    unfold B_X6_size_1
    refine v_iload_n C 2 dX6_size_4 rfl ?_
    refine v_bipush C dX6_size_5 (v := 9) (by decide) ?_
    refine v_icmp_ge C dX6_size_7 (tgt := 24) (by decide) ?_ ?_
    · refine v_iload_n C 1 dX6_size_24 rfl ?_
      exact v_iret (rvf := fun (res : Int32) => (some (.int res))) (wf := fun (res : Int32) => []) C dX6_size_25 rfl rfl
    · refine v_iload_n C 1 dX6_size_10 rfl ?_
      refine v_iload_n C 0 dX6_size_11 rfl ?_
      refine v_iload_n C 2 dX6_size_12 rfl ?_
      refine v_ishr C dX6_size_13 ?_
      refine v_iconst C dX6_size_14 (v := 1) (by decide) ?_
      refine v_iand C dX6_size_15 ?_
      refine v_iadd C dX6_size_16 ?_
      refine v_istore_n_nm C (lvf := fun x4 => [(1, .int x4), (0, .int a1), (2, .int v3)]) dX6_size_17 rfl (by decide) (fun _ => rfl) (fun x4 => ?_)
      refine v_iinc_nm C (lvf := fun x5 => [(2, .int x5), (1, .int x4), (0, .int a1)]) 2 dX6_size_18 rfl rfl (by decide) (fun _ => rfl) (fun x5 => ?_)
      refine v_goto C dX6_size_21 (tgt := 4) (by decide) ?_
      exact v_sub [2, 1, 0] rfl (ih x4 x5)

set_option maxRecDepth 100000 in
set_option maxHeartbeats 4000000 in
theorem k_X6_size {l : Launch} {a1 : Int32}  {res : Int32} (hf : f_X6_size a1 = some res) : pMet l yX6_size wsX6_size { frames := 0, cells := 0, slots := 0, locals := 0 } [.int a1] (some (.int res)) := by
  intro D
  refine kMet.of (cc := cX6_size) (nL := 3) (ret := (some .int)) (own := RX6) (lv := [(0, .int a1)]) (by decide +kernel) rfl rfl NT_ok List.nodup_nil (Nat.le_of_ble_eq_true rfl) rfl (fun X C => ?_)
  refine VF.of hf ?_
  unfold f_X6_size
  refine v_iconst C dX6_size_0 (v := 0) (by decide) ?_
  refine v_istore_n C (lv' := [(1, .int 0), (0, .int a1)]) dX6_size_1 rfl (by decide) rfl ?_
  refine v_iconst C dX6_size_2 (v := 0) (by decide) ?_
  refine v_istore_n C (lv' := [(2, .int 0), (1, .int 0), (0, .int a1)]) dX6_size_3 rfl (by decide) rfl ?_
  refine v_sub [2, 1, 0] rfl (lp_X6_size_1 C   FU 0 0)

def f_X6_edgeOf (a1 : Int32) (a2 : Int32) : Option (Int32) :=
some ((9 * (iMin a1 a2)) + (iMax a1 a2))

theorem nI_X6_edgeOf : NameIn yX6_edgeOf 2 := ⟨by decide +kernel, by decide +kernel, by decide +kernel⟩
set_option maxRecDepth 100000 in
set_option maxHeartbeats 4000000 in
theorem k_X6_edgeOf {l : Launch} {a1 : Int32} {a2 : Int32}  {res : Int32} (hf : f_X6_edgeOf a1 a2 = some res) : pMet l yX6_edgeOf wsX6_edgeOf { frames := 1, cells := 0, slots := 0, locals := 23 } [.int a1, .int a2] (some (.int res)) := by
  intro D
  refine kMet.of (cc := cX6_edgeOf) (nL := 2) (ret := (some .int)) (own := RX6) (lv := [(0, .int a1), (1, .int a2)]) (by decide +kernel) rfl rfl NT_ok List.nodup_nil (Nat.le_of_ble_eq_true rfl) rfl (fun X C => ?_)
  refine VF.of hf ?_
  unfold f_X6_edgeOf
  refine v_bipush C dX6_edgeOf_0 (v := 9) (by decide) ?_
  refine v_iload_n C 0 dX6_edgeOf_2 rfl ?_
  refine v_iload_n C 1 dX6_edgeOf_3 rfl ?_
  refine v_mmin C (List.mem_of_getElem? (i := 1) rfl) (List.mem_of_getElem? (i := 2) rfl) (List.mem_of_getElem? (i := 3) rfl) (List.mem_of_getElem? (i := 4) rfl) (Nat.le_of_ble_eq_true rfl) (Nat.le_of_ble_eq_true rfl) dX6_edgeOf_4 ?_
  refine v_imul C dX6_edgeOf_7 ?_
  refine v_iload_n C 0 dX6_edgeOf_8 rfl ?_
  refine v_iload_n C 1 dX6_edgeOf_9 rfl ?_
  refine v_mmax C (List.mem_of_getElem? (i := 5) rfl) (List.mem_of_getElem? (i := 6) rfl) (List.mem_of_getElem? (i := 3) rfl) (List.mem_of_getElem? (i := 7) rfl) (Nat.le_of_ble_eq_true rfl) (Nat.le_of_ble_eq_true rfl) dX6_edgeOf_10 ?_
  refine v_iadd C dX6_edgeOf_13 ?_
  exact v_iret (rvf := fun (res : Int32) => (some (.int res))) (wf := fun (res : Int32) => []) C dX6_edgeOf_14 rfl rfl

def f_X6_isRow (a1 : Int32) : Option (Bool) :=
(f_X6_isIn a1.toInt64 0 3).bind (fun (r1 : Bool) =>
some r1)

theorem nI_X6_isRow : NameIn yX6_isRow 1 := ⟨by decide +kernel, by decide +kernel, by decide +kernel⟩
set_option maxRecDepth 100000 in
set_option maxHeartbeats 4000000 in
theorem k_X6_isRow {l : Launch} {a1 : Int32}  {res : Bool} (hf : f_X6_isRow a1 = some res) : pMet l yX6_isRow wsX6_isRow { frames := 1, cells := 0, slots := 0, locals := 25 } [.int a1] (some (.int (bI res))) := by
  intro D
  refine kMet.of (cc := cX6_isRow) (nL := 1) (ret := (some .boolean)) (own := RX6) (lv := [(0, .int a1)]) (by decide +kernel) rfl rfl NT_ok List.nodup_nil (Nat.le_of_ble_eq_true rfl) rfl (fun X C => ?_)
  refine VF.of hf ?_
  unfold f_X6_isRow
  refine v_iload_n C 0 dX6_isRow_0 rfl ?_
  refine v_i2l C dX6_isRow_1 ?_
  refine v_lconst C dX6_isRow_2 (v := 0) (by decide) ?_
  refine v_ldc2 C (v := 3) (List.mem_of_getElem? (i := 1) rfl) dX6_isRow_3 ?_
  refine v_callSP3v C (fun l9 r9 h9 => k_X6_isIn (l := l9) h9) gX6_isRow_X6_isIn rfl nI_X6_isIn ⟨rfl, rfl, Nat.le_of_ble_eq_true rfl, Nat.le_of_ble_eq_true rfl⟩ dX6_isRow_6 (Nat.le_of_ble_eq_true rfl) (fun r1 => ?_)
  exact v_zret (rvf := fun (res : Bool) => (some (.int (bI res)))) (wf := fun (res : Bool) => []) C dX6_isRow_9 rfl rfl

end WK
