section WKC
variable {q : Nat → Nat} {cB : ClassId} {D : va_G} {m tO tT : Nat} {bf : Nat → Int32}
def B_J13_stringSize_95d88_1 (v2 : Int64) (v3 : Int32) (rec5 : Int64 → Int32 → Option (Int32))  (v6 : Int64) (v7 : Int32) : Option (Int32) :=
if (v7 : Int32) < 19 then (
if (v6 : Int64) < v2 then (
some (v7 + v3)) else (
nm (10 * v6) (fun (x8 : Int64) =>
nm (v7 + 1) (fun (x9 : Int32) =>
rec5 x8 x9)))) else (
some (19 + v3))
def L_J13_stringSize_95d88_1 (v2 : Int64) (v3 : Int32)  : Nat → Int64 → Int32 → Option (Int32)
  | 0, _, _ => none
  | m9 + 1, v6, v7 => B_J13_stringSize_95d88_1 v2 v3 (L_J13_stringSize_95d88_1 v2 v3 m9)  v6 v7

def f_J13_stringSize_95d88 (a1 : Int64) : Option (Int32) :=
jn2 (fun (v2 : Int64) (v3 : Int32) =>
nm (-10) (fun (x4 : Int64) =>
L_J13_stringSize_95d88_1 v2 v3  FU x4 1)) (fun k1 =>
if (a1 : Int64) < 0 then (
k1 a1 1) else (
nm (-a1) (fun (x10 : Int64) =>
k1 x10 0)))

theorem nI_J13_stringSize_95d88 : NameIn yJ13_stringSize_95d88 1 := ⟨by decide +kernel, by decide +kernel, by decide +kernel⟩
set_option maxRecDepth 100000 in
set_option maxHeartbeats 4000000 in
theorem lp_J13_stringSize_95d88_1 {X : CX} {res : Int32}   {v2 : Int64} {v3 : Int32} (C : Ok X cJ13_stringSize_95d88 6 (some .int) wsJ13_stringSize_95d88 RJ13 { frames := 0, cells := 0, slots := 0, locals := 0 } D [] [] [] NT (some (.int res)) [])  : ∀ fuel : Nat, ∀ v6 : Int64, ∀ v7 : Int32, VF X res (L_J13_stringSize_95d88_1 v2 v3 fuel v6 v7) [] 20 [(0, .long v2), (2, .int v3), (3, .long v6), (5, .int v7)] [] := by
  intro fuel
  induction fuel with
  | zero =>
    intro _ _
    exact v_none
  | succ fuel ih =>
    intro v6 v7
    show VF X res (B_J13_stringSize_95d88_1 v2 v3 (L_J13_stringSize_95d88_1 v2 v3 fuel)  v6 v7) _ _ _ _
    unfold B_J13_stringSize_95d88_1
    refine v_iload C 3 dJ13_stringSize_95d88_20 rfl ?_
    refine v_bipush C dJ13_stringSize_95d88_22 (v := 19) (by decide) ?_
    refine v_icmp_ge C dJ13_stringSize_95d88_24 (tgt := 50) (by decide) ?_ ?_
    · refine v_bipush C dJ13_stringSize_95d88_50 (v := 19) (by decide) ?_
      refine v_iload_n C 1 dJ13_stringSize_95d88_52 rfl ?_
      refine v_iadd C dJ13_stringSize_95d88_53 ?_
      exact v_iret (rvf := fun (res : Int32) => (some (.int res))) (wf := fun (res : Int32) => []) C dJ13_stringSize_95d88_54 rfl rfl
    · refine v_lload_n C 0 dJ13_stringSize_95d88_27 rfl ?_
      refine v_lload_n C 2 dJ13_stringSize_95d88_28 rfl ?_
      refine v_lcmp_le C dJ13_stringSize_95d88_29 dJ13_stringSize_95d88_30 (tgt := 38) (by decide) ?_ ?_
      · refine v_ldc2 C (v := 10) (List.mem_of_getElem? (i := 2) rfl) dJ13_stringSize_95d88_38 ?_
        refine v_lload_n C 2 dJ13_stringSize_95d88_41 rfl ?_
        refine v_lmul C dJ13_stringSize_95d88_42 ?_
        refine v_lstore_n_nm C (lvf := fun x8 => [(3, .long x8), (0, .long v2), (2, .int v3), (5, .int v7)]) dJ13_stringSize_95d88_43 rfl (by decide) (fun _ => rfl) (fun x8 => ?_)
        refine v_iinc_nm C (lvf := fun x9 => [(5, .int x9), (3, .long x8), (0, .long v2), (2, .int v3)]) 3 dJ13_stringSize_95d88_44 rfl rfl (by decide) (fun _ => rfl) (fun x9 => ?_)
        refine v_goto C dJ13_stringSize_95d88_47 (tgt := 20) (by decide) ?_
        exact v_sub [2, 3, 1, 0] rfl (ih x8 x9)
      · refine v_iload C 3 dJ13_stringSize_95d88_33 rfl ?_
        refine v_iload_n C 1 dJ13_stringSize_95d88_35 rfl ?_
        refine v_iadd C dJ13_stringSize_95d88_36 ?_
        exact v_iret (rvf := fun (res : Int32) => (some (.int res))) (wf := fun (res : Int32) => []) C dJ13_stringSize_95d88_37 rfl rfl

set_option maxRecDepth 100000 in
set_option maxHeartbeats 4000000 in
theorem k_J13_stringSize_95d88 {l : Launch} {a1 : Int64}  {res : Int32} (hf : f_J13_stringSize_95d88 a1 = some res) : pMet l yJ13_stringSize_95d88 wsJ13_stringSize_95d88 { frames := 0, cells := 0, slots := 0, locals := 0 } [.long a1] (some (.int res)) := by
  intro D
  refine kMet.of (cc := cJ13_stringSize_95d88) (nL := 6) (ret := (some .int)) (own := RJ13) (lv := [(0, .long a1)]) (by decide +kernel) rfl rfl NT_ok List.nodup_nil (Nat.le_of_ble_eq_true rfl) rfl (fun X C => ?_)
  refine VF.of hf ?_
  unfold f_J13_stringSize_95d88
  refine v_iconst C dJ13_stringSize_95d88_0 (v := 1) (by decide) ?_
  refine v_istore_n C (lv' := [(2, .int 1), (0, .long a1)]) dJ13_stringSize_95d88_1 rfl (by decide) rfl ?_
  refine v_lload_n C 1 dJ13_stringSize_95d88_2 rfl ?_
  refine v_lconst C dJ13_stringSize_95d88_3 (v := 0) (by decide) ?_
  refine v_jn2 (wj := (fun v2 v3 => [])) (pcj := 13) (lvj := (fun v2 v3 => [(0, .long v2), (2, .int v3)])) (stj := (fun v2 v3 => [])) (fun v2 v3 => ?_) (fun k1 hk1 => ?_)
  · refine v_ldc2 C (v := (-10)) (List.mem_of_getElem? (i := 1) rfl) dJ13_stringSize_95d88_13 ?_
    refine v_lstore_n_nm C (lvf := fun x4 => [(3, .long x4), (0, .long v2), (2, .int v3)]) dJ13_stringSize_95d88_16 rfl (by decide) (fun _ => rfl) (fun x4 => ?_)
    refine v_iconst C dJ13_stringSize_95d88_17 (v := 1) (by decide) ?_
    refine v_istore C (lv' := [(5, .int 1), (3, .long x4), (0, .long v2), (2, .int v3)]) dJ13_stringSize_95d88_18 (by decide) rfl ?_
    refine v_sub [2, 3, 1, 0] rfl (lp_J13_stringSize_95d88_1 C   FU x4 1)
  · refine v_lcmp_lt C dJ13_stringSize_95d88_4 dJ13_stringSize_95d88_5 (tgt := 13) (by decide) ?_ ?_
    · exact v_sub [1, 0] rfl (hk1 a1 1)
    · refine v_iconst C dJ13_stringSize_95d88_8 (v := 0) (by decide) ?_
      refine v_istore_n C (lv' := [(2, .int 0), (0, .long a1)]) dJ13_stringSize_95d88_9 rfl (by decide) rfl ?_
      refine v_lload_n C 1 dJ13_stringSize_95d88_10 rfl ?_
      refine v_lneg C dJ13_stringSize_95d88_11 ?_
      refine v_lstore_n_nm C (lvf := fun x10 => [(0, .long x10), (2, .int 0)]) dJ13_stringSize_95d88_12 rfl (by decide) (fun _ => rfl) (fun x10 => ?_)
      exact v_sub [0, 1] rfl (hk1 x10 0)

def B_J13_getChars_11360_1 (m : Nat) (rec5 : Int64 → Int32 → (Nat → Int32) → Option (Int32 × (Nat → Int32))) (kx6 : Int64 → Int32 → (Nat → Int32) → Option (Int32 × (Nat → Int32))) (v7 : Int64) (v8 : Int32) (bf9 : Nat → Int32) : Option (Int32 × (Nat → Int32)) :=
if ((-2147483648) : Int64) < v7 then (
kx6 v7 v8 bf9) else (
ck ((100 : Int64) != 0) (
nm (v7 / 100) (fun (x10 : Int64) =>
nm (((x10 * 100) - v7).toInt32) (fun (x11 : Int32) =>
nm (v8 + (-1)) (fun (x12 : Int32) =>
ck (inb x11 100) (
ck (inb x12 m) (
nm (upd bf9 x12.toNatClampNeg (vp_nar .byte (dgO x11.toNatClampNeg))) (fun (bf13 : Nat → Int32) =>
nm (x12 + (-1)) (fun (x14 : Int32) =>
ck (inb x11 100) (
ck (inb x14 m) (
nm (upd bf13 x14.toNatClampNeg (vp_nar .byte (dgT x11.toNatClampNeg))) (fun (bf15 : Nat → Int32) =>
rec5 x10 x14 bf15))))))))))))
def L_J13_getChars_11360_1 (m : Nat) (kx6 : Int64 → Int32 → (Nat → Int32) → Option (Int32 × (Nat → Int32))) : Nat → Int64 → Int32 → (Nat → Int32) → Option (Int32 × (Nat → Int32))
  | 0, _, _, _ => none
  | m9 + 1, v7, v8, bf9 => B_J13_getChars_11360_1 m (L_J13_getChars_11360_1 m kx6 m9) kx6 v7 v8 bf9

def B_J13_getChars_11360_2 (m : Nat) (rec19 : Int32 → Int32 → (Nat → Int32) → Option (Int32 × (Nat → Int32))) (kx20 : Int32 → Int32 → (Nat → Int32) → Option (Int32 × (Nat → Int32))) (v21 : Int32) (v22 : Int32) (bf23 : Nat → Int32) : Option (Int32 × (Nat → Int32)) :=
if ((-100) : Int32) < v22 then (
kx20 v21 v22 bf23) else (
ck ((100 : Int32) != 0) (
nm (v22 / 100) (fun (x24 : Int32) =>
nm ((x24 * 100) - v22) (fun (x25 : Int32) =>
nm (v21 + (-1)) (fun (x26 : Int32) =>
ck (inb x25 100) (
ck (inb x26 m) (
nm (upd bf23 x26.toNatClampNeg (vp_nar .byte (dgO x25.toNatClampNeg))) (fun (bf27 : Nat → Int32) =>
nm (x26 + (-1)) (fun (x28 : Int32) =>
ck (inb x25 100) (
ck (inb x28 m) (
nm (upd bf27 x28.toNatClampNeg (vp_nar .byte (dgT x25.toNatClampNeg))) (fun (bf29 : Nat → Int32) =>
rec19 x28 x24 bf29))))))))))))
def L_J13_getChars_11360_2 (m : Nat) (kx20 : Int32 → Int32 → (Nat → Int32) → Option (Int32 × (Nat → Int32))) : Nat → Int32 → Int32 → (Nat → Int32) → Option (Int32 × (Nat → Int32))
  | 0, _, _, _ => none
  | m9 + 1, v21, v22, bf23 => B_J13_getChars_11360_2 m (L_J13_getChars_11360_2 m kx20 m9) kx20 v21 v22 bf23

def f_J13_getChars_11360 (m : Nat) (bf : Nat → Int32) (a1 : Int64) (a2 : Int32) : Option (Int32 × (Nat → Int32)) :=
jn1 (fun (v2 : Bool) =>
jn1 (fun (v4 : Int64) =>
L_J13_getChars_11360_1 m (fun (v16 : Int64) (v17 : Int32) (bf18 : Nat → Int32) =>
L_J13_getChars_11360_2 m (fun (v30 : Int32) (v31 : Int32) (bf32 : Nat → Int32) =>
nm (v30 + (-1)) (fun (x33 : Int32) =>
ck (inb (-v31) 100) (
ck (inb x33 m) (
nm (upd bf32 x33.toNatClampNeg (vp_nar .byte (dgO (-v31).toNatClampNeg))) (fun (bf34 : Nat → Int32) =>
jn2 (fun (v36 : Int32) (bf37 : Nat → Int32) =>
if v2 = true then (
nm (v36 + (-1)) (fun (x38 : Int32) =>
ck (inb x38 m) (
nm (upd bf37 x38.toNatClampNeg (vp_nar .byte 45)) (fun (bf39 : Nat → Int32) =>
some (x38, bf39))))) else (
some (v36, bf37))) (fun k35 =>
if (v31 : Int32) < (-9) then (
nm (x33 + (-1)) (fun (x40 : Int32) =>
ck (inb (-v31) 100) (
ck (inb x40 m) (
nm (upd bf34 x40.toNatClampNeg (vp_nar .byte (dgT (-v31).toNatClampNeg))) (fun (bf41 : Nat → Int32) =>
k35 x40 bf41))))) else (
k35 x33 bf34))))))) FU v17 v16.toInt32 bf18) FU v4 a2 bf) (fun k3 =>
if v2 = true then (
k3 a1) else (
nm (-a1) (fun (x42 : Int64) =>
k3 x42)))) (fun k1 =>
if (a1 : Int64) < 0 then (
k1 true) else (
k1 false))

theorem nI_J13_getChars_11360 : NameIn yJ13_getChars_11360 3 := ⟨by decide +kernel, by decide +kernel, by decide +kernel⟩
set_option maxRecDepth 100000 in
set_option maxHeartbeats 4000000 in
theorem lp_J13_getChars_11360_1 {X : CX} {res : Int32 × (Nat → Int32)}   {v2 : Bool} (hq : [q 0].Nodup) (C : Ok X cJ13_getChars_11360 11 (some .int) wsJ13_getChars_11360 RJ13 { frames := 0, cells := 0, slots := 0, locals := 0 } D vwCl [(cB, .byte)] [q 0] (dN tO tT) (some (.int res.1)) [(q 0, .inl (cB, m, .inl res.2))])  (kx6 : Int64 → Int32 → (Nat → Int32) → Option (Int32 × (Nat → Int32))) (Jkx6 : ∀ y0 : Int64, ∀ y7 : Int32, ∀ bfZz : Nat → Int32, VF X res (kx6 y0 y7 bfZz) [(q 0, .inl (cB, m, .inl bfZz))] 82 [(0, .long y0), (3, .ref (q 0)), (7, .int y7), (8, .int (bI v2))] []) : ∀ fuel : Nat, ∀ v7 : Int64, ∀ v8 : Int32, ∀ bf9 : Nat → Int32, VF X res (L_J13_getChars_11360_1 m kx6 fuel v7 v8 bf9) [(q 0, .inl (cB, m, .inl bf9))] 24 [(0, .long v7), (3, .ref (q 0)), (7, .int v8), (8, .int (bI v2))] [] := by
  intro fuel
  induction fuel with
  | zero =>
    intro _ _ _
    exact v_none
  | succ fuel ih =>
    intro v7 v8 bf9
    show VF X res (B_J13_getChars_11360_1 m (L_J13_getChars_11360_1 m kx6 fuel) kx6 v7 v8 bf9) _ _ _ _
    unfold B_J13_getChars_11360_1
    refine v_lload_n C 0 dJ13_getChars_11360_24 rfl ?_
    refine v_ldc2 C (v := (-2147483648)) (List.mem_of_getElem? (i := 1) rfl) dJ13_getChars_11360_25 ?_
    refine v_lcmp_gt C dJ13_getChars_11360_28 dJ13_getChars_11360_29 (tgt := 82) (by decide) ?_ ?_
    · exact v_sub [0, 1, 2, 3] rfl (Jkx6 v7 v8 bf9)
    · refine v_lload_n C 0 dJ13_getChars_11360_32 rfl ?_
      refine v_ldc2 C (v := 100) (List.mem_of_getElem? (i := 2) rfl) dJ13_getChars_11360_33 ?_
      refine v_ldiv C dJ13_getChars_11360_36 ?_
      refine v_lstore_nm C (lvf := fun x10 => [(4, .long x10), (0, .long v7), (3, .ref (q 0)), (7, .int v8), (8, .int (bI v2))]) dJ13_getChars_11360_37 (by decide) (fun _ => rfl) (fun x10 => ?_)
      refine v_lload C 0 dJ13_getChars_11360_39 rfl ?_
      refine v_ldc2 C (v := 100) (List.mem_of_getElem? (i := 2) rfl) dJ13_getChars_11360_41 ?_
      refine v_lmul C dJ13_getChars_11360_44 ?_
      refine v_lload_n C 1 dJ13_getChars_11360_45 rfl ?_
      refine v_lsub C dJ13_getChars_11360_46 ?_
      refine v_l2i C dJ13_getChars_11360_47 ?_
      refine v_istore_nm C (lvf := fun x11 => [(6, .int x11), (4, .long x10), (0, .long v7), (3, .ref (q 0)), (7, .int v8), (8, .int (bI v2))]) dJ13_getChars_11360_48 (by decide) (fun _ => rfl) (fun x11 => ?_)
      refine v_lload C 1 dJ13_getChars_11360_50 rfl ?_
      refine v_lstore_n C (lv' := [(0, .long x10), (6, .int x11), (4, .long x10), (3, .ref (q 0)), (7, .int v8), (8, .int (bI v2))]) dJ13_getChars_11360_52 rfl (by decide) rfl ?_
      refine v_aload_n C 3 dJ13_getChars_11360_53 rfl ?_
      refine v_iinc_nm C (lvf := fun x12 => [(7, .int x12), (0, .long x10), (6, .int x11), (4, .long x10), (3, .ref (q 0)), (8, .int (bI v2))]) 4 dJ13_getChars_11360_54 rfl rfl (by decide) (fun _ => rfl) (fun x12 => ?_)
      refine v_iload C 0 dJ13_getChars_11360_57 rfl ?_
      refine v_gets C (fun _ _ h => dN_O h) (List.mem_of_getElem? (i := 3) rfl) rfl dJ13_getChars_11360_59 ?_
      refine v_iload C 2 dJ13_getChars_11360_62 rfl ?_
      refine v_tbald C (fun _ _ h => dN_TO h) dJ13_getChars_11360_64 ?_
      refine v_bast_nm C (fun bf13 => [(q 0, .inl (cB, m, .inl bf13))]) 0 0 rfl rfl rfl (fun _ => rfl) dJ13_getChars_11360_65 (fun bf13 => ?_)
      refine v_aload_n C 4 dJ13_getChars_11360_66 rfl ?_
      refine v_iinc_nm C (lvf := fun x14 => [(7, .int x14), (0, .long x10), (6, .int x11), (4, .long x10), (3, .ref (q 0)), (8, .int (bI v2))]) 0 dJ13_getChars_11360_67 rfl rfl (by decide) (fun _ => rfl) (fun x14 => ?_)
      refine v_iload C 0 dJ13_getChars_11360_70 rfl ?_
      refine v_gets C (fun _ _ h => dN_T h) (List.mem_of_getElem? (i := 4) rfl) rfl dJ13_getChars_11360_72 ?_
      refine v_iload C 2 dJ13_getChars_11360_75 rfl ?_
      refine v_tbald C (fun _ _ h => dN_TT h) dJ13_getChars_11360_77 ?_
      refine v_bast_nm C (fun bf15 => [(q 0, .inl (cB, m, .inl bf15))]) 0 0 rfl rfl rfl (fun _ => rfl) dJ13_getChars_11360_78 (fun bf15 => ?_)
      refine v_goto C dJ13_getChars_11360_79 (tgt := 24) (by decide) ?_
      exact v_sub [1, 4, 0, 5] rfl (ih x10 x14 bf15)

set_option maxRecDepth 100000 in
set_option maxHeartbeats 4000000 in
theorem lp_J13_getChars_11360_2 {X : CX} {res : Int32 × (Nat → Int32)}   {v2 : Bool} (hq : [q 0].Nodup) (C : Ok X cJ13_getChars_11360 11 (some .int) wsJ13_getChars_11360 RJ13 { frames := 0, cells := 0, slots := 0, locals := 0 } D vwCl [(cB, .byte)] [q 0] (dN tO tT) (some (.int res.1)) [(q 0, .inl (cB, m, .inl res.2))])  (kx20 : Int32 → Int32 → (Nat → Int32) → Option (Int32 × (Nat → Int32))) (Jkx20 : ∀ y7 : Int32, ∀ y10 : Int32, ∀ bfZz : Nat → Int32, VF X res (kx20 y7 y10 bfZz) [(q 0, .inl (cB, m, .inl bfZz))] 143 [(3, .ref (q 0)), (7, .int y7), (8, .int (bI v2)), (10, .int y10)] []) : ∀ fuel : Nat, ∀ v21 : Int32, ∀ v22 : Int32, ∀ bf23 : Nat → Int32, VF X res (L_J13_getChars_11360_2 m kx20 fuel v21 v22 bf23) [(q 0, .inl (cB, m, .inl bf23))] 86 [(3, .ref (q 0)), (7, .int v21), (8, .int (bI v2)), (10, .int v22)] [] := by
  intro fuel
  induction fuel with
  | zero =>
    intro _ _ _
    exact v_none
  | succ fuel ih =>
    intro v21 v22 bf23
    show VF X res (B_J13_getChars_11360_2 m (L_J13_getChars_11360_2 m kx20 fuel) kx20 v21 v22 bf23) _ _ _ _
    unfold B_J13_getChars_11360_2
    refine v_iload C 3 dJ13_getChars_11360_86 rfl ?_
    refine v_bipush C dJ13_getChars_11360_88 (v := (-100)) (by decide) ?_
    refine v_icmp_gt C dJ13_getChars_11360_90 (tgt := 143) (by decide) ?_ ?_
    · exact v_sub [0, 1, 2, 3] rfl (Jkx20 v21 v22 bf23)
    · refine v_iload C 3 dJ13_getChars_11360_93 rfl ?_
      refine v_bipush C dJ13_getChars_11360_95 (v := 100) (by decide) ?_
      refine v_idiv C dJ13_getChars_11360_97 ?_
      refine v_istore_nm C (lvf := fun x24 => [(9, .int x24), (3, .ref (q 0)), (7, .int v21), (8, .int (bI v2)), (10, .int v22)]) dJ13_getChars_11360_98 (by decide) (fun _ => rfl) (fun x24 => ?_)
      refine v_iload C 0 dJ13_getChars_11360_100 rfl ?_
      refine v_bipush C dJ13_getChars_11360_102 (v := 100) (by decide) ?_
      refine v_imul C dJ13_getChars_11360_104 ?_
      refine v_iload C 4 dJ13_getChars_11360_105 rfl ?_
      refine v_isub C dJ13_getChars_11360_107 ?_
      refine v_istore_nm C (lvf := fun x25 => [(6, .int x25), (9, .int x24), (3, .ref (q 0)), (7, .int v21), (8, .int (bI v2)), (10, .int v22)]) dJ13_getChars_11360_108 (by decide) (fun _ => rfl) (fun x25 => ?_)
      refine v_iload C 1 dJ13_getChars_11360_110 rfl ?_
      refine v_istore C (lv' := [(10, .int x24), (6, .int x25), (9, .int x24), (3, .ref (q 0)), (7, .int v21), (8, .int (bI v2))]) dJ13_getChars_11360_112 (by decide) rfl ?_
      refine v_aload_n C 3 dJ13_getChars_11360_114 rfl ?_
      refine v_iinc_nm C (lvf := fun x26 => [(7, .int x26), (10, .int x24), (6, .int x25), (9, .int x24), (3, .ref (q 0)), (8, .int (bI v2))]) 4 dJ13_getChars_11360_115 rfl rfl (by decide) (fun _ => rfl) (fun x26 => ?_)
      refine v_iload C 0 dJ13_getChars_11360_118 rfl ?_
      refine v_gets C (fun _ _ h => dN_O h) (List.mem_of_getElem? (i := 3) rfl) rfl dJ13_getChars_11360_120 ?_
      refine v_iload C 2 dJ13_getChars_11360_123 rfl ?_
      refine v_tbald C (fun _ _ h => dN_TO h) dJ13_getChars_11360_125 ?_
      refine v_bast_nm C (fun bf27 => [(q 0, .inl (cB, m, .inl bf27))]) 0 0 rfl rfl rfl (fun _ => rfl) dJ13_getChars_11360_126 (fun bf27 => ?_)
      refine v_aload_n C 4 dJ13_getChars_11360_127 rfl ?_
      refine v_iinc_nm C (lvf := fun x28 => [(7, .int x28), (10, .int x24), (6, .int x25), (9, .int x24), (3, .ref (q 0)), (8, .int (bI v2))]) 0 dJ13_getChars_11360_128 rfl rfl (by decide) (fun _ => rfl) (fun x28 => ?_)
      refine v_iload C 0 dJ13_getChars_11360_131 rfl ?_
      refine v_gets C (fun _ _ h => dN_T h) (List.mem_of_getElem? (i := 4) rfl) rfl dJ13_getChars_11360_133 ?_
      refine v_iload C 2 dJ13_getChars_11360_136 rfl ?_
      refine v_tbald C (fun _ _ h => dN_TT h) dJ13_getChars_11360_138 ?_
      refine v_bast_nm C (fun bf29 => [(q 0, .inl (cB, m, .inl bf29))]) 0 0 rfl rfl rfl (fun _ => rfl) dJ13_getChars_11360_139 (fun bf29 => ?_)
      refine v_goto C dJ13_getChars_11360_140 (tgt := 86) (by decide) ?_
      exact v_sub [4, 0, 5, 1] rfl (ih x28 x24 bf29)

set_option maxRecDepth 100000 in
set_option maxHeartbeats 4000000 in
theorem k_J13_getChars_11360 {l : Launch} {a1 : Int64} {a2 : Int32}  {res : Int32 × (Nat → Int32)} (hq : [q 0].Nodup)  (hf : f_J13_getChars_11360 m bf a1 a2 = some res) : kMet l yJ13_getChars_11360 wsJ13_getChars_11360 { frames := 0, cells := 0, slots := 0, locals := 0 } D vwCl [(cB, .byte)] (dN tO tT) [q 0] [.long a1, .int a2, .ref (q 0)] [(q 0, .inl (cB, m, .inl bf))] (some (.int res.1)) [(q 0, .inl (cB, m, .inl res.2))] := by
  refine kMet.of (cc := cJ13_getChars_11360) (nL := 11) (ret := (some .int)) (own := RJ13) (lv := [(0, .long a1), (2, .int a2), (3, .ref (q 0))]) (by decide +kernel) rfl rfl dN_ok hq (Nat.le_of_ble_eq_true rfl) rfl (fun X C => ?_)
  refine VF.of hf ?_
  unfold f_J13_getChars_11360
  refine v_iload_n C 1 dJ13_getChars_11360_0 rfl ?_
  refine v_istore C (lv' := [(7, .int a2), (0, .long a1), (2, .int a2), (3, .ref (q 0))]) dJ13_getChars_11360_1 (by decide) rfl ?_
  refine v_lload_n C 1 dJ13_getChars_11360_3 rfl ?_
  refine v_lconst C dJ13_getChars_11360_4 (v := 0) (by decide) ?_
  refine v_jn1 (wj := (fun v2 => [(q 0, .inl (cB, m, .inl bf))])) (pcj := 14) (lvj := (fun v2 => [(0, .long a1), (3, .ref (q 0)), (7, .int a2)])) (stj := (fun v2 => [.int (bI v2)])) (fun v2 => ?_) (fun k1 hk1 => ?_)
  · refine v_istore C (lv' := [(8, .int (bI v2)), (0, .long a1), (3, .ref (q 0)), (7, .int a2)]) dJ13_getChars_11360_14 (by decide) rfl ?_
    refine v_iload C 0 dJ13_getChars_11360_16 rfl ?_
    refine v_jn1 (wj := (fun v4 => [(q 0, .inl (cB, m, .inl bf))])) (pcj := 24) (lvj := (fun v4 => [(0, .long v4), (3, .ref (q 0)), (7, .int a2), (8, .int (bI v2))])) (stj := (fun v4 => [])) (fun v4 => ?_) (fun k3 hk3 => ?_)
    · refine v_sub [0, 1, 2, 3] rfl (lp_J13_getChars_11360_1 hq C  _ (fun v16 v17 bf18 => ?_) FU v4 a2 bf)
      refine v_lload_n C 0 dJ13_getChars_11360_82 rfl ?_
      refine v_l2i C dJ13_getChars_11360_83 ?_
      refine v_istore C (lv' := [(10, .int v16.toInt32), (0, .long v16), (3, .ref (q 0)), (7, .int v17), (8, .int (bI v2))]) dJ13_getChars_11360_84 (by decide) rfl ?_
      refine v_sub [2, 3, 4, 0] rfl (lp_J13_getChars_11360_2 hq C  _ (fun v30 v31 bf32 => ?_) FU v17 v16.toInt32 bf18)
      refine v_aload_n C 0 dJ13_getChars_11360_143 rfl ?_
      refine v_iinc_nm C (lvf := fun x33 => [(7, .int x33), (3, .ref (q 0)), (8, .int (bI v2)), (10, .int v31)]) 1 dJ13_getChars_11360_144 rfl rfl (by decide) (fun _ => rfl) (fun x33 => ?_)
      refine v_iload C 0 dJ13_getChars_11360_147 rfl ?_
      refine v_gets C (fun _ _ h => dN_O h) (List.mem_of_getElem? (i := 3) rfl) rfl dJ13_getChars_11360_149 ?_
      refine v_iload C 3 dJ13_getChars_11360_152 rfl ?_
      refine v_ineg C dJ13_getChars_11360_154 ?_
      refine v_tbald C (fun _ _ h => dN_TO h) dJ13_getChars_11360_155 ?_
      refine v_bast_nm C (fun bf34 => [(q 0, .inl (cB, m, .inl bf34))]) 0 0 rfl rfl rfl (fun _ => rfl) dJ13_getChars_11360_156 (fun bf34 => ?_)
      refine v_iload C 3 dJ13_getChars_11360_157 rfl ?_
      refine v_bipush C dJ13_getChars_11360_159 (v := (-9)) (by decide) ?_
      refine v_jn2 (wj := (fun v36 bf37 => [(q 0, .inl (cB, m, .inl bf37))])) (pcj := 178) (lvj := (fun v36 bf37 => [(3, .ref (q 0)), (7, .int v36), (8, .int (bI v2))])) (stj := (fun v36 bf37 => [])) (fun v36 bf37 => ?_) (fun k35 hk35 => ?_)
      · refine v_iload C 2 dJ13_getChars_11360_178 rfl ?_
        refine v_ifb_eq C (b := v2) dJ13_getChars_11360_180 (tgt := 192) (by decide) ?_ ?_
        · refine v_iload C 1 dJ13_getChars_11360_192 rfl ?_
          exact v_iret (rvf := fun (res : Int32 × (Nat → Int32)) => (some (.int res.1))) (wf := fun (res : Int32 × (Nat → Int32)) => [(q 0, .inl (cB, m, .inl res.2))]) C dJ13_getChars_11360_194 rfl rfl
        · refine v_aload_n C 0 dJ13_getChars_11360_183 rfl ?_
          refine v_iinc_nm C (lvf := fun x38 => [(7, .int x38), (3, .ref (q 0)), (8, .int (bI v2))]) 1 dJ13_getChars_11360_184 rfl rfl (by decide) (fun _ => rfl) (fun x38 => ?_)
          refine v_iload C 0 dJ13_getChars_11360_187 rfl ?_
          refine v_bipush C dJ13_getChars_11360_189 (v := 45) (by decide) ?_
          refine v_bast_nm C (fun bf39 => [(q 0, .inl (cB, m, .inl bf39))]) 0 0 rfl rfl rfl (fun _ => rfl) dJ13_getChars_11360_191 (fun bf39 => ?_)
          refine v_iload C 0 dJ13_getChars_11360_192 rfl ?_
          exact v_iret (rvf := fun (res : Int32 × (Nat → Int32)) => (some (.int res.1))) (wf := fun (res : Int32 × (Nat → Int32)) => [(q 0, .inl (cB, m, .inl res.2))]) C dJ13_getChars_11360_194 rfl rfl
      · refine v_icmp_ge C dJ13_getChars_11360_161 (tgt := 178) (by decide) ?_ ?_
        · exact v_sub [1, 0, 2] rfl (hk35 x33 bf34)
        · refine v_aload_n C 1 dJ13_getChars_11360_164 rfl ?_
          refine v_iinc_nm C (lvf := fun x40 => [(7, .int x40), (3, .ref (q 0)), (8, .int (bI v2)), (10, .int v31)]) 0 dJ13_getChars_11360_165 rfl rfl (by decide) (fun _ => rfl) (fun x40 => ?_)
          refine v_iload C 0 dJ13_getChars_11360_168 rfl ?_
          refine v_gets C (fun _ _ h => dN_T h) (List.mem_of_getElem? (i := 4) rfl) rfl dJ13_getChars_11360_170 ?_
          refine v_iload C 3 dJ13_getChars_11360_173 rfl ?_
          refine v_ineg C dJ13_getChars_11360_175 ?_
          refine v_tbald C (fun _ _ h => dN_TT h) dJ13_getChars_11360_176 ?_
          refine v_bast_nm C (fun bf41 => [(q 0, .inl (cB, m, .inl bf41))]) 0 0 rfl rfl rfl (fun _ => rfl) dJ13_getChars_11360_177 (fun bf41 => ?_)
          exact v_sub [1, 0, 2] rfl (hk35 x40 bf41)
    · refine v_ifb_ne C (b := v2) dJ13_getChars_11360_18 (tgt := 24) (by decide) ?_ ?_
      · exact v_sub [1, 2, 3, 0] rfl (hk3 a1)
      · refine v_lload_n C 1 dJ13_getChars_11360_21 rfl ?_
        refine v_lneg C dJ13_getChars_11360_22 ?_
        refine v_lstore_n_nm C (lvf := fun x42 => [(0, .long x42), (8, .int (bI v2)), (3, .ref (q 0)), (7, .int a2)]) dJ13_getChars_11360_23 rfl (by decide) (fun _ => rfl) (fun x42 => ?_)
        exact v_sub [0, 2, 3, 1] rfl (hk3 x42)
  · refine v_lcmp_ge C dJ13_getChars_11360_5 dJ13_getChars_11360_6 (tgt := 13) (by decide) ?_ ?_
    · refine v_iconst C dJ13_getChars_11360_13 (v := 0) (by decide) ?_
      exact v_sub [1, 3, 0] rfl (hk1 false)
    · refine v_iconst C dJ13_getChars_11360_9 (v := 1) (by decide) ?_
      refine v_goto C dJ13_getChars_11360_10 (tgt := 14) (by decide) ?_
      exact v_sub [1, 3, 0] rfl (hk1 true)

end WKC
