section WK
variable {q : Nat → Nat} {cs : Nat → ClassId} {D : va_G} {N : (Nat → Prop) → State → Prop} {isK : Bool} {isB : Bool} {fed : Int32} {at_ : Int32} {ltr : Int32} {ab : Int64} {ps : Nat} {g : Nat → Int64} {kp : Nat → Int64} {nx : Nat → Int64} {fa : Nat → Int64} {tp : Nat → Int32} {rs : Nat → Int32} {rv : Nat → Int64} {ct : Nat → Int32} {it : Nat → Int64}
def B_X6_owen_1 (g : Nat → Int64) (fa : Nat → Int64) (a1 : Int32) (a2 : Int32) (r4 : Int32) (rec6 : Int64 → Int32 → Bool → Option (Int64 × Bool)) (kx7 : Int64 → Bool → Option (Int64 × Bool)) (v8 : Int64) (v9 : Int32) (isB10 : Bool) : Option (Int64 × Bool) :=
(f_X6_all g).bind (fun (r11 : Int32) =>
if (r11 : Int32) < v9 then (
kx7 v8 isB10) else (
(f_X6_has v9 a2).bind (fun (r12 : Bool) =>
jn2 (fun (v14 : Int64) (isB15 : Bool) =>
nm (v9 + 1) (fun (x16 : Int32) =>
rec6 v14 x16 isB15)) (fun k13 =>
if r12 = true then (
k13 v8 isB10) else (
(f_X6_whole g v9 r4).bind (fun (r17 : Int32) =>
if (r17 : Int32) < 0 then (
k13 v8 isB10) else (
(f_X6_gain isB10 g a1 a2 v9).bind (fun (r18 : Int64 × Bool) =>
(f_X6_owenOf g fa v9 r4).bind (fun (r19 : Int64) =>
(f_X6_product r18.2 r18.1 r19).bind (fun (r20 : Int64 × Bool) =>
(f_X6_plus r20.2 v8 r20.1).bind (fun (r21 : Int64 × Bool) =>
k13 r21.1 r21.2)))))))))))
def L_X6_owen_1 (g : Nat → Int64) (fa : Nat → Int64) (a1 : Int32) (a2 : Int32) (r4 : Int32) (kx7 : Int64 → Bool → Option (Int64 × Bool)) : Nat → Int64 → Int32 → Bool → Option (Int64 × Bool)
  | 0, _, _, _ => none
  | m9 + 1, v8, v9, isB10 => B_X6_owen_1 g fa a1 a2 r4 (L_X6_owen_1 g fa a1 a2 r4 kx7 m9) kx7 v8 v9 isB10

def f_X6_owen (isB : Bool) (g : Nat → Int64) (fa : Nat → Int64) (a1 : Int32) (a2 : Int32) (a3 : Int32) : Option (Int64 × Bool) :=
(f_X6_isGame a1).bind (fun (r1 : Bool) =>
if r1 = true then (
(f_X6_isPartner g a2).bind (fun (r2 : Bool) =>
if r2 = true then (
(f_X6_isIn a3.toInt64 0 1).bind (fun (r3 : Bool) =>
if r3 = true then (
(f_X6_unionOf g a2).bind (fun (r4 : Int32) =>
nm false (fun (isB5 : Bool) =>
L_X6_owen_1 g fa a1 a2 r4 (fun (v22 : Int64) (isB23 : Bool) =>
if isB23 = true then (
some ((-9223372036854775808), isB23)) else (
(f_X6_unions g).bind (fun (r24 : Int32) =>
ck (inb r24 10) (
(f_X6_members g r4).bind (fun (r25 : Int32) =>
(f_X6_size r25).bind (fun (r26 : Int32) =>
ck (inb r26 10) (
(f_X6_part v22 ((fa r24.toNatClampNeg) * (fa r26.toNatClampNeg)) a3).bind (fun (r27 : Int64) =>
some (r27, isB23))))))))) FU 0 0 isB5))) else (
some ((-9223372036854775808), isB)))) else (
some ((-9223372036854775808), isB)))) else (
some ((-9223372036854775808), isB)))

theorem nI_X6_owen : NameIn yX6_owen 3 := ⟨by decide +kernel, by decide +kernel, by decide +kernel⟩
set_option maxRecDepth 100000 in
set_option maxHeartbeats 4000000 in
theorem lp_X6_owen_1 {X : CX} {res : Int64 × Bool} {a1 : Int32} {a2 : Int32} {a3 : Int32}  {r4 : Int32} (hq : (mA q).Nodup) (hNK : NOK N) (C : Ok X cX6_owen 8 (some .long) wsX6_owen RX6 { frames := 4, cells := 0, slots := 0, locals := 93 } D vwCl (mT cs) (mA q) N (some (.long res.1)) (mW q cs isK res.2 fed at_ ltr ab ps g kp nx fa tp rs rv ct it))  (kx7 : Int64 → Bool → Option (Int64 × Bool)) (Jkx7 : ∀ y5 : Int64, ∀ isBZz : Bool, VF X res (kx7 y5 isBZz) (mW q cs isK isBZz fed at_ ltr ab ps g kp nx fa tp rs rv ct it) 110 [(0, .ref (q 0)), (3, .int a3), (4, .int r4), (5, .long y5)] []) : ∀ fuel : Nat, ∀ v8 : Int64, ∀ v9 : Int32, ∀ isB10 : Bool, VF X res (L_X6_owen_1 g fa a1 a2 r4 kx7 fuel v8 v9 isB10) (mW q cs isK isB10 fed at_ ltr ab ps g kp nx fa tp rs rv ct it) 47 [(0, .ref (q 0)), (1, .int a1), (2, .int a2), (3, .int a3), (4, .int r4), (5, .long v8), (7, .int v9)] [] := by
  intro fuel
  induction fuel with
  | zero =>
    intro _ _ _
    exact v_none
  | succ fuel ih =>
    intro v8 v9 isB10
    show VF X res (B_X6_owen_1 g fa a1 a2 r4 (L_X6_owen_1 g fa a1 a2 r4 kx7 fuel) kx7 v8 v9 isB10) _ _ _ _
    unfold B_X6_owen_1
    refine v_iload C 6 dX6_owen_47 rfl ?_
    refine v_aload_n C 0 dX6_owen_49 rfl ?_
    refine v_callV0v C 0 rfl rfl rfl (fun l9 r9 h9 => k_X6_all (l := l9) hq hNK  h9) gX6_owen_X6_all rfl nI_X6_all ⟨rfl, rfl, Nat.le_of_ble_eq_true rfl, Nat.le_of_ble_eq_true rfl⟩ dX6_owen_50 (Nat.le_of_ble_eq_true rfl) (fun r11 => ?_)
    refine v_icmp_gt C dX6_owen_53 (tgt := 110) (by decide) ?_ ?_
    · exact v_sub [0, 3, 4, 5] rfl (Jkx7 v8 isB10)
    · refine v_iload C 6 dX6_owen_56 rfl ?_
      refine v_iload_n C 2 dX6_owen_58 rfl ?_
      refine v_callSP2v C (fun l9 r9 h9 => k_X6_has (l := l9) h9) gX6_owen_X6_has rfl nI_X6_has ⟨rfl, rfl, Nat.le_of_ble_eq_true rfl, Nat.le_of_ble_eq_true rfl⟩ dX6_owen_59 (Nat.le_of_ble_eq_true rfl) (fun r12 => ?_)
      refine v_jn2 (wj := (fun v14 isB15 => (mW q cs isK isB15 fed at_ ltr ab ps g kp nx fa tp rs rv ct it))) (pcj := 104) (lvj := (fun v14 isB15 => [(0, .ref (q 0)), (1, .int a1), (2, .int a2), (3, .int a3), (4, .int r4), (5, .long v14), (7, .int v9)])) (stj := (fun v14 isB15 => [])) (fun v14 isB15 => ?_) (fun k13 hk13 => ?_)
      · refine v_iinc_nm C (lvf := fun x16 => [(7, .int x16), (0, .ref (q 0)), (1, .int a1), (2, .int a2), (3, .int a3), (4, .int r4), (5, .long v14)]) 6 dX6_owen_104 rfl rfl (by decide) (fun _ => rfl) (fun x16 => ?_)
        refine v_goto C dX6_owen_107 (tgt := 47) (by decide) ?_
        exact v_sub [1, 2, 3, 4, 5, 6, 0] rfl (ih v14 x16 isB15)
      · refine v_ifb_ne C (b := r12) dX6_owen_62 (tgt := 104) (by decide) ?_ ?_
        · exact v_sub [0, 1, 2, 3, 4, 5, 6] rfl (hk13 v8 isB10)
        · refine v_aload_n C 0 dX6_owen_65 rfl ?_
          refine v_iload C 6 dX6_owen_66 rfl ?_
          refine v_iload C 4 dX6_owen_68 rfl ?_
          refine v_callV2v C 0 rfl rfl rfl (fun l9 r9 h9 => k_X6_whole (l := l9) hq hNK  h9) gX6_owen_X6_whole rfl nI_X6_whole ⟨rfl, rfl, Nat.le_of_ble_eq_true rfl, Nat.le_of_ble_eq_true rfl⟩ dX6_owen_70 (Nat.le_of_ble_eq_true rfl) (fun r17 => ?_)
          refine v_if_lt C dX6_owen_73 (tgt := 104) (by decide) ?_ ?_
          · exact v_sub [0, 1, 2, 3, 4, 5, 6] rfl (hk13 v8 isB10)
          · refine v_aload_n C 0 dX6_owen_76 rfl ?_
            refine v_lload C 5 dX6_owen_77 rfl ?_
            refine v_aload_n C 0 dX6_owen_79 rfl ?_
            refine v_aload_n C 0 dX6_owen_80 rfl ?_
            refine v_iload_n C 1 dX6_owen_81 rfl ?_
            refine v_iload_n C 2 dX6_owen_82 rfl ?_
            refine v_iload C 6 dX6_owen_83 rfl ?_
            refine v_callV3v C 0 rfl rfl rfl (fun l9 r9 h9 => k_X6_gain (l := l9) hq hNK  h9) gX6_owen_X6_gain rfl nI_X6_gain ⟨rfl, rfl, Nat.le_of_ble_eq_true rfl, Nat.le_of_ble_eq_true rfl⟩ dX6_owen_85 (Nat.le_of_ble_eq_true rfl) (fun r18 => ?_)
            refine v_aload_n C 0 dX6_owen_88 rfl ?_
            refine v_iload C 6 dX6_owen_89 rfl ?_
            refine v_iload C 4 dX6_owen_91 rfl ?_
            refine v_callV2v C 0 rfl rfl rfl (fun l9 r9 h9 => k_X6_owenOf (l := l9) hq hNK  h9) gX6_owen_X6_owenOf rfl nI_X6_owenOf ⟨rfl, rfl, Nat.le_of_ble_eq_true rfl, Nat.le_of_ble_eq_true rfl⟩ dX6_owen_93 (Nat.le_of_ble_eq_true rfl) (fun r19 => ?_)
            refine v_callV2v C 0 rfl rfl rfl (fun l9 r9 h9 => k_X6_product (l := l9) hq hNK  h9) gX6_owen_X6_product rfl nI_X6_product ⟨rfl, rfl, Nat.le_of_ble_eq_true rfl, Nat.le_of_ble_eq_true rfl⟩ dX6_owen_96 (Nat.le_of_ble_eq_true rfl) (fun r20 => ?_)
            refine v_callV2v C 0 rfl rfl rfl (fun l9 r9 h9 => k_X6_plus (l := l9) hq hNK  h9) gX6_owen_X6_plus rfl nI_X6_plus ⟨rfl, rfl, Nat.le_of_ble_eq_true rfl, Nat.le_of_ble_eq_true rfl⟩ dX6_owen_99 (Nat.le_of_ble_eq_true rfl) (fun r21 => ?_)
            refine v_lstore C (lv' := [(5, .long r21.1), (0, .ref (q 0)), (1, .int a1), (2, .int a2), (3, .int a3), (4, .int r4), (7, .int v9)]) dX6_owen_102 (by decide) rfl ?_
            exact v_sub [1, 2, 3, 4, 5, 0, 6] rfl (hk13 r21.1 r21.2)

set_option maxRecDepth 100000 in
set_option maxHeartbeats 4000000 in
theorem k_X6_owen {l : Launch} {a1 : Int32} {a2 : Int32} {a3 : Int32}  {res : Int64 × Bool} (hq : (mA q).Nodup) (hNK : NOK N)  (hf : f_X6_owen isB g fa a1 a2 a3 = some res) : kMet l yX6_owen wsX6_owen { frames := 4, cells := 0, slots := 0, locals := 93 } D vwCl (mT cs) N (mA q) [.ref (q 0), .int a1, .int a2, .int a3] (mW q cs isK isB fed at_ ltr ab ps g kp nx fa tp rs rv ct it) (some (.long res.1)) (mW q cs isK res.2 fed at_ ltr ab ps g kp nx fa tp rs rv ct it) := by
  have iX6 : ∀ w ∈ wsX60, w ∈ wsX6_owen := fun _ h => List.mem_cons_of_mem _ (List.mem_append_right _ h)
  refine kMet.of (cc := cX6_owen) (nL := 8) (ret := (some .long)) (own := RX6) (lv := [(0, .ref (q 0)), (1, .int a1), (2, .int a2), (3, .int a3)]) (by decide +kernel) rfl rfl hNK hq (Nat.le_of_ble_eq_true rfl) rfl (fun X C => ?_)
  refine VF.of hf ?_
  unfold f_X6_owen
  refine v_iload_n C 1 dX6_owen_0 rfl ?_
  refine v_callSP1v C (fun l9 r9 h9 => k_X6_isGame (l := l9) h9) gX6_owen_X6_isGame rfl nI_X6_isGame ⟨rfl, rfl, Nat.le_of_ble_eq_true rfl, Nat.le_of_ble_eq_true rfl⟩ dX6_owen_1 (Nat.le_of_ble_eq_true rfl) (fun r1 => ?_)
  refine v_ifb_eq C (b := r1) dX6_owen_4 (tgt := 25) (by decide) ?_ ?_
  · refine v_ldc2 C (v := (-9223372036854775808)) (List.mem_of_getElem? (i := 1) rfl) dX6_owen_25 ?_
    exact v_lret (rvf := fun (res : Int64 × Bool) => (some (.long res.1))) (wf := fun (res : Int64 × Bool) => (mW q cs isK res.2 fed at_ ltr ab ps g kp nx fa tp rs rv ct it)) C dX6_owen_28 rfl rfl
  · refine v_aload_n C 0 dX6_owen_7 rfl ?_
    refine v_iload_n C 2 dX6_owen_8 rfl ?_
    refine v_callV1v C 0 rfl rfl rfl (fun l9 r9 h9 => k_X6_isPartner (l := l9) hq hNK  h9) gX6_owen_X6_isPartner rfl nI_X6_isPartner ⟨rfl, rfl, Nat.le_of_ble_eq_true rfl, Nat.le_of_ble_eq_true rfl⟩ dX6_owen_9 (Nat.le_of_ble_eq_true rfl) (fun r2 => ?_)
    refine v_ifb_eq C (b := r2) dX6_owen_12 (tgt := 25) (by decide) ?_ ?_
    · refine v_ldc2 C (v := (-9223372036854775808)) (List.mem_of_getElem? (i := 1) rfl) dX6_owen_25 ?_
      exact v_lret (rvf := fun (res : Int64 × Bool) => (some (.long res.1))) (wf := fun (res : Int64 × Bool) => (mW q cs isK res.2 fed at_ ltr ab ps g kp nx fa tp rs rv ct it)) C dX6_owen_28 rfl rfl
    · refine v_iload_n C 3 dX6_owen_15 rfl ?_
      refine v_i2l C dX6_owen_16 ?_
      refine v_lconst C dX6_owen_17 (v := 0) (by decide) ?_
      refine v_lconst C dX6_owen_18 (v := 1) (by decide) ?_
      refine v_callSP3v C (fun l9 r9 h9 => k_X6_isIn (l := l9) h9) gX6_owen_X6_isIn rfl nI_X6_isIn ⟨rfl, rfl, Nat.le_of_ble_eq_true rfl, Nat.le_of_ble_eq_true rfl⟩ dX6_owen_19 (Nat.le_of_ble_eq_true rfl) (fun r3 => ?_)
      refine v_ifb_ne C (b := r3) dX6_owen_22 (tgt := 29) (by decide) ?_ ?_
      · refine v_aload_n C 0 dX6_owen_29 rfl ?_
        refine v_iload_n C 2 dX6_owen_30 rfl ?_
        refine v_callV1v C 0 rfl rfl rfl (fun l9 r9 h9 => k_X6_unionOf (l := l9) hq hNK  h9) gX6_owen_X6_unionOf rfl nI_X6_unionOf ⟨rfl, rfl, Nat.le_of_ble_eq_true rfl, Nat.le_of_ble_eq_true rfl⟩ dX6_owen_31 (Nat.le_of_ble_eq_true rfl) (fun r4 => ?_)
        refine v_istore C (lv' := [(4, .int r4), (0, .ref (q 0)), (1, .int a1), (2, .int a2), (3, .int a3)]) dX6_owen_34 (by decide) rfl ?_
        refine v_aload_n C 1 dX6_owen_36 rfl ?_
        refine v_iconst C dX6_owen_37 (v := 0) (by decide) ?_
        refine v_put_nm C (v := false) (fun z9 => Value.int (bI z9)) (ty := .boolean) (T := TX6) (n := 16) (C9 := RX6) (ty0 := tyX6) (fun isB5 => (mW q cs isK isB5 fed at_ ltr ab ps g kp nx fa tp rs rv ct it)) iX6 tyX6_ok nmX6 0 rfl rfl rfl 5 (by decide) (List.mem_of_getElem? (i := 2) rfl) rfl rfl rfl bI_nar bI_fit (Nat.le_of_ble_eq_true rfl) (fun _ => rfl) dX6_owen_38 (fun isB5 => ?_)
        refine v_lconst C dX6_owen_41 (v := 0) (by decide) ?_
        refine v_lstore C (lv' := [(5, .long 0), (4, .int r4), (0, .ref (q 0)), (1, .int a1), (2, .int a2), (3, .int a3)]) dX6_owen_42 (by decide) rfl ?_
        refine v_iconst C dX6_owen_44 (v := 0) (by decide) ?_
        refine v_istore C (lv' := [(7, .int 0), (5, .long 0), (4, .int r4), (0, .ref (q 0)), (1, .int a1), (2, .int a2), (3, .int a3)]) dX6_owen_45 (by decide) rfl ?_
        refine v_sub [3, 4, 5, 6, 2, 1, 0] rfl (lp_X6_owen_1 hq hNK C  _ (fun v22 isB23 => ?_) FU 0 0 isB5)
        refine v_aload_n C 0 dX6_owen_110 rfl ?_
        refine v_get C (T := TX6) (n := 16) (C9 := RX6) iX6 0 rfl rfl 5 (by decide) (List.mem_of_getElem? (i := 2) rfl) rfl rfl dX6_owen_111 ?_
        refine v_ifb_eq C (b := isB23) dX6_owen_114 (tgt := 123) (by decide) ?_ ?_
        · refine v_lload C 3 dX6_owen_123 rfl ?_
          refine v_aload_n C 0 dX6_owen_125 rfl ?_
          refine v_get C (T := TX6) (n := 16) (C9 := RX6) iX6 0 rfl rfl 3 (by decide) (List.mem_of_getElem? (i := 3) rfl) rfl rfl dX6_owen_126 ?_
          refine v_aload_n C 0 dX6_owen_129 rfl ?_
          refine v_callV0v C 0 rfl rfl rfl (fun l9 r9 h9 => k_X6_unions (l := l9) hq hNK  h9) gX6_owen_X6_unions rfl nI_X6_unions ⟨rfl, rfl, Nat.le_of_ble_eq_true rfl, Nat.le_of_ble_eq_true rfl⟩ dX6_owen_130 (Nat.le_of_ble_eq_true rfl) (fun r24 => ?_)
          refine v_lald C 4 1 rfl rfl dX6_owen_133 ?_
          refine v_aload_n C 0 dX6_owen_134 rfl ?_
          refine v_get C (T := TX6) (n := 16) (C9 := RX6) iX6 0 rfl rfl 3 (by decide) (List.mem_of_getElem? (i := 3) rfl) rfl rfl dX6_owen_135 ?_
          refine v_aload_n C 0 dX6_owen_138 rfl ?_
          refine v_iload C 2 dX6_owen_139 rfl ?_
          refine v_callV1v C 0 rfl rfl rfl (fun l9 r9 h9 => k_X6_members (l := l9) hq hNK  h9) gX6_owen_X6_members rfl nI_X6_members ⟨rfl, rfl, Nat.le_of_ble_eq_true rfl, Nat.le_of_ble_eq_true rfl⟩ dX6_owen_141 (Nat.le_of_ble_eq_true rfl) (fun r25 => ?_)
          refine v_callSP1v C (fun l9 r9 h9 => k_X6_size (l := l9) h9) gX6_owen_X6_size rfl nI_X6_size ⟨rfl, rfl, Nat.le_of_ble_eq_true rfl, Nat.le_of_ble_eq_true rfl⟩ dX6_owen_144 (Nat.le_of_ble_eq_true rfl) (fun r26 => ?_)
          refine v_lald C 4 1 rfl rfl dX6_owen_147 ?_
          refine v_lmul C dX6_owen_148 ?_
          refine v_iload_n C 1 dX6_owen_149 rfl ?_
          refine v_callSP3v C (fun l9 r9 h9 => k_X6_part (l := l9) h9) gX6_owen_X6_part rfl nI_X6_part ⟨rfl, rfl, Nat.le_of_ble_eq_true rfl, Nat.le_of_ble_eq_true rfl⟩ dX6_owen_150 (Nat.le_of_ble_eq_true rfl) (fun r27 => ?_)
          exact v_lret (rvf := fun (res : Int64 × Bool) => (some (.long res.1))) (wf := fun (res : Int64 × Bool) => (mW q cs isK res.2 fed at_ ltr ab ps g kp nx fa tp rs rv ct it)) C dX6_owen_153 rfl rfl
        · refine v_ldc2 C (v := (-9223372036854775808)) (List.mem_of_getElem? (i := 1) rfl) dX6_owen_117 ?_
          refine v_goto C dX6_owen_120 (tgt := 153) (by decide) ?_
          exact v_lret (rvf := fun (res : Int64 × Bool) => (some (.long res.1))) (wf := fun (res : Int64 × Bool) => (mW q cs isK res.2 fed at_ ltr ab ps g kp nx fa tp rs rv ct it)) C dX6_owen_153 rfl rfl
      · refine v_ldc2 C (v := (-9223372036854775808)) (List.mem_of_getElem? (i := 1) rfl) dX6_owen_25 ?_
        exact v_lret (rvf := fun (res : Int64 × Bool) => (some (.long res.1))) (wf := fun (res : Int64 × Bool) => (mW q cs isK res.2 fed at_ ltr ab ps g kp nx fa tp rs rv ct it)) C dX6_owen_28 rfl rfl

def B_X6_dividendOf_1 (nx : Nat → Int64) (a2 : Int32) (rec2 : Int64 → Int32 → Bool → Option (Int64 × Bool))  (v3 : Int64) (v4 : Int32) (isB5 : Bool) : Option (Int64 × Bool) :=
if (v4 : Int32) < a2 then (
jn2 (fun (v7 : Int64) (isB8 : Bool) =>
nm (v4 + 1) (fun (x9 : Int32) =>
rec2 v7 x9 isB8)) (fun k6 =>
if (v4 &&& (a2 ^^^ (-1)) : Int32) = 0 then (
ck (inb v4 512) (
(f_X6_minus isB5 v3 (nx v4.toNatClampNeg)).bind (fun (r10 : Int64 × Bool) =>
k6 r10.1 r10.2))) else (
k6 v3 isB5))) else (
some (v3, isB5))
def L_X6_dividendOf_1 (nx : Nat → Int64) (a2 : Int32)  : Nat → Int64 → Int32 → Bool → Option (Int64 × Bool)
  | 0, _, _, _ => none
  | m9 + 1, v3, v4, isB5 => B_X6_dividendOf_1 nx a2 (L_X6_dividendOf_1 nx a2 m9)  v3 v4 isB5

def f_X6_dividendOf (isB : Bool) (g : Nat → Int64) (nx : Nat → Int64) (a1 : Int32) (a2 : Int32) : Option (Int64 × Bool) :=
(f_X6_v g a1 a2).bind (fun (r1 : Int64) =>
L_X6_dividendOf_1 nx a2  FU r1 0 isB)

theorem nI_X6_dividendOf : NameIn yX6_dividendOf 2 := ⟨by decide +kernel, by decide +kernel, by decide +kernel⟩
set_option maxRecDepth 100000 in
set_option maxHeartbeats 4000000 in
theorem lp_X6_dividendOf_1 {X : CX} {res : Int64 × Bool} {a2 : Int32}   (hq : (mA q).Nodup) (hNK : NOK N) (C : Ok X cX6_dividendOf 6 (some .long) wsX6_dividendOf RX6 { frames := 1, cells := 0, slots := 0, locals := 26 } D vwCl (mT cs) (mA q) N (some (.long res.1)) (mW q cs isK res.2 fed at_ ltr ab ps g kp nx fa tp rs rv ct it))  : ∀ fuel : Nat, ∀ v3 : Int64, ∀ v4 : Int32, ∀ isB5 : Bool, VF X res (L_X6_dividendOf_1 nx a2 fuel v3 v4 isB5) (mW q cs isK isB5 fed at_ ltr ab ps g kp nx fa tp rs rv ct it) 10 [(0, .ref (q 0)), (2, .int a2), (3, .long v3), (5, .int v4)] [] := by
  have iX6 : ∀ w ∈ wsX60, w ∈ wsX6_dividendOf := fun _ h => List.mem_cons_of_mem _ (List.mem_append_right _ h)
  intro fuel
  induction fuel with
  | zero =>
    intro _ _ _
    exact v_none
  | succ fuel ih =>
    intro v3 v4 isB5
    show VF X res (B_X6_dividendOf_1 nx a2 (L_X6_dividendOf_1 nx a2 fuel)  v3 v4 isB5) _ _ _ _
    unfold B_X6_dividendOf_1
    refine v_iload C 3 dX6_dividendOf_10 rfl ?_
    refine v_iload_n C 1 dX6_dividendOf_12 rfl ?_
    refine v_icmp_ge C dX6_dividendOf_13 (tgt := 44) (by decide) ?_ ?_
    · refine v_lload_n C 2 dX6_dividendOf_44 rfl ?_
      exact v_lret (rvf := fun (res : Int64 × Bool) => (some (.long res.1))) (wf := fun (res : Int64 × Bool) => (mW q cs isK res.2 fed at_ ltr ab ps g kp nx fa tp rs rv ct it)) C dX6_dividendOf_45 rfl rfl
    · refine v_iload C 3 dX6_dividendOf_16 rfl ?_
      refine v_iload_n C 1 dX6_dividendOf_18 rfl ?_
      refine v_iconst C dX6_dividendOf_19 (v := (-1)) (by decide) ?_
      refine v_ixor C dX6_dividendOf_20 ?_
      refine v_iand C dX6_dividendOf_21 ?_
      refine v_jn2 (wj := (fun v7 isB8 => (mW q cs isK isB8 fed at_ ltr ab ps g kp nx fa tp rs rv ct it))) (pcj := 38) (lvj := (fun v7 isB8 => [(0, .ref (q 0)), (2, .int a2), (3, .long v7), (5, .int v4)])) (stj := (fun v7 isB8 => [])) (fun v7 isB8 => ?_) (fun k6 hk6 => ?_)
      · refine v_iinc_nm C (lvf := fun x9 => [(5, .int x9), (0, .ref (q 0)), (2, .int a2), (3, .long v7)]) 3 dX6_dividendOf_38 rfl rfl (by decide) (fun _ => rfl) (fun x9 => ?_)
        refine v_goto C dX6_dividendOf_41 (tgt := 10) (by decide) ?_
        exact v_sub [1, 2, 3, 0] rfl (ih v7 x9 isB8)
      · refine v_if_ne C dX6_dividendOf_22 (tgt := 38) (by decide) ?_ ?_
        · exact v_sub [0, 1, 2, 3] rfl (hk6 v3 isB5)
        · refine v_aload_n C 0 dX6_dividendOf_25 rfl ?_
          refine v_lload_n C 2 dX6_dividendOf_26 rfl ?_
          refine v_aload_n C 0 dX6_dividendOf_27 rfl ?_
          refine v_get C (T := TX6) (n := 16) (C9 := RX6) iX6 0 rfl rfl 2 (by decide) (List.mem_of_getElem? (i := 1) rfl) rfl rfl dX6_dividendOf_28 ?_
          refine v_iload C 3 dX6_dividendOf_31 rfl ?_
          refine v_lald C 3 1 rfl rfl dX6_dividendOf_33 ?_
          refine v_callV2v C 0 rfl rfl rfl (fun l9 r9 h9 => k_X6_minus (l := l9) hq hNK  h9) gX6_dividendOf_X6_minus rfl nI_X6_minus ⟨rfl, rfl, Nat.le_of_ble_eq_true rfl, Nat.le_of_ble_eq_true rfl⟩ dX6_dividendOf_34 (Nat.le_of_ble_eq_true rfl) (fun r10 => ?_)
          refine v_lstore_n C (lv' := [(3, .long r10.1), (0, .ref (q 0)), (2, .int a2), (5, .int v4)]) dX6_dividendOf_37 rfl (by decide) rfl ?_
          exact v_sub [1, 2, 0, 3] rfl (hk6 r10.1 r10.2)

set_option maxRecDepth 100000 in
set_option maxHeartbeats 4000000 in
theorem k_X6_dividendOf {l : Launch} {a1 : Int32} {a2 : Int32}  {res : Int64 × Bool} (hq : (mA q).Nodup) (hNK : NOK N)  (hf : f_X6_dividendOf isB g nx a1 a2 = some res) : kMet l yX6_dividendOf wsX6_dividendOf { frames := 1, cells := 0, slots := 0, locals := 26 } D vwCl (mT cs) N (mA q) [.ref (q 0), .int a1, .int a2] (mW q cs isK isB fed at_ ltr ab ps g kp nx fa tp rs rv ct it) (some (.long res.1)) (mW q cs isK res.2 fed at_ ltr ab ps g kp nx fa tp rs rv ct it) := by
  refine kMet.of (cc := cX6_dividendOf) (nL := 6) (ret := (some .long)) (own := RX6) (lv := [(0, .ref (q 0)), (1, .int a1), (2, .int a2)]) (by decide +kernel) rfl rfl hNK hq (Nat.le_of_ble_eq_true rfl) rfl (fun X C => ?_)
  refine VF.of hf ?_
  unfold f_X6_dividendOf
  refine v_aload_n C 0 dX6_dividendOf_0 rfl ?_
  refine v_iload_n C 1 dX6_dividendOf_1 rfl ?_
  refine v_iload_n C 2 dX6_dividendOf_2 rfl ?_
  refine v_callV2v C 0 rfl rfl rfl (fun l9 r9 h9 => k_X6_v (l := l9) hq hNK  h9) gX6_dividendOf_X6_v rfl nI_X6_v ⟨rfl, rfl, Nat.le_of_ble_eq_true rfl, Nat.le_of_ble_eq_true rfl⟩ dX6_dividendOf_3 (Nat.le_of_ble_eq_true rfl) (fun r1 => ?_)
  refine v_lstore_n C (lv' := [(3, .long r1), (0, .ref (q 0)), (1, .int a1), (2, .int a2)]) dX6_dividendOf_6 rfl (by decide) rfl ?_
  refine v_iconst C dX6_dividendOf_7 (v := 0) (by decide) ?_
  refine v_istore C (lv' := [(5, .int 0), (3, .long r1), (0, .ref (q 0)), (1, .int a1), (2, .int a2)]) dX6_dividendOf_8 (by decide) rfl ?_
  refine v_sub [2, 4, 1, 0] rfl (lp_X6_dividendOf_1 hq hNK C   FU r1 0 isB)

def B_X6_dividend_1 (g : Nat → Int64) (a1 : Int32) (a2 : Int32) (rec4 : Int32 → Bool → (Nat → Int64) → Option (Int64 × Bool × (Nat → Int64))) (kx5 : Bool → (Nat → Int64) → Option (Int64 × Bool × (Nat → Int64))) (v6 : Int32) (isB7 : Bool) (nx8 : Nat → Int64) : Option (Int64 × Bool × (Nat → Int64)) :=
if (a2 : Int32) < v6 then (
kx5 isB7 nx8) else (
jn2 (fun (isB10 : Bool) (nx11 : Nat → Int64) =>
nm (v6 + 1) (fun (x12 : Int32) =>
rec4 x12 isB10 nx11)) (fun k9 =>
if (v6 &&& (a2 ^^^ (-1)) : Int32) = 0 then (
(f_X6_dividendOf isB7 g nx8 a1 v6).bind (fun (r13 : Int64 × Bool) =>
ck (inb v6 512) (
nm (vp_updL nx8 v6.toNatClampNeg r13.1) (fun (nx14 : Nat → Int64) =>
k9 r13.2 nx14)))) else (
k9 isB7 nx8)))
def L_X6_dividend_1 (g : Nat → Int64) (a1 : Int32) (a2 : Int32) (kx5 : Bool → (Nat → Int64) → Option (Int64 × Bool × (Nat → Int64))) : Nat → Int32 → Bool → (Nat → Int64) → Option (Int64 × Bool × (Nat → Int64))
  | 0, _, _, _ => none
  | m9 + 1, v6, isB7, nx8 => B_X6_dividend_1 g a1 a2 (L_X6_dividend_1 g a1 a2 kx5 m9) kx5 v6 isB7 nx8

def f_X6_dividend (isB : Bool) (g : Nat → Int64) (nx : Nat → Int64) (a1 : Int32) (a2 : Int32) : Option (Int64 × Bool × (Nat → Int64)) :=
(f_X6_isGame a1).bind (fun (r1 : Bool) =>
if r1 = true then (
(f_X6_isSet g a2).bind (fun (r2 : Bool) =>
if r2 = true then (
nm false (fun (isB3 : Bool) =>
L_X6_dividend_1 g a1 a2 (fun (isB15 : Bool) (nx16 : Nat → Int64) =>
if isB15 = true then (
some ((-9223372036854775808), isB15, nx16)) else (
ck (inb a2 512) (
some (nx16 a2.toNatClampNeg, isB15, nx16)))) FU 0 isB3 nx)) else (
some ((-9223372036854775808), isB, nx)))) else (
some ((-9223372036854775808), isB, nx)))

theorem nI_X6_dividend : NameIn yX6_dividend 2 := ⟨by decide +kernel, by decide +kernel, by decide +kernel⟩
set_option maxRecDepth 100000 in
set_option maxHeartbeats 4000000 in
theorem lp_X6_dividend_1 {X : CX} {res : Int64 × Bool × (Nat → Int64)} {a1 : Int32} {a2 : Int32}   (hq : (mA q).Nodup) (hNK : NOK N) (C : Ok X cX6_dividend 4 (some .long) wsX6_dividend RX6 { frames := 3, cells := 0, slots := 0, locals := 61 } D vwCl (mT cs) (mA q) N (some (.long res.1)) (mW q cs isK res.2.1 fed at_ ltr ab ps g kp res.2.2 fa tp rs rv ct it))  (kx5 : Bool → (Nat → Int64) → Option (Int64 × Bool × (Nat → Int64))) (Jkx5 : ∀ isBZz : Bool, ∀ nxZz : Nat → Int64, VF X res (kx5 isBZz nxZz) (mW q cs isK isBZz fed at_ ltr ab ps g kp nxZz fa tp rs rv ct it) 57 [(0, .ref (q 0)), (2, .int a2)] []) : ∀ fuel : Nat, ∀ v6 : Int32, ∀ isB7 : Bool, ∀ nx8 : Nat → Int64, VF X res (L_X6_dividend_1 g a1 a2 kx5 fuel v6 isB7 nx8) (mW q cs isK isB7 fed at_ ltr ab ps g kp nx8 fa tp rs rv ct it) 26 [(0, .ref (q 0)), (1, .int a1), (2, .int a2), (3, .int v6)] [] := by
  have iX6 : ∀ w ∈ wsX60, w ∈ wsX6_dividend := fun _ h => List.mem_cons_of_mem _ (List.mem_append_right _ h)
  intro fuel
  induction fuel with
  | zero =>
    intro _ _ _
    exact v_none
  | succ fuel ih =>
    intro v6 isB7 nx8
    show VF X res (B_X6_dividend_1 g a1 a2 (L_X6_dividend_1 g a1 a2 kx5 fuel) kx5 v6 isB7 nx8) _ _ _ _
    unfold B_X6_dividend_1
    refine v_iload_n C 3 dX6_dividend_26 rfl ?_
    refine v_iload_n C 2 dX6_dividend_27 rfl ?_
    refine v_icmp_gt C dX6_dividend_28 (tgt := 57) (by decide) ?_ ?_
    · exact v_sub [0, 2] rfl (Jkx5 isB7 nx8)
    · refine v_iload_n C 3 dX6_dividend_31 rfl ?_
      refine v_iload_n C 2 dX6_dividend_32 rfl ?_
      refine v_iconst C dX6_dividend_33 (v := (-1)) (by decide) ?_
      refine v_ixor C dX6_dividend_34 ?_
      refine v_iand C dX6_dividend_35 ?_
      refine v_jn2 (wj := (fun isB10 nx11 => (mW q cs isK isB10 fed at_ ltr ab ps g kp nx11 fa tp rs rv ct it))) (pcj := 51) (lvj := (fun isB10 nx11 => [(0, .ref (q 0)), (1, .int a1), (2, .int a2), (3, .int v6)])) (stj := (fun isB10 nx11 => [])) (fun isB10 nx11 => ?_) (fun k9 hk9 => ?_)
      · refine v_iinc_nm C (lvf := fun x12 => [(3, .int x12), (0, .ref (q 0)), (1, .int a1), (2, .int a2)]) 3 dX6_dividend_51 rfl rfl (by decide) (fun _ => rfl) (fun x12 => ?_)
        refine v_goto C dX6_dividend_54 (tgt := 26) (by decide) ?_
        exact v_sub [1, 2, 3, 0] rfl (ih x12 isB10 nx11)
      · refine v_if_ne C dX6_dividend_36 (tgt := 51) (by decide) ?_ ?_
        · exact v_sub [0, 1, 2, 3] rfl (hk9 isB7 nx8)
        · refine v_aload_n C 0 dX6_dividend_39 rfl ?_
          refine v_get C (T := TX6) (n := 16) (C9 := RX6) iX6 0 rfl rfl 2 (by decide) (List.mem_of_getElem? (i := 3) rfl) rfl rfl dX6_dividend_40 ?_
          refine v_iload_n C 3 dX6_dividend_43 rfl ?_
          refine v_aload_n C 0 dX6_dividend_44 rfl ?_
          refine v_iload_n C 1 dX6_dividend_45 rfl ?_
          refine v_iload_n C 3 dX6_dividend_46 rfl ?_
          refine v_callV2v C 0 rfl rfl rfl (fun l9 r9 h9 => k_X6_dividendOf (l := l9) hq hNK  h9) gX6_dividend_X6_dividendOf rfl nI_X6_dividendOf ⟨rfl, rfl, Nat.le_of_ble_eq_true rfl, Nat.le_of_ble_eq_true rfl⟩ dX6_dividend_47 (Nat.le_of_ble_eq_true rfl) (fun r13 => ?_)
          refine v_last_nm C (fun nx14 => (mW q cs isK r13.2 fed at_ ltr ab ps g kp nx14 fa tp rs rv ct it)) 3 1 rfl rfl rfl (fun _ => rfl) dX6_dividend_50 (fun nx14 => ?_)
          exact v_sub [0, 1, 2, 3] rfl (hk9 r13.2 nx14)

set_option maxRecDepth 100000 in
set_option maxHeartbeats 4000000 in
theorem k_X6_dividend {l : Launch} {a1 : Int32} {a2 : Int32}  {res : Int64 × Bool × (Nat → Int64)} (hq : (mA q).Nodup) (hNK : NOK N)  (hf : f_X6_dividend isB g nx a1 a2 = some res) : kMet l yX6_dividend wsX6_dividend { frames := 3, cells := 0, slots := 0, locals := 61 } D vwCl (mT cs) N (mA q) [.ref (q 0), .int a1, .int a2] (mW q cs isK isB fed at_ ltr ab ps g kp nx fa tp rs rv ct it) (some (.long res.1)) (mW q cs isK res.2.1 fed at_ ltr ab ps g kp res.2.2 fa tp rs rv ct it) := by
  have iX6 : ∀ w ∈ wsX60, w ∈ wsX6_dividend := fun _ h => List.mem_cons_of_mem _ (List.mem_append_right _ h)
  refine kMet.of (cc := cX6_dividend) (nL := 4) (ret := (some .long)) (own := RX6) (lv := [(0, .ref (q 0)), (1, .int a1), (2, .int a2)]) (by decide +kernel) rfl rfl hNK hq (Nat.le_of_ble_eq_true rfl) rfl (fun X C => ?_)
  refine VF.of hf ?_
  unfold f_X6_dividend
  refine v_iload_n C 1 dX6_dividend_0 rfl ?_
  refine v_callSP1v C (fun l9 r9 h9 => k_X6_isGame (l := l9) h9) gX6_dividend_X6_isGame rfl nI_X6_isGame ⟨rfl, rfl, Nat.le_of_ble_eq_true rfl, Nat.le_of_ble_eq_true rfl⟩ dX6_dividend_1 (Nat.le_of_ble_eq_true rfl) (fun r1 => ?_)
  refine v_ifb_eq C (b := r1) dX6_dividend_4 (tgt := 15) (by decide) ?_ ?_
  · refine v_ldc2 C (v := (-9223372036854775808)) (List.mem_of_getElem? (i := 1) rfl) dX6_dividend_15 ?_
    exact v_lret (rvf := fun (res : Int64 × Bool × (Nat → Int64)) => (some (.long res.1))) (wf := fun (res : Int64 × Bool × (Nat → Int64)) => (mW q cs isK res.2.1 fed at_ ltr ab ps g kp res.2.2 fa tp rs rv ct it)) C dX6_dividend_18 rfl rfl
  · refine v_aload_n C 0 dX6_dividend_7 rfl ?_
    refine v_iload_n C 2 dX6_dividend_8 rfl ?_
    refine v_callV1v C 0 rfl rfl rfl (fun l9 r9 h9 => k_X6_isSet (l := l9) hq hNK  h9) gX6_dividend_X6_isSet rfl nI_X6_isSet ⟨rfl, rfl, Nat.le_of_ble_eq_true rfl, Nat.le_of_ble_eq_true rfl⟩ dX6_dividend_9 (Nat.le_of_ble_eq_true rfl) (fun r2 => ?_)
    refine v_ifb_ne C (b := r2) dX6_dividend_12 (tgt := 19) (by decide) ?_ ?_
    · refine v_aload_n C 0 dX6_dividend_19 rfl ?_
      refine v_iconst C dX6_dividend_20 (v := 0) (by decide) ?_
      refine v_put_nm C (v := false) (fun z9 => Value.int (bI z9)) (ty := .boolean) (T := TX6) (n := 16) (C9 := RX6) (ty0 := tyX6) (fun isB3 => (mW q cs isK isB3 fed at_ ltr ab ps g kp nx fa tp rs rv ct it)) iX6 tyX6_ok nmX6 0 rfl rfl rfl 5 (by decide) (List.mem_of_getElem? (i := 2) rfl) rfl rfl rfl bI_nar bI_fit (Nat.le_of_ble_eq_true rfl) (fun _ => rfl) dX6_dividend_21 (fun isB3 => ?_)
      refine v_iconst C dX6_dividend_24 (v := 0) (by decide) ?_
      refine v_istore_n C (lv' := [(3, .int 0), (0, .ref (q 0)), (1, .int a1), (2, .int a2)]) dX6_dividend_25 rfl (by decide) rfl ?_
      refine v_sub [1, 2, 3, 0] rfl (lp_X6_dividend_1 hq hNK C  _ (fun isB15 nx16 => ?_) FU 0 isB3 nx)
      refine v_aload_n C 0 dX6_dividend_57 rfl ?_
      refine v_get C (T := TX6) (n := 16) (C9 := RX6) iX6 0 rfl rfl 5 (by decide) (List.mem_of_getElem? (i := 2) rfl) rfl rfl dX6_dividend_58 ?_
      refine v_ifb_eq C (b := isB15) dX6_dividend_61 (tgt := 70) (by decide) ?_ ?_
      · refine v_aload_n C 0 dX6_dividend_70 rfl ?_
        refine v_get C (T := TX6) (n := 16) (C9 := RX6) iX6 0 rfl rfl 2 (by decide) (List.mem_of_getElem? (i := 3) rfl) rfl rfl dX6_dividend_71 ?_
        refine v_iload_n C 1 dX6_dividend_74 rfl ?_
        refine v_lald C 3 1 rfl rfl dX6_dividend_75 ?_
        exact v_lret (rvf := fun (res : Int64 × Bool × (Nat → Int64)) => (some (.long res.1))) (wf := fun (res : Int64 × Bool × (Nat → Int64)) => (mW q cs isK res.2.1 fed at_ ltr ab ps g kp res.2.2 fa tp rs rv ct it)) C dX6_dividend_76 rfl rfl
      · refine v_ldc2 C (v := (-9223372036854775808)) (List.mem_of_getElem? (i := 1) rfl) dX6_dividend_64 ?_
        refine v_goto C dX6_dividend_67 (tgt := 76) (by decide) ?_
        exact v_lret (rvf := fun (res : Int64 × Bool × (Nat → Int64)) => (some (.long res.1))) (wf := fun (res : Int64 × Bool × (Nat → Int64)) => (mW q cs isK res.2.1 fed at_ ltr ab ps g kp res.2.2 fa tp rs rv ct it)) C dX6_dividend_76 rfl rfl
    · refine v_ldc2 C (v := (-9223372036854775808)) (List.mem_of_getElem? (i := 1) rfl) dX6_dividend_15 ?_
      exact v_lret (rvf := fun (res : Int64 × Bool × (Nat → Int64)) => (some (.long res.1))) (wf := fun (res : Int64 × Bool × (Nat → Int64)) => (mW q cs isK res.2.1 fed at_ ltr ab ps g kp res.2.2 fa tp rs rv ct it)) C dX6_dividend_18 rfl rfl

def f_X6_isSwing (g : Nat → Int64) (a1 : Int32) (a2 : Int32) : Option (Bool) :=
(f_X6_has a2 a1).bind (fun (r1 : Bool) =>
jn0 (some false) (fun k2 =>
if r1 = true then (
k2) else (
(f_X6_wins g a2).bind (fun (r3 : Bool) =>
if r3 = true then (
k2) else (
(f_X6_wins g (a2 ||| (1 <<< (a1 &&& 31)))).bind (fun (r4 : Bool) =>
if r4 = true then (
some true) else (
k2)))))))

theorem nI_X6_isSwing : NameIn yX6_isSwing 2 := ⟨by decide +kernel, by decide +kernel, by decide +kernel⟩
set_option maxRecDepth 100000 in
set_option maxHeartbeats 4000000 in
theorem k_X6_isSwing {l : Launch} {a1 : Int32} {a2 : Int32}  {res : Bool} (hq : (mA q).Nodup) (hNK : NOK N)  (hf : f_X6_isSwing g a1 a2 = some res) : kMet l yX6_isSwing wsX6_isSwing { frames := 3, cells := 0, slots := 0, locals := 66 } D vwCl (mT cs) N (mA q) [.ref (q 0), .int a1, .int a2] (mW q cs isK isB fed at_ ltr ab ps g kp nx fa tp rs rv ct it) (some (.int (bI res))) (mW q cs isK isB fed at_ ltr ab ps g kp nx fa tp rs rv ct it) := by
  refine kMet.of (cc := cX6_isSwing) (nL := 3) (ret := (some .boolean)) (own := RX6) (lv := [(0, .ref (q 0)), (1, .int a1), (2, .int a2)]) (by decide +kernel) rfl rfl hNK hq (Nat.le_of_ble_eq_true rfl) rfl (fun X C => ?_)
  refine VF.of hf ?_
  unfold f_X6_isSwing
  refine v_iload_n C 2 dX6_isSwing_0 rfl ?_
  refine v_iload_n C 1 dX6_isSwing_1 rfl ?_
  refine v_callSP2v C (fun l9 r9 h9 => k_X6_has (l := l9) h9) gX6_isSwing_X6_has rfl nI_X6_has ⟨rfl, rfl, Nat.le_of_ble_eq_true rfl, Nat.le_of_ble_eq_true rfl⟩ dX6_isSwing_2 (Nat.le_of_ble_eq_true rfl) (fun r1 => ?_)
  refine v_jn0 (wj := ((mW q cs isK isB fed at_ ltr ab ps g kp nx fa tp rs rv ct it))) (pcj := 32) (lvj := ([])) (stj := ([])) ?_ (fun k2 hk2 => ?_)
  · refine v_iconst C dX6_isSwing_32 (v := 0) (by decide) ?_
    exact v_zret (rvf := fun (res : Bool) => (some (.int (bI res)))) (wf := fun (res : Bool) => (mW q cs isK isB fed at_ ltr ab ps g kp nx fa tp rs rv ct it)) C dX6_isSwing_33 rfl rfl
  · refine v_ifb_ne C (b := r1) dX6_isSwing_5 (tgt := 32) (by decide) ?_ ?_
    · exact v_sub [] rfl (hk2)
    · refine v_aload_n C 0 dX6_isSwing_8 rfl ?_
      refine v_iload_n C 2 dX6_isSwing_9 rfl ?_
      refine v_callV1v C 0 rfl rfl rfl (fun l9 r9 h9 => k_X6_wins (l := l9) hq hNK  h9) gX6_isSwing_X6_wins rfl nI_X6_wins ⟨rfl, rfl, Nat.le_of_ble_eq_true rfl, Nat.le_of_ble_eq_true rfl⟩ dX6_isSwing_10 (Nat.le_of_ble_eq_true rfl) (fun r3 => ?_)
      refine v_ifb_ne C (b := r3) dX6_isSwing_13 (tgt := 32) (by decide) ?_ ?_
      · exact v_sub [] rfl (hk2)
      · refine v_aload_n C 0 dX6_isSwing_16 rfl ?_
        refine v_iload_n C 2 dX6_isSwing_17 rfl ?_
        refine v_iconst C dX6_isSwing_18 (v := 1) (by decide) ?_
        refine v_iload_n C 1 dX6_isSwing_19 rfl ?_
        refine v_ishl C dX6_isSwing_20 ?_
        refine v_ior C dX6_isSwing_21 ?_
        refine v_callV1v C 0 rfl rfl rfl (fun l9 r9 h9 => k_X6_wins (l := l9) hq hNK  h9) gX6_isSwing_X6_wins rfl nI_X6_wins ⟨rfl, rfl, Nat.le_of_ble_eq_true rfl, Nat.le_of_ble_eq_true rfl⟩ dX6_isSwing_22 (Nat.le_of_ble_eq_true rfl) (fun r4 => ?_)
        refine v_ifb_eq C (b := r4) dX6_isSwing_25 (tgt := 32) (by decide) ?_ ?_
        · exact v_sub [] rfl (hk2)
        · refine v_iconst C dX6_isSwing_28 (v := 1) (by decide) ?_
          refine v_goto C dX6_isSwing_29 (tgt := 33) (by decide) ?_
          exact v_zret (rvf := fun (res : Bool) => (some (.int (bI res)))) (wf := fun (res : Bool) => (mW q cs isK isB fed at_ ltr ab ps g kp nx fa tp rs rv ct it)) C dX6_isSwing_33 rfl rfl

def B_X6_swings_1 (g : Nat → Int64) (a1 : Int32) (rec3 : Int32 → Int32 → Option (Int32))  (v4 : Int32) (v5 : Int32) : Option (Int32) :=
(f_X6_all g).bind (fun (r6 : Int32) =>
if (r6 : Int32) < v5 then (
some v4) else (
(f_X6_isSwing g a1 v5).bind (fun (r7 : Bool) =>
jn1 (fun (v9 : Int32) =>
nm (v4 + v9) (fun (x10 : Int32) =>
nm (v5 + 1) (fun (x11 : Int32) =>
rec3 x10 x11))) (fun k8 =>
if r7 = true then (
k8 1) else (
k8 0)))))
def L_X6_swings_1 (g : Nat → Int64) (a1 : Int32)  : Nat → Int32 → Int32 → Option (Int32)
  | 0, _, _ => none
  | m9 + 1, v4, v5 => B_X6_swings_1 g a1 (L_X6_swings_1 g a1 m9)  v4 v5

def f_X6_swings (g : Nat → Int64) (a1 : Int32) (a2 : Int32) : Option (Int32) :=
(f_X6_isPartner g a1).bind (fun (r1 : Bool) =>
if r1 = true then (
(f_X6_isIn a2.toInt64 0 1).bind (fun (r2 : Bool) =>
if r2 = true then (
L_X6_swings_1 g a1  FU 0 0) else (
some (-1)))) else (
some (-1)))

theorem nI_X6_swings : NameIn yX6_swings 2 := ⟨by decide +kernel, by decide +kernel, by decide +kernel⟩
set_option maxRecDepth 100000 in
set_option maxHeartbeats 4000000 in
theorem lp_X6_swings_1 {X : CX} {res : Int32} {a1 : Int32}   (hq : (mA q).Nodup) (hNK : NOK N) (C : Ok X cX6_swings 5 (some .int) wsX6_swings RX6 { frames := 4, cells := 0, slots := 0, locals := 88 } D vwCl (mT cs) (mA q) N (some (.int res)) (mW q cs isK isB fed at_ ltr ab ps g kp nx fa tp rs rv ct it))  : ∀ fuel : Nat, ∀ v4 : Int32, ∀ v5 : Int32, VF X res (L_X6_swings_1 g a1 fuel v4 v5) (mW q cs isK isB fed at_ ltr ab ps g kp nx fa tp rs rv ct it) 25 [(0, .ref (q 0)), (1, .int a1), (3, .int v4), (4, .int v5)] [] := by
  intro fuel
  induction fuel with
  | zero =>
    intro _ _
    exact v_none
  | succ fuel ih =>
    intro v4 v5
    show VF X res (B_X6_swings_1 g a1 (L_X6_swings_1 g a1 fuel)  v4 v5) _ _ _ _
    unfold B_X6_swings_1
    refine v_iload C 3 dX6_swings_25 rfl ?_
    refine v_aload_n C 0 dX6_swings_27 rfl ?_
    refine v_callV0v C 0 rfl rfl rfl (fun l9 r9 h9 => k_X6_all (l := l9) hq hNK  h9) gX6_swings_X6_all rfl nI_X6_all ⟨rfl, rfl, Nat.le_of_ble_eq_true rfl, Nat.le_of_ble_eq_true rfl⟩ dX6_swings_28 (Nat.le_of_ble_eq_true rfl) (fun r6 => ?_)
    refine v_icmp_gt C dX6_swings_31 (tgt := 58) (by decide) ?_ ?_
    · refine v_iload_n C 2 dX6_swings_58 rfl ?_
      exact v_iret (rvf := fun (res : Int32) => (some (.int res))) (wf := fun (res : Int32) => (mW q cs isK isB fed at_ ltr ab ps g kp nx fa tp rs rv ct it)) C dX6_swings_59 rfl rfl
    · refine v_iload_n C 2 dX6_swings_34 rfl ?_
      refine v_aload_n C 0 dX6_swings_35 rfl ?_
      refine v_iload_n C 1 dX6_swings_36 rfl ?_
      refine v_iload C 3 dX6_swings_37 rfl ?_
      refine v_callV2v C 0 rfl rfl rfl (fun l9 r9 h9 => k_X6_isSwing (l := l9) hq hNK  h9) gX6_swings_X6_isSwing rfl nI_X6_isSwing ⟨rfl, rfl, Nat.le_of_ble_eq_true rfl, Nat.le_of_ble_eq_true rfl⟩ dX6_swings_39 (Nat.le_of_ble_eq_true rfl) (fun r7 => ?_)
      refine v_jn1 (wj := (fun v9 => (mW q cs isK isB fed at_ ltr ab ps g kp nx fa tp rs rv ct it))) (pcj := 50) (lvj := (fun v9 => [(0, .ref (q 0)), (1, .int a1), (4, .int v5)])) (stj := (fun v9 => [.int v9, .int v4])) (fun v9 => ?_) (fun k8 hk8 => ?_)
      · refine v_iadd C dX6_swings_50 ?_
        refine v_istore_n_nm C (lvf := fun x10 => [(3, .int x10), (0, .ref (q 0)), (1, .int a1), (4, .int v5)]) dX6_swings_51 rfl (by decide) (fun _ => rfl) (fun x10 => ?_)
        refine v_iinc_nm C (lvf := fun x11 => [(4, .int x11), (3, .int x10), (0, .ref (q 0)), (1, .int a1)]) 3 dX6_swings_52 rfl rfl (by decide) (fun _ => rfl) (fun x11 => ?_)
        refine v_goto C dX6_swings_55 (tgt := 25) (by decide) ?_
        exact v_sub [2, 3, 1, 0] rfl (ih x10 x11)
      · refine v_ifb_eq C (b := r7) dX6_swings_42 (tgt := 49) (by decide) ?_ ?_
        · refine v_iconst C dX6_swings_49 (v := 0) (by decide) ?_
          exact v_sub [0, 1, 3] rfl (hk8 0)
        · refine v_iconst C dX6_swings_45 (v := 1) (by decide) ?_
          refine v_goto C dX6_swings_46 (tgt := 50) (by decide) ?_
          exact v_sub [0, 1, 3] rfl (hk8 1)

set_option maxRecDepth 100000 in
set_option maxHeartbeats 4000000 in
theorem k_X6_swings {l : Launch} {a1 : Int32} {a2 : Int32}  {res : Int32} (hq : (mA q).Nodup) (hNK : NOK N)  (hf : f_X6_swings g a1 a2 = some res) : kMet l yX6_swings wsX6_swings { frames := 4, cells := 0, slots := 0, locals := 88 } D vwCl (mT cs) N (mA q) [.ref (q 0), .int a1, .int a2] (mW q cs isK isB fed at_ ltr ab ps g kp nx fa tp rs rv ct it) (some (.int res)) (mW q cs isK isB fed at_ ltr ab ps g kp nx fa tp rs rv ct it) := by
  refine kMet.of (cc := cX6_swings) (nL := 5) (ret := (some .int)) (own := RX6) (lv := [(0, .ref (q 0)), (1, .int a1), (2, .int a2)]) (by decide +kernel) rfl rfl hNK hq (Nat.le_of_ble_eq_true rfl) rfl (fun X C => ?_)
  refine VF.of hf ?_
  unfold f_X6_swings
  refine v_aload_n C 0 dX6_swings_0 rfl ?_
  refine v_iload_n C 1 dX6_swings_1 rfl ?_
  refine v_callV1v C 0 rfl rfl rfl (fun l9 r9 h9 => k_X6_isPartner (l := l9) hq hNK  h9) gX6_swings_X6_isPartner rfl nI_X6_isPartner ⟨rfl, rfl, Nat.le_of_ble_eq_true rfl, Nat.le_of_ble_eq_true rfl⟩ dX6_swings_2 (Nat.le_of_ble_eq_true rfl) (fun r1 => ?_)
  refine v_ifb_eq C (b := r1) dX6_swings_5 (tgt := 18) (by decide) ?_ ?_
  · refine v_iconst C dX6_swings_18 (v := (-1)) (by decide) ?_
    exact v_iret (rvf := fun (res : Int32) => (some (.int res))) (wf := fun (res : Int32) => (mW q cs isK isB fed at_ ltr ab ps g kp nx fa tp rs rv ct it)) C dX6_swings_19 rfl rfl
  · refine v_iload_n C 2 dX6_swings_8 rfl ?_
    refine v_i2l C dX6_swings_9 ?_
    refine v_lconst C dX6_swings_10 (v := 0) (by decide) ?_
    refine v_lconst C dX6_swings_11 (v := 1) (by decide) ?_
    refine v_callSP3v C (fun l9 r9 h9 => k_X6_isIn (l := l9) h9) gX6_swings_X6_isIn rfl nI_X6_isIn ⟨rfl, rfl, Nat.le_of_ble_eq_true rfl, Nat.le_of_ble_eq_true rfl⟩ dX6_swings_12 (Nat.le_of_ble_eq_true rfl) (fun r2 => ?_)
    refine v_ifb_ne C (b := r2) dX6_swings_15 (tgt := 20) (by decide) ?_ ?_
    · refine v_iconst C dX6_swings_20 (v := 0) (by decide) ?_
      refine v_istore_n C (lv' := [(3, .int 0), (0, .ref (q 0)), (1, .int a1), (2, .int a2)]) dX6_swings_21 rfl (by decide) rfl ?_
      refine v_iconst C dX6_swings_22 (v := 0) (by decide) ?_
      refine v_istore C (lv' := [(4, .int 0), (3, .int 0), (0, .ref (q 0)), (1, .int a1), (2, .int a2)]) dX6_swings_23 (by decide) rfl ?_
      refine v_sub [2, 3, 1, 0] rfl (lp_X6_swings_1 hq hNK C   FU 0 0)
    · refine v_iconst C dX6_swings_18 (v := (-1)) (by decide) ?_
      exact v_iret (rvf := fun (res : Int32) => (some (.int res))) (wf := fun (res : Int32) => (mW q cs isK isB fed at_ ltr ab ps g kp nx fa tp rs rv ct it)) C dX6_swings_19 rfl rfl

def B_X6_pivots_1 (g : Nat → Int64) (fa : Nat → Int64) (a1 : Int32) (a2 : Int32) (rec3 : Int64 → Int32 → Option (Int64))  (v4 : Int64) (v5 : Int32) : Option (Int64) :=
(f_X6_all g).bind (fun (r6 : Int32) =>
if (r6 : Int32) < v5 then (
(f_X6_n g).bind (fun (r7 : Int32) =>
ck (inb r7 10) (
(f_X6_part v4 (fa r7.toNatClampNeg) a2).bind (fun (r8 : Int64) =>
some r8)))) else (
(f_X6_isSwing g a1 v5).bind (fun (r9 : Bool) =>
jn1 (fun (v11 : Int64) =>
nm (v4 + v11) (fun (x12 : Int64) =>
nm (v5 + 1) (fun (x13 : Int32) =>
rec3 x12 x13))) (fun k10 =>
if r9 = true then (
(f_X6_size v5).bind (fun (r14 : Int32) =>
ck (inb r14 10) (
(f_X6_n g).bind (fun (r15 : Int32) =>
(f_X6_size v5).bind (fun (r16 : Int32) =>
ck (inb ((r15 - r16) - 1) 10) (
k10 ((fa r14.toNatClampNeg) * (fa ((r15 - r16) - 1).toNatClampNeg)))))))) else (
k10 0)))))
def L_X6_pivots_1 (g : Nat → Int64) (fa : Nat → Int64) (a1 : Int32) (a2 : Int32)  : Nat → Int64 → Int32 → Option (Int64)
  | 0, _, _ => none
  | m9 + 1, v4, v5 => B_X6_pivots_1 g fa a1 a2 (L_X6_pivots_1 g fa a1 a2 m9)  v4 v5

def f_X6_pivots (g : Nat → Int64) (fa : Nat → Int64) (a1 : Int32) (a2 : Int32) : Option (Int64) :=
(f_X6_isPartner g a1).bind (fun (r1 : Bool) =>
if r1 = true then (
(f_X6_isIn a2.toInt64 0 1).bind (fun (r2 : Bool) =>
if r2 = true then (
L_X6_pivots_1 g fa a1 a2  FU 0 0) else (
some (-9223372036854775808)))) else (
some (-9223372036854775808)))

theorem nI_X6_pivots : NameIn yX6_pivots 2 := ⟨by decide +kernel, by decide +kernel, by decide +kernel⟩
set_option maxRecDepth 100000 in
set_option maxHeartbeats 4000000 in
theorem lp_X6_pivots_1 {X : CX} {res : Int64} {a1 : Int32} {a2 : Int32}   (hq : (mA q).Nodup) (hNK : NOK N) (C : Ok X cX6_pivots 6 (some .long) wsX6_pivots RX6 { frames := 4, cells := 0, slots := 0, locals := 88 } D vwCl (mT cs) (mA q) N (some (.long res)) (mW q cs isK isB fed at_ ltr ab ps g kp nx fa tp rs rv ct it))  : ∀ fuel : Nat, ∀ v4 : Int64, ∀ v5 : Int32, VF X res (L_X6_pivots_1 g fa a1 a2 fuel v4 v5) (mW q cs isK isB fed at_ ltr ab ps g kp nx fa tp rs rv ct it) 27 [(0, .ref (q 0)), (1, .int a1), (2, .int a2), (3, .long v4), (5, .int v5)] [] := by
  have iX6 : ∀ w ∈ wsX60, w ∈ wsX6_pivots := fun _ h => List.mem_cons_of_mem _ (List.mem_append_right _ h)
  intro fuel
  induction fuel with
  | zero =>
    intro _ _
    exact v_none
  | succ fuel ih =>
    intro v4 v5
    show VF X res (B_X6_pivots_1 g fa a1 a2 (L_X6_pivots_1 g fa a1 a2 fuel)  v4 v5) _ _ _ _
    unfold B_X6_pivots_1
    refine v_iload C 4 dX6_pivots_27 rfl ?_
    refine v_aload_n C 0 dX6_pivots_29 rfl ?_
    refine v_callV0v C 0 rfl rfl rfl (fun l9 r9 h9 => k_X6_all (l := l9) hq hNK  h9) gX6_pivots_X6_all rfl nI_X6_all ⟨rfl, rfl, Nat.le_of_ble_eq_true rfl, Nat.le_of_ble_eq_true rfl⟩ dX6_pivots_30 (Nat.le_of_ble_eq_true rfl) (fun r6 => ?_)
    refine v_icmp_gt C dX6_pivots_33 (tgt := 87) (by decide) ?_ ?_
    · refine v_lload_n C 3 dX6_pivots_87 rfl ?_
      refine v_aload_n C 0 dX6_pivots_88 rfl ?_
      refine v_get C (T := TX6) (n := 16) (C9 := RX6) iX6 0 rfl rfl 3 (by decide) (List.mem_of_getElem? (i := 2) rfl) rfl rfl dX6_pivots_89 ?_
      refine v_aload_n C 0 dX6_pivots_92 rfl ?_
      refine v_callV0v C 0 rfl rfl rfl (fun l9 r9 h9 => k_X6_n (l := l9) hq hNK  h9) gX6_pivots_X6_n rfl nI_X6_n ⟨rfl, rfl, Nat.le_of_ble_eq_true rfl, Nat.le_of_ble_eq_true rfl⟩ dX6_pivots_93 (Nat.le_of_ble_eq_true rfl) (fun r7 => ?_)
      refine v_lald C 4 1 rfl rfl dX6_pivots_96 ?_
      refine v_iload_n C 2 dX6_pivots_97 rfl ?_
      refine v_callSP3v C (fun l9 r9 h9 => k_X6_part (l := l9) h9) gX6_pivots_X6_part rfl nI_X6_part ⟨rfl, rfl, Nat.le_of_ble_eq_true rfl, Nat.le_of_ble_eq_true rfl⟩ dX6_pivots_98 (Nat.le_of_ble_eq_true rfl) (fun r8 => ?_)
      exact v_lret (rvf := fun (res : Int64) => (some (.long res))) (wf := fun (res : Int64) => (mW q cs isK isB fed at_ ltr ab ps g kp nx fa tp rs rv ct it)) C dX6_pivots_101 rfl rfl
    · refine v_lload_n C 3 dX6_pivots_36 rfl ?_
      refine v_aload_n C 0 dX6_pivots_37 rfl ?_
      refine v_iload_n C 1 dX6_pivots_38 rfl ?_
      refine v_iload C 4 dX6_pivots_39 rfl ?_
      refine v_callV2v C 0 rfl rfl rfl (fun l9 r9 h9 => k_X6_isSwing (l := l9) hq hNK  h9) gX6_pivots_X6_isSwing rfl nI_X6_isSwing ⟨rfl, rfl, Nat.le_of_ble_eq_true rfl, Nat.le_of_ble_eq_true rfl⟩ dX6_pivots_41 (Nat.le_of_ble_eq_true rfl) (fun r9 => ?_)
      refine v_jn1 (wj := (fun v11 => (mW q cs isK isB fed at_ ltr ab ps g kp nx fa tp rs rv ct it))) (pcj := 79) (lvj := (fun v11 => [(0, .ref (q 0)), (1, .int a1), (2, .int a2), (5, .int v5)])) (stj := (fun v11 => [.long v11, .long v4])) (fun v11 => ?_) (fun k10 hk10 => ?_)
      · refine v_ladd C dX6_pivots_79 ?_
        refine v_lstore_n_nm C (lvf := fun x12 => [(3, .long x12), (0, .ref (q 0)), (1, .int a1), (2, .int a2), (5, .int v5)]) dX6_pivots_80 rfl (by decide) (fun _ => rfl) (fun x12 => ?_)
        refine v_iinc_nm C (lvf := fun x13 => [(5, .int x13), (3, .long x12), (0, .ref (q 0)), (1, .int a1), (2, .int a2)]) 4 dX6_pivots_81 rfl rfl (by decide) (fun _ => rfl) (fun x13 => ?_)
        refine v_goto C dX6_pivots_84 (tgt := 27) (by decide) ?_
        exact v_sub [2, 3, 4, 1, 0] rfl (ih x12 x13)
      · refine v_ifb_eq C (b := r9) dX6_pivots_44 (tgt := 78) (by decide) ?_ ?_
        · refine v_lconst C dX6_pivots_78 (v := 0) (by decide) ?_
          exact v_sub [0, 1, 2, 4] rfl (hk10 0)
        · refine v_aload_n C 0 dX6_pivots_47 rfl ?_
          refine v_get C (T := TX6) (n := 16) (C9 := RX6) iX6 0 rfl rfl 3 (by decide) (List.mem_of_getElem? (i := 2) rfl) rfl rfl dX6_pivots_48 ?_
          refine v_iload C 4 dX6_pivots_51 rfl ?_
          refine v_callSP1v C (fun l9 r9 h9 => k_X6_size (l := l9) h9) gX6_pivots_X6_size rfl nI_X6_size ⟨rfl, rfl, Nat.le_of_ble_eq_true rfl, Nat.le_of_ble_eq_true rfl⟩ dX6_pivots_53 (Nat.le_of_ble_eq_true rfl) (fun r14 => ?_)
          refine v_lald C 4 1 rfl rfl dX6_pivots_56 ?_
          refine v_aload_n C 0 dX6_pivots_57 rfl ?_
          refine v_get C (T := TX6) (n := 16) (C9 := RX6) iX6 0 rfl rfl 3 (by decide) (List.mem_of_getElem? (i := 2) rfl) rfl rfl dX6_pivots_58 ?_
          refine v_aload_n C 0 dX6_pivots_61 rfl ?_
          refine v_callV0v C 0 rfl rfl rfl (fun l9 r9 h9 => k_X6_n (l := l9) hq hNK  h9) gX6_pivots_X6_n rfl nI_X6_n ⟨rfl, rfl, Nat.le_of_ble_eq_true rfl, Nat.le_of_ble_eq_true rfl⟩ dX6_pivots_62 (Nat.le_of_ble_eq_true rfl) (fun r15 => ?_)
          refine v_iload C 4 dX6_pivots_65 rfl ?_
          refine v_callSP1v C (fun l9 r9 h9 => k_X6_size (l := l9) h9) gX6_pivots_X6_size rfl nI_X6_size ⟨rfl, rfl, Nat.le_of_ble_eq_true rfl, Nat.le_of_ble_eq_true rfl⟩ dX6_pivots_67 (Nat.le_of_ble_eq_true rfl) (fun r16 => ?_)
          refine v_isub C dX6_pivots_70 ?_
          refine v_iconst C dX6_pivots_71 (v := 1) (by decide) ?_
          refine v_isub C dX6_pivots_72 ?_
          refine v_lald C 4 1 rfl rfl dX6_pivots_73 ?_
          refine v_lmul C dX6_pivots_74 ?_
          refine v_goto C dX6_pivots_75 (tgt := 79) (by decide) ?_
          exact v_sub [0, 1, 2, 4] rfl (hk10 ((fa r14.toNatClampNeg) * (fa ((r15 - r16) - 1).toNatClampNeg)))

set_option maxRecDepth 100000 in
set_option maxHeartbeats 4000000 in
theorem k_X6_pivots {l : Launch} {a1 : Int32} {a2 : Int32}  {res : Int64} (hq : (mA q).Nodup) (hNK : NOK N)  (hf : f_X6_pivots g fa a1 a2 = some res) : kMet l yX6_pivots wsX6_pivots { frames := 4, cells := 0, slots := 0, locals := 88 } D vwCl (mT cs) N (mA q) [.ref (q 0), .int a1, .int a2] (mW q cs isK isB fed at_ ltr ab ps g kp nx fa tp rs rv ct it) (some (.long res)) (mW q cs isK isB fed at_ ltr ab ps g kp nx fa tp rs rv ct it) := by
  refine kMet.of (cc := cX6_pivots) (nL := 6) (ret := (some .long)) (own := RX6) (lv := [(0, .ref (q 0)), (1, .int a1), (2, .int a2)]) (by decide +kernel) rfl rfl hNK hq (Nat.le_of_ble_eq_true rfl) rfl (fun X C => ?_)
  refine VF.of hf ?_
  unfold f_X6_pivots
  refine v_aload_n C 0 dX6_pivots_0 rfl ?_
  refine v_iload_n C 1 dX6_pivots_1 rfl ?_
  refine v_callV1v C 0 rfl rfl rfl (fun l9 r9 h9 => k_X6_isPartner (l := l9) hq hNK  h9) gX6_pivots_X6_isPartner rfl nI_X6_isPartner ⟨rfl, rfl, Nat.le_of_ble_eq_true rfl, Nat.le_of_ble_eq_true rfl⟩ dX6_pivots_2 (Nat.le_of_ble_eq_true rfl) (fun r1 => ?_)
  refine v_ifb_eq C (b := r1) dX6_pivots_5 (tgt := 18) (by decide) ?_ ?_
  · refine v_ldc2 C (v := (-9223372036854775808)) (List.mem_of_getElem? (i := 1) rfl) dX6_pivots_18 ?_
    exact v_lret (rvf := fun (res : Int64) => (some (.long res))) (wf := fun (res : Int64) => (mW q cs isK isB fed at_ ltr ab ps g kp nx fa tp rs rv ct it)) C dX6_pivots_21 rfl rfl
  · refine v_iload_n C 2 dX6_pivots_8 rfl ?_
    refine v_i2l C dX6_pivots_9 ?_
    refine v_lconst C dX6_pivots_10 (v := 0) (by decide) ?_
    refine v_lconst C dX6_pivots_11 (v := 1) (by decide) ?_
    refine v_callSP3v C (fun l9 r9 h9 => k_X6_isIn (l := l9) h9) gX6_pivots_X6_isIn rfl nI_X6_isIn ⟨rfl, rfl, Nat.le_of_ble_eq_true rfl, Nat.le_of_ble_eq_true rfl⟩ dX6_pivots_12 (Nat.le_of_ble_eq_true rfl) (fun r2 => ?_)
    refine v_ifb_ne C (b := r2) dX6_pivots_15 (tgt := 22) (by decide) ?_ ?_
    · refine v_lconst C dX6_pivots_22 (v := 0) (by decide) ?_
      refine v_lstore_n C (lv' := [(3, .long 0), (0, .ref (q 0)), (1, .int a1), (2, .int a2)]) dX6_pivots_23 rfl (by decide) rfl ?_
      refine v_iconst C dX6_pivots_24 (v := 0) (by decide) ?_
      refine v_istore C (lv' := [(5, .int 0), (3, .long 0), (0, .ref (q 0)), (1, .int a1), (2, .int a2)]) dX6_pivots_25 (by decide) rfl ?_
      refine v_sub [2, 3, 4, 1, 0] rfl (lp_X6_pivots_1 hq hNK C   FU 0 0)
    · refine v_ldc2 C (v := (-9223372036854775808)) (List.mem_of_getElem? (i := 1) rfl) dX6_pivots_18 ?_
      exact v_lret (rvf := fun (res : Int64) => (some (.long res))) (wf := fun (res : Int64) => (mW q cs isK isB fed at_ ltr ab ps g kp nx fa tp rs rv ct it)) C dX6_pivots_21 rfl rfl

end WK
