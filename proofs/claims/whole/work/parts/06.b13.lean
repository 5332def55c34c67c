section WK
variable {q : Nat → Nat} {cs : Nat → ClassId} {D : va_G} {tF : Nat} {n : Int32} {nd : Int32} {es : Int32} {kn : Int32} {knd : Int32} {kes : Int32} {img : Bool} {tl : Int32} {ta : Int32} {tn : Int64} {sl : Int32} {bey : Bool} {wt : Nat → Int32} {un : Nat → Int32} {ed : Nat → Int32} {kwt : Nat → Int32} {kun : Nat → Int32} {ked : Nat → Int32} {tb : Nat → Int32} {sb : Nat → Int32} {sz : Nat → Int32} {sbs : Nat → Int32} {G : Nat → Nat → Int64} {K : Nat → Nat → Int64} {P : Nat → Nat → Int64} {wk : Nat → Int64} {wh : Nat → Int64}
def B_X5_fillWholes_1 (n : Int32) (G : Nat → Nat → Int64) (a1 : Int32) (rec2 : Int32 → Bool → (Nat → Int64) → Option (Bool × Bool × (Nat → Int64))) (kx3 : Bool → (Nat → Int64) → Option (Bool × Bool × (Nat → Int64))) (v4 : Int32) (bey5 : Bool) (wh6 : Nat → Int64) : Option (Bool × Bool × (Nat → Int64)) :=
if (v4 : Int32) < n then (
ck (inb a1 4) (
(f_X5_shareAbove n bey5 (G a1.toNatClampNeg) v4).bind (fun (r8 : Int64 × Bool) =>
ck (inb v4 9) (
nm (vp_updL wh6 v4.toNatClampNeg r8.1) (fun (wh9 : Nat → Int64) =>
nm (v4 + 1) (fun (x10 : Int32) =>
rec2 x10 r8.2 wh9)))))) else (
kx3 bey5 wh6)
def L_X5_fillWholes_1 (n : Int32) (G : Nat → Nat → Int64) (a1 : Int32) (kx3 : Bool → (Nat → Int64) → Option (Bool × Bool × (Nat → Int64))) : Nat → Int32 → Bool → (Nat → Int64) → Option (Bool × Bool × (Nat → Int64))
  | 0, _, _, _ => none
  | m9 + 1, v4, bey5, wh6 => B_X5_fillWholes_1 n G a1 (L_X5_fillWholes_1 n G a1 kx3 m9) kx3 v4 bey5 wh6

def f_X5_fillWholes (n : Int32) (bey : Bool) (G : Nat → Nat → Int64) (wh : Nat → Int64) (a1 : Int32) : Option (Bool × Bool × (Nat → Int64)) :=
(f_X1_begin bey).bind (fun (r1 : Bool) =>
L_X5_fillWholes_1 n G a1 (fun (bey11 : Bool) (wh12 : Nat → Int64) =>
if bey11 = true then (
some (false, bey11, wh12)) else (
some (true, bey11, wh12))) FU 0 r1 wh)

theorem nI_X5_fillWholes : NameIn yX5_fillWholes 1 := ⟨by decide +kernel, by decide +kernel, by decide +kernel⟩
set_option maxRecDepth 100000 in
set_option maxHeartbeats 4000000 in
theorem lp_X5_fillWholes_1 {X : CX} {res : Bool × Bool × (Nat → Int64)} {a1 : Int32}   (hq : (xA q).Nodup) (C : Ok X cX5_fillWholes 3 (some .boolean) wsX5_fillWholes RX5 { frames := 3, cells := 0, slots := 0, locals := 76 } D vwCl (xT cs) (xA q) (xN tF) (some (.int (bI res.1))) (xW q cs n nd es kn knd kes img tl ta tn sl res.2.1 wt un ed kwt kun ked tb sb sz sbs G K P wk res.2.2))  (kx3 : Bool → (Nat → Int64) → Option (Bool × Bool × (Nat → Int64))) (Jkx3 : ∀ beyZz : Bool, ∀ whZz : Nat → Int64, VF X res (kx3 beyZz whZz) (xW q cs n nd es kn knd kes img tl ta tn sl beyZz wt un ed kwt kun ked tb sb sz sbs G K P wk whZz) 46 [(0, .ref (q 0))] []) : ∀ fuel : Nat, ∀ v4 : Int32, ∀ bey5 : Bool, ∀ wh6 : Nat → Int64, VF X res (L_X5_fillWholes_1 n G a1 kx3 fuel v4 bey5 wh6) (xW q cs n nd es kn knd kes img tl ta tn sl bey5 wt un ed kwt kun ked tb sb sz sbs G K P wk wh6) 9 [(0, .ref (q 0)), (1, .int a1), (2, .int v4)] [] := by
  have iX0 : ∀ w ∈ wsX00, w ∈ wsX5_fillWholes := fun _ h => List.mem_cons_of_mem _ (List.mem_append_left _ (List.mem_append_right _ h))
  have iX5 : ∀ w ∈ wsX50, w ∈ wsX5_fillWholes := fun _ h => List.mem_cons_of_mem _ (List.mem_append_left _ (List.mem_append_left _ (List.mem_append_right _ h)))
  intro fuel
  induction fuel with
  | zero =>
    intro _ _ _
    exact v_none
  | succ fuel ih =>
    intro v4 bey5 wh6
    show VF X res (B_X5_fillWholes_1 n G a1 (L_X5_fillWholes_1 n G a1 kx3 fuel) kx3 v4 bey5 wh6) _ _ _ _
    unfold B_X5_fillWholes_1
    refine v_iload_n C 2 dX5_fillWholes_9 rfl ?_
    refine v_aload_n C 0 dX5_fillWholes_10 rfl ?_
    refine v_get C (T := TX5) (n := 10) (C9 := RX5) iX5 0 rfl rfl 0 (by decide) (List.mem_of_getElem? (i := 2) rfl) rfl rfl dX5_fillWholes_11 ?_
    refine v_get C (T := TX0) (n := 7) (C9 := RX0) iX0 1 rfl rfl 0 (by decide) (List.mem_of_getElem? (i := 3) rfl) rfl rfl dX5_fillWholes_14 ?_
    refine v_icmp_ge C dX5_fillWholes_17 (tgt := 46) (by decide) ?_ ?_
    · exact v_sub [0] rfl (Jkx3 bey5 wh6)
    · refine v_aload_n C 0 dX5_fillWholes_20 rfl ?_
      refine v_get C (T := TX5) (n := 10) (C9 := RX5) iX5 0 rfl rfl 8 (by decide) (List.mem_of_getElem? (i := 4) rfl) rfl rfl dX5_fillWholes_21 ?_
      refine v_iload_n C 2 dX5_fillWholes_24 rfl ?_
      refine v_aload_n C 0 dX5_fillWholes_25 rfl ?_
      refine v_aload_n C 0 dX5_fillWholes_26 rfl ?_
      refine v_get C (T := TX5) (n := 10) (C9 := RX5) iX5 0 rfl rfl 0 (by decide) (List.mem_of_getElem? (i := 2) rfl) rfl rfl dX5_fillWholes_27 ?_
      refine v_get C (T := TX0) (n := 7) (C9 := RX0) iX0 1 rfl rfl 6 (by decide) (List.mem_of_getElem? (i := 5) rfl) rfl rfl dX5_fillWholes_30 ?_
      refine v_iload_n C 1 dX5_fillWholes_33 rfl ?_
      refine v_aalda C (ad := fun j9 => q (22 + j9)) 10 3 rfl rfl (fun _ h9 => if_pos h9) dX5_fillWholes_34 (fun hb7 => ?_)
      have hj7 := inb_lt hb7
      refine v_iload_n C 2 dX5_fillWholes_35 rfl ?_
      refine v_callV2v C 0 rfl rfl rfl (fun l9 r9 h9 => k_X5_shareAbove (l := l9) hq hj7 h9) gX5_fillWholes_X5_shareAbove rfl nI_X5_shareAbove ⟨rfl, rfl, Nat.le_of_ble_eq_true rfl, Nat.le_of_ble_eq_true rfl⟩ dX5_fillWholes_36 (Nat.le_of_ble_eq_true rfl) (fun r8 => ?_)
      refine v_last_nm C (fun wh9 => (xW q cs n nd es kn knd kes img tl ta tn sl r8.2 wt un ed kwt kun ked tb sb sz sbs G K P wk wh9)) 20 1 rfl rfl rfl (fun _ => rfl) dX5_fillWholes_39 (fun wh9 => ?_)
      refine v_iinc_nm C (lvf := fun x10 => [(2, .int x10), (0, .ref (q 0)), (1, .int a1)]) 2 dX5_fillWholes_40 rfl rfl (by decide) (fun _ => rfl) (fun x10 => ?_)
      refine v_goto C dX5_fillWholes_43 (tgt := 9) (by decide) ?_
      exact v_sub [1, 2, 0] rfl (ih x10 r8.2 wh9)

set_option maxRecDepth 100000 in
set_option maxHeartbeats 4000000 in
theorem k_X5_fillWholes {l : Launch} {a1 : Int32}  {res : Bool × Bool × (Nat → Int64)} (hq : (xA q).Nodup)  (hf : f_X5_fillWholes n bey G wh a1 = some res) : kMet l yX5_fillWholes wsX5_fillWholes { frames := 3, cells := 0, slots := 0, locals := 76 } D vwCl (xT cs) (xN tF) (xA q) [.ref (q 0), .int a1] (xW q cs n nd es kn knd kes img tl ta tn sl bey wt un ed kwt kun ked tb sb sz sbs G K P wk wh) (some (.int (bI res.1))) (xW q cs n nd es kn knd kes img tl ta tn sl res.2.1 wt un ed kwt kun ked tb sb sz sbs G K P wk res.2.2) := by
  have iX1 : ∀ w ∈ wsX10, w ∈ wsX5_fillWholes := fun _ h => List.mem_cons_of_mem _ (List.mem_append_right _ h)
  have iX5 : ∀ w ∈ wsX50, w ∈ wsX5_fillWholes := fun _ h => List.mem_cons_of_mem _ (List.mem_append_left _ (List.mem_append_left _ (List.mem_append_right _ h)))
  refine kMet.of (cc := cX5_fillWholes) (nL := 3) (ret := (some .boolean)) (own := RX5) (lv := [(0, .ref (q 0)), (1, .int a1)]) (by decide +kernel) rfl rfl xN_ok hq (Nat.le_of_ble_eq_true rfl) rfl (fun X C => ?_)
  refine VF.of hf ?_
  unfold f_X5_fillWholes
  refine v_aload_n C 0 dX5_fillWholes_0 rfl ?_
  refine v_get C (T := TX5) (n := 10) (C9 := RX5) iX5 0 rfl rfl 6 (by decide) (List.mem_of_getElem? (i := 1) rfl) rfl rfl dX5_fillWholes_1 ?_
  refine v_callV0n C 6 rfl rfl rfl (fun l9 r9 h9 => k_X1_begin (l := l9) hq  h9) gX5_fillWholes_X1_begin rfl nI_X1_begin ⟨rfl, rfl, Nat.le_of_ble_eq_true rfl, Nat.le_of_ble_eq_true rfl⟩ dX5_fillWholes_4 (Nat.le_of_ble_eq_true rfl) (fun r1 => ?_)
  refine v_iconst C dX5_fillWholes_7 (v := 0) (by decide) ?_
  refine v_istore_n C (lv' := [(2, .int 0), (0, .ref (q 0)), (1, .int a1)]) dX5_fillWholes_8 rfl (by decide) rfl ?_
  refine v_sub [1, 2, 0] rfl (lp_X5_fillWholes_1 hq C  _ (fun bey11 wh12 => ?_) FU 0 r1 wh)
  refine v_aload_n C 0 dX5_fillWholes_46 rfl ?_
  refine v_get C (T := TX5) (n := 10) (C9 := RX5) iX5 0 rfl rfl 6 (by decide) (List.mem_of_getElem? (i := 1) rfl) rfl rfl dX5_fillWholes_47 ?_
  refine v_get C (T := TX1) (n := 1) (C9 := RX1) iX1 6 rfl rfl 0 (by decide) (List.mem_of_getElem? (i := 6) rfl) rfl rfl dX5_fillWholes_50 ?_
  refine v_ifb_ne C (b := bey11) dX5_fillWholes_53 (tgt := 60) (by decide) ?_ ?_
  · refine v_iconst C dX5_fillWholes_60 (v := 0) (by decide) ?_
    exact v_zret (rvf := fun (res : Bool × Bool × (Nat → Int64)) => (some (.int (bI res.1)))) (wf := fun (res : Bool × Bool × (Nat → Int64)) => (xW q cs n nd es kn knd kes img tl ta tn sl res.2.1 wt un ed kwt kun ked tb sb sz sbs G K P wk res.2.2)) C dX5_fillWholes_61 rfl rfl
  · refine v_iconst C dX5_fillWholes_56 (v := 1) (by decide) ?_
    refine v_goto C dX5_fillWholes_57 (tgt := 61) (by decide) ?_
    exact v_zret (rvf := fun (res : Bool × Bool × (Nat → Int64)) => (some (.int (bI res.1)))) (wf := fun (res : Bool × Bool × (Nat → Int64)) => (xW q cs n nd es kn knd kes img tl ta tn sl res.2.1 wt un ed kwt kun ked tb sb sz sbs G K P wk res.2.2)) C dX5_fillWholes_61 rfl rfl

def B_X5_spell_1 (n : Int32) (r2 : Bool × Bool × (Nat → Int64)) (r4 : Int32) (rec5 : Int32 → Int32 → (Nat → Int32) → Option (Int32 × Int32 × Bool × (Nat → Int32) × (Nat → Int64)))  (v6 : Int32) (sl7 : Int32) (sb8 : Nat → Int32) : Option (Int32 × Int32 × Bool × (Nat → Int32) × (Nat → Int64)) :=
if (v6 : Int32) < n then (
jn2 (fun (sl10 : Int32) (sb11 : Nat → Int32) =>
ck (inb v6 9) (
(f_X5_lowest (r2.2.2 v6.toNatClampNeg) r4.toInt64 0).bind (fun (r12 : Int64) =>
ck (inb v6 9) (
(f_X5_lowest (r2.2.2 v6.toNatClampNeg) r4.toInt64 1).bind (fun (r13 : Int64) =>
(f_X2_appendFraction sl10 sb11 r12 r13).bind (fun (r14 : Int32 × (Nat → Int32)) =>
nm (v6 + 1) (fun (x15 : Int32) =>
rec5 x15 r14.1 r14.2))))))) (fun k9 =>
if (0 : Int32) < v6 then (
(f_X2_append sl7 sb8 32).bind (fun (r16 : Int32 × (Nat → Int32)) =>
k9 r16.1 r16.2)) else (
k9 sl7 sb8))) else (
some (sl7, sl7, r2.2.1, sb8, r2.2.2))
def L_X5_spell_1 (n : Int32) (r2 : Bool × Bool × (Nat → Int64)) (r4 : Int32)  : Nat → Int32 → Int32 → (Nat → Int32) → Option (Int32 × Int32 × Bool × (Nat → Int32) × (Nat → Int64))
  | 0, _, _, _ => none
  | m9 + 1, v6, sl7, sb8 => B_X5_spell_1 n r2 r4 (L_X5_spell_1 n r2 r4 m9)  v6 sl7 sb8

def f_X5_spell (n : Int32) (sl : Int32) (bey : Bool) (sb : Nat → Int32) (G : Nat → Nat → Int64) (wh : Nat → Int64) (a1 : Int32) : Option (Int32 × Int32 × Bool × (Nat → Int32) × (Nat → Int64)) :=
(f_X5_isGame a1).bind (fun (r1 : Bool) =>
if r1 = true then (
(f_X5_fillWholes n bey G wh a1).bind (fun (r2 : Bool × Bool × (Nat → Int64)) =>
if r2.1 = true then (
(f_X2_wipe sl).bind (fun (r3 : Int32) =>
(f_X5_factorial n).bind (fun (r4 : Int32) =>
L_X5_spell_1 n r2 r4  FU 0 r3 sb))) else (
some ((-6), sl, r2.2.1, sb, r2.2.2)))) else (
some ((-1), sl, bey, sb, wh)))

theorem nI_X5_spell : NameIn yX5_spell 1 := ⟨by decide +kernel, by decide +kernel, by decide +kernel⟩
set_option maxRecDepth 100000 in
set_option maxHeartbeats 4000000 in
theorem lp_X5_spell_1 {X : CX} {res : Int32 × Int32 × Bool × (Nat → Int32) × (Nat → Int64)}   {r2 : Bool × Bool × (Nat → Int64)} {r4 : Int32} (hq : (xA q).Nodup) (C : Ok X cX5_spell 4 (some .int) wsX5_spell RX5 { frames := 4, cells := 0, slots := 0, locals := 98 } D vwCl (xT cs) (xA q) (xN tF) (some (.int res.1)) (xW q cs n nd es kn knd kes img tl ta tn res.2.1 res.2.2.1 wt un ed kwt kun ked tb res.2.2.2.1 sz sbs G K P wk res.2.2.2.2))  : ∀ fuel : Nat, ∀ v6 : Int32, ∀ sl7 : Int32, ∀ sb8 : Nat → Int32, VF X res (L_X5_spell_1 n r2 r4 fuel v6 sl7 sb8) (xW q cs n nd es kn knd kes img tl ta tn sl7 r2.2.1 wt un ed kwt kun ked tb sb8 sz sbs G K P wk r2.2.2) 40 [(0, .ref (q 0)), (2, .int r4), (3, .int v6)] [] := by
  have iX0 : ∀ w ∈ wsX00, w ∈ wsX5_spell := fun _ h => List.mem_cons_of_mem _ (List.mem_append_left _ (List.mem_append_left _ (List.mem_append_right _ h)))
  have iX2 : ∀ w ∈ wsX20, w ∈ wsX5_spell := fun _ h => List.mem_cons_of_mem _ (List.mem_append_left _ (List.mem_append_right _ h))
  have iX5 : ∀ w ∈ wsX50, w ∈ wsX5_spell := fun _ h => List.mem_cons_of_mem _ (List.mem_append_left _ (List.mem_append_left _ (List.mem_append_left _ (List.mem_append_right _ h))))
  intro fuel
  induction fuel with
  | zero =>
    intro _ _ _
    exact v_none
  | succ fuel ih =>
    intro v6 sl7 sb8
    show VF X res (B_X5_spell_1 n r2 r4 (L_X5_spell_1 n r2 r4 fuel)  v6 sl7 sb8) _ _ _ _
    unfold B_X5_spell_1
    refine v_iload_n C 2 dX5_spell_40 rfl ?_
    refine v_aload_n C 0 dX5_spell_41 rfl ?_
    refine v_get C (T := TX5) (n := 10) (C9 := RX5) iX5 0 rfl rfl 0 (by decide) (List.mem_of_getElem? (i := 2) rfl) rfl rfl dX5_spell_42 ?_
    refine v_get C (T := TX0) (n := 7) (C9 := RX0) iX0 1 rfl rfl 0 (by decide) (List.mem_of_getElem? (i := 3) rfl) rfl rfl dX5_spell_45 ?_
    refine v_icmp_ge C dX5_spell_48 (tgt := 101) (by decide) ?_ ?_
    · refine v_aload_n C 0 dX5_spell_101 rfl ?_
      refine v_get C (T := TX5) (n := 10) (C9 := RX5) iX5 0 rfl rfl 4 (by decide) (List.mem_of_getElem? (i := 1) rfl) rfl rfl dX5_spell_102 ?_
      refine v_get C (T := TX2) (n := 2) (C9 := RX2) iX2 4 rfl rfl 1 (by decide) (List.mem_of_getElem? (i := 5) rfl) rfl rfl dX5_spell_105 ?_
      exact v_iret (rvf := fun (res : Int32 × Int32 × Bool × (Nat → Int32) × (Nat → Int64)) => (some (.int res.1))) (wf := fun (res : Int32 × Int32 × Bool × (Nat → Int32) × (Nat → Int64)) => (xW q cs n nd es kn knd kes img tl ta tn res.2.1 res.2.2.1 wt un ed kwt kun ked tb res.2.2.2.1 sz sbs G K P wk res.2.2.2.2)) C dX5_spell_108 rfl rfl
    · refine v_iload_n C 2 dX5_spell_51 rfl ?_
      refine v_jn2 (wj := (fun sl10 sb11 => (xW q cs n nd es kn knd kes img tl ta tn sl10 r2.2.1 wt un ed kwt kun ked tb sb11 sz sbs G K P wk r2.2.2))) (pcj := 64) (lvj := (fun sl10 sb11 => [(0, .ref (q 0)), (2, .int r4), (3, .int v6)])) (stj := (fun sl10 sb11 => [])) (fun sl10 sb11 => ?_) (fun k9 hk9 => ?_)
      · refine v_aload_n C 0 dX5_spell_64 rfl ?_
        refine v_get C (T := TX5) (n := 10) (C9 := RX5) iX5 0 rfl rfl 4 (by decide) (List.mem_of_getElem? (i := 1) rfl) rfl rfl dX5_spell_65 ?_
        refine v_aload_n C 0 dX5_spell_68 rfl ?_
        refine v_get C (T := TX5) (n := 10) (C9 := RX5) iX5 0 rfl rfl 8 (by decide) (List.mem_of_getElem? (i := 4) rfl) rfl rfl dX5_spell_69 ?_
        refine v_iload_n C 2 dX5_spell_72 rfl ?_
        refine v_lald C 20 1 rfl rfl dX5_spell_73 ?_
        refine v_iload_n C 1 dX5_spell_74 rfl ?_
        refine v_i2l C dX5_spell_75 ?_
        refine v_iconst C dX5_spell_76 (v := 0) (by decide) ?_
        refine v_callSP3v C (fun l9 r9 h9 => k_X5_lowest (l := l9) h9) gX5_spell_X5_lowest rfl nI_X5_lowest ⟨rfl, rfl, Nat.le_of_ble_eq_true rfl, Nat.le_of_ble_eq_true rfl⟩ dX5_spell_77 (Nat.le_of_ble_eq_true rfl) (fun r12 => ?_)
        refine v_aload_n C 0 dX5_spell_80 rfl ?_
        refine v_get C (T := TX5) (n := 10) (C9 := RX5) iX5 0 rfl rfl 8 (by decide) (List.mem_of_getElem? (i := 4) rfl) rfl rfl dX5_spell_81 ?_
        refine v_iload_n C 2 dX5_spell_84 rfl ?_
        refine v_lald C 20 1 rfl rfl dX5_spell_85 ?_
        refine v_iload_n C 1 dX5_spell_86 rfl ?_
        refine v_i2l C dX5_spell_87 ?_
        refine v_iconst C dX5_spell_88 (v := 1) (by decide) ?_
        refine v_callSP3v C (fun l9 r9 h9 => k_X5_lowest (l := l9) h9) gX5_spell_X5_lowest rfl nI_X5_lowest ⟨rfl, rfl, Nat.le_of_ble_eq_true rfl, Nat.le_of_ble_eq_true rfl⟩ dX5_spell_89 (Nat.le_of_ble_eq_true rfl) (fun r13 => ?_)
        refine v_callV2n C 4 rfl rfl rfl (fun l9 r9 h9 => k_X2_appendFraction (l := l9) hq  h9) gX5_spell_X2_appendFraction rfl nI_X2_appendFraction ⟨rfl, rfl, Nat.le_of_ble_eq_true rfl, Nat.le_of_ble_eq_true rfl⟩ dX5_spell_92 (Nat.le_of_ble_eq_true rfl) (fun r14 => ?_)
        refine v_iinc_nm C (lvf := fun x15 => [(3, .int x15), (0, .ref (q 0)), (2, .int r4)]) 2 dX5_spell_95 rfl rfl (by decide) (fun _ => rfl) (fun x15 => ?_)
        refine v_goto C dX5_spell_98 (tgt := 40) (by decide) ?_
        exact v_sub [1, 2, 0] rfl (ih x15 r14.1 r14.2)
      · refine v_if_le C dX5_spell_52 (tgt := 64) (by decide) ?_ ?_
        · exact v_sub [0, 1, 2] rfl (hk9 sl7 sb8)
        · refine v_aload_n C 0 dX5_spell_55 rfl ?_
          refine v_get C (T := TX5) (n := 10) (C9 := RX5) iX5 0 rfl rfl 4 (by decide) (List.mem_of_getElem? (i := 1) rfl) rfl rfl dX5_spell_56 ?_
          refine v_bipush C dX5_spell_59 (v := 32) (by decide) ?_
          refine v_callV1n C 4 rfl rfl rfl (fun l9 r9 h9 => k_X2_append (l := l9) hq  h9) gX5_spell_X2_append rfl nI_X2_append ⟨rfl, rfl, Nat.le_of_ble_eq_true rfl, Nat.le_of_ble_eq_true rfl⟩ dX5_spell_61 (Nat.le_of_ble_eq_true rfl) (fun r16 => ?_)
          exact v_sub [0, 1, 2] rfl (hk9 r16.1 r16.2)

set_option maxRecDepth 100000 in
set_option maxHeartbeats 4000000 in
theorem k_X5_spell {l : Launch} {a1 : Int32}  {res : Int32 × Int32 × Bool × (Nat → Int32) × (Nat → Int64)} (hq : (xA q).Nodup)  (hf : f_X5_spell n sl bey sb G wh a1 = some res) : kMet l yX5_spell wsX5_spell { frames := 4, cells := 0, slots := 0, locals := 98 } D vwCl (xT cs) (xN tF) (xA q) [.ref (q 0), .int a1] (xW q cs n nd es kn knd kes img tl ta tn sl bey wt un ed kwt kun ked tb sb sz sbs G K P wk wh) (some (.int res.1)) (xW q cs n nd es kn knd kes img tl ta tn res.2.1 res.2.2.1 wt un ed kwt kun ked tb res.2.2.2.1 sz sbs G K P wk res.2.2.2.2) := by
  have iX0 : ∀ w ∈ wsX00, w ∈ wsX5_spell := fun _ h => List.mem_cons_of_mem _ (List.mem_append_left _ (List.mem_append_left _ (List.mem_append_right _ h)))
  have iX5 : ∀ w ∈ wsX50, w ∈ wsX5_spell := fun _ h => List.mem_cons_of_mem _ (List.mem_append_left _ (List.mem_append_left _ (List.mem_append_left _ (List.mem_append_right _ h))))
  refine kMet.of (cc := cX5_spell) (nL := 4) (ret := (some .int)) (own := RX5) (lv := [(0, .ref (q 0)), (1, .int a1)]) (by decide +kernel) rfl rfl xN_ok hq (Nat.le_of_ble_eq_true rfl) rfl (fun X C => ?_)
  refine VF.of hf ?_
  unfold f_X5_spell
  refine v_iload_n C 1 dX5_spell_0 rfl ?_
  refine v_callSP1v C (fun l9 r9 h9 => k_X5_isGame (l := l9) h9) gX5_spell_X5_isGame rfl nI_X5_isGame ⟨rfl, rfl, Nat.le_of_ble_eq_true rfl, Nat.le_of_ble_eq_true rfl⟩ dX5_spell_1 (Nat.le_of_ble_eq_true rfl) (fun r1 => ?_)
  refine v_ifb_ne C (b := r1) dX5_spell_4 (tgt := 9) (by decide) ?_ ?_
  · refine v_aload_n C 0 dX5_spell_9 rfl ?_
    refine v_iload_n C 1 dX5_spell_10 rfl ?_
    refine v_callV1v C 0 rfl rfl rfl (fun l9 r9 h9 => k_X5_fillWholes (l := l9) hq  h9) gX5_spell_X5_fillWholes rfl nI_X5_fillWholes ⟨rfl, rfl, Nat.le_of_ble_eq_true rfl, Nat.le_of_ble_eq_true rfl⟩ dX5_spell_11 (Nat.le_of_ble_eq_true rfl) (fun r2 => ?_)
    refine v_ifb_ne C (b := r2.1) dX5_spell_14 (tgt := 20) (by decide) ?_ ?_
    · refine v_aload_n C 0 dX5_spell_20 rfl ?_
      refine v_get C (T := TX5) (n := 10) (C9 := RX5) iX5 0 rfl rfl 4 (by decide) (List.mem_of_getElem? (i := 1) rfl) rfl rfl dX5_spell_21 ?_
      refine v_callV0n C 4 rfl rfl rfl (fun l9 r9 h9 => k_X2_wipe (l := l9) hq  h9) gX5_spell_X2_wipe rfl nI_X2_wipe ⟨rfl, rfl, Nat.le_of_ble_eq_true rfl, Nat.le_of_ble_eq_true rfl⟩ dX5_spell_24 (Nat.le_of_ble_eq_true rfl) (fun r3 => ?_)
      refine v_aload_n C 0 dX5_spell_27 rfl ?_
      refine v_get C (T := TX5) (n := 10) (C9 := RX5) iX5 0 rfl rfl 0 (by decide) (List.mem_of_getElem? (i := 2) rfl) rfl rfl dX5_spell_28 ?_
      refine v_get C (T := TX0) (n := 7) (C9 := RX0) iX0 1 rfl rfl 0 (by decide) (List.mem_of_getElem? (i := 3) rfl) rfl rfl dX5_spell_31 ?_
      refine v_callS1v C (fun l9 r9 h9 => k_X5_factorial (l := l9) hq  h9) gX5_spell_X5_factorial rfl nI_X5_factorial ⟨rfl, rfl, Nat.le_of_ble_eq_true rfl, Nat.le_of_ble_eq_true rfl⟩ dX5_spell_34 (Nat.le_of_ble_eq_true rfl) (fun r4 => ?_)
      refine v_istore_n C (lv' := [(2, .int r4), (0, .ref (q 0)), (1, .int a1)]) dX5_spell_37 rfl (by decide) rfl ?_
      refine v_iconst C dX5_spell_38 (v := 0) (by decide) ?_
      refine v_istore_n C (lv' := [(3, .int 0), (2, .int r4), (0, .ref (q 0)), (1, .int a1)]) dX5_spell_39 rfl (by decide) rfl ?_
      refine v_sub [2, 1, 0] rfl (lp_X5_spell_1 hq C   FU 0 r3 sb)
    · refine v_bipush C dX5_spell_17 (v := (-6)) (by decide) ?_
      exact v_iret (rvf := fun (res : Int32 × Int32 × Bool × (Nat → Int32) × (Nat → Int64)) => (some (.int res.1))) (wf := fun (res : Int32 × Int32 × Bool × (Nat → Int32) × (Nat → Int64)) => (xW q cs n nd es kn knd kes img tl ta tn res.2.1 res.2.2.1 wt un ed kwt kun ked tb res.2.2.2.1 sz sbs G K P wk res.2.2.2.2)) C dX5_spell_19 rfl rfl
  · refine v_iconst C dX5_spell_7 (v := (-1)) (by decide) ?_
    exact v_iret (rvf := fun (res : Int32 × Int32 × Bool × (Nat → Int32) × (Nat → Int64)) => (some (.int res.1))) (wf := fun (res : Int32 × Int32 × Bool × (Nat → Int32) × (Nat → Int64)) => (xW q cs n nd es kn knd kes img tl ta tn res.2.1 res.2.2.1 wt un ed kwt kun ked tb res.2.2.2.1 sz sbs G K P wk res.2.2.2.2)) C dX5_spell_8 rfl rfl

def f_X5_paper (sl : Int32) (sb : Nat → Int32) (a1 : Int32) : Option (Int32) :=
jn0 (some (-1)) (fun k1 =>
if (a1 : Int32) < 0 then (
k1) else (
if (a1 : Int32) < sl then (
ck (inb a1 256) (
some (sb a1.toNatClampNeg))) else (
k1)))

theorem nI_X5_paper : NameIn yX5_paper 1 := ⟨by decide +kernel, by decide +kernel, by decide +kernel⟩
set_option maxRecDepth 100000 in
set_option maxHeartbeats 4000000 in
theorem k_X5_paper {l : Launch} {a1 : Int32}  {res : Int32} (hq : (xA q).Nodup)  (hf : f_X5_paper sl sb a1 = some res) : kMet l yX5_paper wsX5_paper { frames := 0, cells := 0, slots := 0, locals := 0 } D vwCl (xT cs) (xN tF) (xA q) [.ref (q 0), .int a1] (xW q cs n nd es kn knd kes img tl ta tn sl bey wt un ed kwt kun ked tb sb sz sbs G K P wk wh) (some (.int res)) (xW q cs n nd es kn knd kes img tl ta tn sl bey wt un ed kwt kun ked tb sb sz sbs G K P wk wh) := by
  have iX2 : ∀ w ∈ wsX20, w ∈ wsX5_paper := fun _ h => List.mem_cons_of_mem _ (List.mem_append_right _ h)
  have iX5 : ∀ w ∈ wsX50, w ∈ wsX5_paper := fun _ h => List.mem_cons_of_mem _ (List.mem_append_left _ (List.mem_append_right _ h))
  refine kMet.of (cc := cX5_paper) (nL := 2) (ret := (some .int)) (own := RX5) (lv := [(0, .ref (q 0)), (1, .int a1)]) (by decide +kernel) rfl rfl xN_ok hq (Nat.le_of_ble_eq_true rfl) rfl (fun X C => ?_)
  refine VF.of hf ?_
  unfold f_X5_paper
  refine v_iload_n C 1 dX5_paper_0 rfl ?_
  refine v_jn0 (wj := ((xW q cs n nd es kn knd kes img tl ta tn sl bey wt un ed kwt kun ked tb sb sz sbs G K P wk wh))) (pcj := 27) (lvj := ([])) (stj := ([])) ?_ (fun k1 hk1 => ?_)
  · refine v_iconst C dX5_paper_27 (v := (-1)) (by decide) ?_
    exact v_iret (rvf := fun (res : Int32) => (some (.int res))) (wf := fun (res : Int32) => (xW q cs n nd es kn knd kes img tl ta tn sl bey wt un ed kwt kun ked tb sb sz sbs G K P wk wh)) C dX5_paper_28 rfl rfl
  · refine v_if_lt C dX5_paper_1 (tgt := 27) (by decide) ?_ ?_
    · exact v_sub [] rfl (hk1)
    · refine v_iload_n C 1 dX5_paper_4 rfl ?_
      refine v_aload_n C 0 dX5_paper_5 rfl ?_
      refine v_get C (T := TX5) (n := 10) (C9 := RX5) iX5 0 rfl rfl 4 (by decide) (List.mem_of_getElem? (i := 1) rfl) rfl rfl dX5_paper_6 ?_
      refine v_get C (T := TX2) (n := 2) (C9 := RX2) iX2 4 rfl rfl 1 (by decide) (List.mem_of_getElem? (i := 2) rfl) rfl rfl dX5_paper_9 ?_
      refine v_icmp_ge C dX5_paper_12 (tgt := 27) (by decide) ?_ ?_
      · exact v_sub [] rfl (hk1)
      · refine v_aload_n C 0 dX5_paper_15 rfl ?_
        refine v_get C (T := TX5) (n := 10) (C9 := RX5) iX5 0 rfl rfl 4 (by decide) (List.mem_of_getElem? (i := 1) rfl) rfl rfl dX5_paper_16 ?_
        refine v_get C (T := TX2) (n := 2) (C9 := RX2) iX2 4 rfl rfl 0 (by decide) (List.mem_of_getElem? (i := 3) rfl) rfl rfl dX5_paper_19 ?_
        refine v_iload_n C 1 dX5_paper_22 rfl ?_
        refine v_bald C 16 2 rfl rfl dX5_paper_23 ?_
        refine v_goto C dX5_paper_24 (tgt := 28) (by decide) ?_
        exact v_iret (rvf := fun (res : Int32) => (some (.int res))) (wf := fun (res : Int32) => (xW q cs n nd es kn knd kes img tl ta tn sl bey wt un ed kwt kun ked tb sb sz sbs G K P wk wh)) C dX5_paper_28 rfl rfl

def f_X5_told (n : Int32) (nd : Int32) (es : Int32) (tl : Int32) (sl : Int32) (wt : Nat → Int32) (un : Nat → Int32) (ed : Nat → Int32) (a1 : Int32) : Option (Int32) :=
if (a1 : Int32) = 0 then (
some n) else (
if (a1 : Int32) = 1 then (
some nd) else (
if (a1 : Int32) = 2 then (
some es) else (
if (a1 : Int32) = 3 then (
(f_X0_countEdges ed).bind (fun (r1 : Int32) =>
some r1)) else (
if (a1 : Int32) = 4 then (
(f_X0_countUnions n un).bind (fun (r2 : Int32) =>
some r2)) else (
if (a1 : Int32) = 5 then (
some tl) else (
if (a1 : Int32) = 6 then (
some sl) else (
if (a1 : Int32) = 7 then (
(f_X0_everyone n).bind (fun (r3 : Int32) =>
(f_X0_weigh n wt r3).bind (fun (r4 : Int32) =>
some r4))) else (
jn0 (some (-1)) (fun k5 =>
if (a1 : Int32) < 10 then (
k5) else (
(f_X0_hasPartner n (a1 - 10)).bind (fun (r6 : Bool) =>
if r6 = true then (
ck (inb (a1 - 10) 9) (
some (wt (a1 - 10).toNatClampNeg))) else (
k5))))))))))))

theorem nI_X5_told : NameIn yX5_told 1 := ⟨by decide +kernel, by decide +kernel, by decide +kernel⟩
set_option maxRecDepth 100000 in
set_option maxHeartbeats 4000000 in
theorem k_X5_told {l : Launch} {a1 : Int32}  {res : Int32} (hq : (xA q).Nodup)  (hf : f_X5_told n nd es tl sl wt un ed a1 = some res) : kMet l yX5_told wsX5_told { frames := 3, cells := 0, slots := 0, locals := 64 } D vwCl (xT cs) (xN tF) (xA q) [.ref (q 0), .int a1] (xW q cs n nd es kn knd kes img tl ta tn sl bey wt un ed kwt kun ked tb sb sz sbs G K P wk wh) (some (.int res)) (xW q cs n nd es kn knd kes img tl ta tn sl bey wt un ed kwt kun ked tb sb sz sbs G K P wk wh) := by
  have iX0 : ∀ w ∈ wsX00, w ∈ wsX5_told := fun _ h => List.mem_cons_of_mem _ (List.mem_append_left _ (List.mem_append_left _ (List.mem_append_right _ h)))
  have iX2 : ∀ w ∈ wsX20, w ∈ wsX5_told := fun _ h => List.mem_cons_of_mem _ (List.mem_append_right _ h)
  have iX4 : ∀ w ∈ wsX40, w ∈ wsX5_told := fun _ h => List.mem_cons_of_mem _ (List.mem_append_left _ (List.mem_append_right _ h))
  have iX5 : ∀ w ∈ wsX50, w ∈ wsX5_told := fun _ h => List.mem_cons_of_mem _ (List.mem_append_left _ (List.mem_append_left _ (List.mem_append_left _ (List.mem_append_right _ h))))
  refine kMet.of (cc := cX5_told) (nL := 2) (ret := (some .int)) (own := RX5) (lv := [(0, .ref (q 0)), (1, .int a1)]) (by decide +kernel) rfl rfl xN_ok hq (Nat.le_of_ble_eq_true rfl) rfl (fun X C => ?_)
  refine VF.of hf ?_
  unfold f_X5_told
  refine v_iload_n C 1 dX5_told_0 rfl ?_
  refine v_split (fun h0 => ?_) (fun h0 => ?_)
  · refine v_tin C dX5_told_1 (tgt := 48) (off := 47) (by rw [h0]; decide) (by rw [h0]; decide) (by rw [h0]; rfl) (by decide) ?_
    refine v_aload_n C 0 dX5_told_48 rfl ?_
    refine v_get C (T := TX5) (n := 10) (C9 := RX5) iX5 0 rfl rfl 0 (by decide) (List.mem_of_getElem? (i := 1) rfl) rfl rfl dX5_told_49 ?_
    refine v_get C (T := TX0) (n := 7) (C9 := RX0) iX0 1 rfl rfl 0 (by decide) (List.mem_of_getElem? (i := 2) rfl) rfl rfl dX5_told_52 ?_
    exact v_iret (rvf := fun (res : Int32) => (some (.int res))) (wf := fun (res : Int32) => (xW q cs n nd es kn knd kes img tl ta tn sl bey wt un ed kwt kun ked tb sb sz sbs G K P wk wh)) C dX5_told_55 rfl rfl
  · refine v_split (fun h1 => ?_) (fun h1 => ?_)
    · refine v_tin C dX5_told_1 (tgt := 56) (off := 55) (by rw [h1]; decide) (by rw [h1]; decide) (by rw [h1]; rfl) (by decide) ?_
      refine v_aload_n C 0 dX5_told_56 rfl ?_
      refine v_get C (T := TX5) (n := 10) (C9 := RX5) iX5 0 rfl rfl 0 (by decide) (List.mem_of_getElem? (i := 1) rfl) rfl rfl dX5_told_57 ?_
      refine v_get C (T := TX0) (n := 7) (C9 := RX0) iX0 1 rfl rfl 1 (by decide) (List.mem_of_getElem? (i := 3) rfl) rfl rfl dX5_told_60 ?_
      exact v_iret (rvf := fun (res : Int32) => (some (.int res))) (wf := fun (res : Int32) => (xW q cs n nd es kn knd kes img tl ta tn sl bey wt un ed kwt kun ked tb sb sz sbs G K P wk wh)) C dX5_told_63 rfl rfl
    · refine v_split (fun h2 => ?_) (fun h2 => ?_)
      · refine v_tin C dX5_told_1 (tgt := 64) (off := 63) (by rw [h2]; decide) (by rw [h2]; decide) (by rw [h2]; rfl) (by decide) ?_
        refine v_aload_n C 0 dX5_told_64 rfl ?_
        refine v_get C (T := TX5) (n := 10) (C9 := RX5) iX5 0 rfl rfl 0 (by decide) (List.mem_of_getElem? (i := 1) rfl) rfl rfl dX5_told_65 ?_
        refine v_get C (T := TX0) (n := 7) (C9 := RX0) iX0 1 rfl rfl 2 (by decide) (List.mem_of_getElem? (i := 4) rfl) rfl rfl dX5_told_68 ?_
        exact v_iret (rvf := fun (res : Int32) => (some (.int res))) (wf := fun (res : Int32) => (xW q cs n nd es kn knd kes img tl ta tn sl bey wt un ed kwt kun ked tb sb sz sbs G K P wk wh)) C dX5_told_71 rfl rfl
      · refine v_split (fun h3 => ?_) (fun h3 => ?_)
        · refine v_tin C dX5_told_1 (tgt := 72) (off := 71) (by rw [h3]; decide) (by rw [h3]; decide) (by rw [h3]; rfl) (by decide) ?_
          refine v_aload_n C 0 dX5_told_72 rfl ?_
          refine v_get C (T := TX5) (n := 10) (C9 := RX5) iX5 0 rfl rfl 0 (by decide) (List.mem_of_getElem? (i := 1) rfl) rfl rfl dX5_told_73 ?_
          refine v_callV0v C 1 rfl rfl rfl (fun l9 r9 h9 => k_X0_countEdges (l := l9) hq  h9) gX5_told_X0_countEdges rfl nI_X0_countEdges ⟨rfl, rfl, Nat.le_of_ble_eq_true rfl, Nat.le_of_ble_eq_true rfl⟩ dX5_told_76 (Nat.le_of_ble_eq_true rfl) (fun r1 => ?_)
          exact v_iret (rvf := fun (res : Int32) => (some (.int res))) (wf := fun (res : Int32) => (xW q cs n nd es kn knd kes img tl ta tn sl bey wt un ed kwt kun ked tb sb sz sbs G K P wk wh)) C dX5_told_79 rfl rfl
        · refine v_split (fun h4 => ?_) (fun h4 => ?_)
          · refine v_tin C dX5_told_1 (tgt := 80) (off := 79) (by rw [h4]; decide) (by rw [h4]; decide) (by rw [h4]; rfl) (by decide) ?_
            refine v_aload_n C 0 dX5_told_80 rfl ?_
            refine v_get C (T := TX5) (n := 10) (C9 := RX5) iX5 0 rfl rfl 0 (by decide) (List.mem_of_getElem? (i := 1) rfl) rfl rfl dX5_told_81 ?_
            refine v_callV0v C 1 rfl rfl rfl (fun l9 r9 h9 => k_X0_countUnions (l := l9) hq  h9) gX5_told_X0_countUnions rfl nI_X0_countUnions ⟨rfl, rfl, Nat.le_of_ble_eq_true rfl, Nat.le_of_ble_eq_true rfl⟩ dX5_told_84 (Nat.le_of_ble_eq_true rfl) (fun r2 => ?_)
            exact v_iret (rvf := fun (res : Int32) => (some (.int res))) (wf := fun (res : Int32) => (xW q cs n nd es kn knd kes img tl ta tn sl bey wt un ed kwt kun ked tb sb sz sbs G K P wk wh)) C dX5_told_87 rfl rfl
          · refine v_split (fun h5 => ?_) (fun h5 => ?_)
            · refine v_tin C dX5_told_1 (tgt := 88) (off := 87) (by rw [h5]; decide) (by rw [h5]; decide) (by rw [h5]; rfl) (by decide) ?_
              refine v_aload_n C 0 dX5_told_88 rfl ?_
              refine v_get C (T := TX5) (n := 10) (C9 := RX5) iX5 0 rfl rfl 3 (by decide) (List.mem_of_getElem? (i := 5) rfl) rfl rfl dX5_told_89 ?_
              refine v_get C (T := TX4) (n := 4) (C9 := RX4) iX4 3 rfl rfl 1 (by decide) (List.mem_of_getElem? (i := 6) rfl) rfl rfl dX5_told_92 ?_
              exact v_iret (rvf := fun (res : Int32) => (some (.int res))) (wf := fun (res : Int32) => (xW q cs n nd es kn knd kes img tl ta tn sl bey wt un ed kwt kun ked tb sb sz sbs G K P wk wh)) C dX5_told_95 rfl rfl
            · refine v_split (fun h6 => ?_) (fun h6 => ?_)
              · refine v_tin C dX5_told_1 (tgt := 96) (off := 95) (by rw [h6]; decide) (by rw [h6]; decide) (by rw [h6]; rfl) (by decide) ?_
                refine v_aload_n C 0 dX5_told_96 rfl ?_
                refine v_get C (T := TX5) (n := 10) (C9 := RX5) iX5 0 rfl rfl 4 (by decide) (List.mem_of_getElem? (i := 7) rfl) rfl rfl dX5_told_97 ?_
                refine v_get C (T := TX2) (n := 2) (C9 := RX2) iX2 4 rfl rfl 1 (by decide) (List.mem_of_getElem? (i := 8) rfl) rfl rfl dX5_told_100 ?_
                exact v_iret (rvf := fun (res : Int32) => (some (.int res))) (wf := fun (res : Int32) => (xW q cs n nd es kn knd kes img tl ta tn sl bey wt un ed kwt kun ked tb sb sz sbs G K P wk wh)) C dX5_told_103 rfl rfl
              · refine v_split (fun h7 => ?_) (fun h7 => ?_)
                · refine v_tin C dX5_told_1 (tgt := 104) (off := 103) (by rw [h7]; decide) (by rw [h7]; decide) (by rw [h7]; rfl) (by decide) ?_
                  refine v_aload_n C 0 dX5_told_104 rfl ?_
                  refine v_get C (T := TX5) (n := 10) (C9 := RX5) iX5 0 rfl rfl 0 (by decide) (List.mem_of_getElem? (i := 1) rfl) rfl rfl dX5_told_105 ?_
                  refine v_aload_n C 0 dX5_told_108 rfl ?_
                  refine v_get C (T := TX5) (n := 10) (C9 := RX5) iX5 0 rfl rfl 0 (by decide) (List.mem_of_getElem? (i := 1) rfl) rfl rfl dX5_told_109 ?_
                  refine v_callV0v C 1 rfl rfl rfl (fun l9 r9 h9 => k_X0_everyone (l := l9) hq  h9) gX5_told_X0_everyone rfl nI_X0_everyone ⟨rfl, rfl, Nat.le_of_ble_eq_true rfl, Nat.le_of_ble_eq_true rfl⟩ dX5_told_112 (Nat.le_of_ble_eq_true rfl) (fun r3 => ?_)
                  refine v_callV1v C 1 rfl rfl rfl (fun l9 r9 h9 => k_X0_weigh (l := l9) hq  h9) gX5_told_X0_weigh rfl nI_X0_weigh ⟨rfl, rfl, Nat.le_of_ble_eq_true rfl, Nat.le_of_ble_eq_true rfl⟩ dX5_told_115 (Nat.le_of_ble_eq_true rfl) (fun r4 => ?_)
                  exact v_iret (rvf := fun (res : Int32) => (some (.int res))) (wf := fun (res : Int32) => (xW q cs n nd es kn knd kes img tl ta tn sl bey wt un ed kwt kun ked tb sb sz sbs G K P wk wh)) C dX5_told_118 rfl rfl
                · have g0 := i32n h0
                  have g1 := i32n h1
                  have g2 := i32n h2
                  have g3 := i32n h3
                  have g4 := i32n h4
                  have g5 := i32n h5
                  have g6 := i32n h6
                  have g7 := i32n h7
                  rw [show ((0 : Int32).toInt) = 0 from by decide] at g0
                  rw [show ((1 : Int32).toInt) = 1 from by decide] at g1
                  rw [show ((2 : Int32).toInt) = 2 from by decide] at g2
                  rw [show ((3 : Int32).toInt) = 3 from by decide] at g3
                  rw [show ((4 : Int32).toInt) = 4 from by decide] at g4
                  rw [show ((5 : Int32).toInt) = 5 from by decide] at g5
                  rw [show ((6 : Int32).toInt) = 6 from by decide] at g6
                  rw [show ((7 : Int32).toInt) = 7 from by decide] at g7
                  refine v_tout C dX5_told_1 (tgt := 119) (by omega) (by decide) ?_
                  refine v_iload_n C 1 dX5_told_119 rfl ?_
                  refine v_bipush C dX5_told_120 (v := 10) (by decide) ?_
                  refine v_jn0 (wj := ((xW q cs n nd es kn knd kes img tl ta tn sl bey wt un ed kwt kun ked tb sb sz sbs G K P wk wh))) (pcj := 154) (lvj := ([])) (stj := ([])) ?_ (fun k5 hk5 => ?_)
                  · refine v_iconst C dX5_told_154 (v := (-1)) (by decide) ?_
                    exact v_iret (rvf := fun (res : Int32) => (some (.int res))) (wf := fun (res : Int32) => (xW q cs n nd es kn knd kes img tl ta tn sl bey wt un ed kwt kun ked tb sb sz sbs G K P wk wh)) C dX5_told_155 rfl rfl
                  · refine v_icmp_lt C dX5_told_122 (tgt := 154) (by decide) ?_ ?_
                    · exact v_sub [] rfl (hk5)
                    · refine v_aload_n C 0 dX5_told_125 rfl ?_
                      refine v_get C (T := TX5) (n := 10) (C9 := RX5) iX5 0 rfl rfl 0 (by decide) (List.mem_of_getElem? (i := 1) rfl) rfl rfl dX5_told_126 ?_
                      refine v_iload_n C 1 dX5_told_129 rfl ?_
                      refine v_bipush C dX5_told_130 (v := 10) (by decide) ?_
                      refine v_isub C dX5_told_132 ?_
                      refine v_callV1v C 1 rfl rfl rfl (fun l9 r9 h9 => k_X0_hasPartner (l := l9) hq  h9) gX5_told_X0_hasPartner rfl nI_X0_hasPartner ⟨rfl, rfl, Nat.le_of_ble_eq_true rfl, Nat.le_of_ble_eq_true rfl⟩ dX5_told_133 (Nat.le_of_ble_eq_true rfl) (fun r6 => ?_)
                      refine v_ifb_eq C (b := r6) dX5_told_136 (tgt := 154) (by decide) ?_ ?_
                      · exact v_sub [] rfl (hk5)
                      · refine v_aload_n C 0 dX5_told_139 rfl ?_
                        refine v_get C (T := TX5) (n := 10) (C9 := RX5) iX5 0 rfl rfl 0 (by decide) (List.mem_of_getElem? (i := 1) rfl) rfl rfl dX5_told_140 ?_
                        refine v_get C (T := TX0) (n := 7) (C9 := RX0) iX0 1 rfl rfl 3 (by decide) (List.mem_of_getElem? (i := 9) rfl) rfl rfl dX5_told_143 ?_
                        refine v_iload_n C 1 dX5_told_146 rfl ?_
                        refine v_bipush C dX5_told_147 (v := 10) (by decide) ?_
                        refine v_isub C dX5_told_149 ?_
                        refine v_iald C 7 0 rfl rfl dX5_told_150 ?_
                        refine v_goto C dX5_told_151 (tgt := 155) (by decide) ?_
                        exact v_iret (rvf := fun (res : Int32) => (some (.int res))) (wf := fun (res : Int32) => (xW q cs n nd es kn knd kes img tl ta tn sl bey wt un ed kwt kun ked tb sb sz sbs G K P wk wh)) C dX5_told_155 rfl rfl

def f_X5_worth (n : Int32) (ed : Nat → Int32) (a1 : Int32) (a2 : Int32) : Option (Int64) :=
(f_X0_hasTwo n a1 a2).bind (fun (r1 : Bool) =>
if r1 = true then (
(f_X5_edgePlace a1 a2).bind (fun (r2 : Int32) =>
ck (inb r2 81) (
nm (ed r2.toNatClampNeg) (fun (x3 : Int32) =>
if (x3 : Int32) = 10000 then (
some (-9223372036854775808)) else (
some x3.toInt64))))) else (
some (-9223372036854775808)))

theorem nI_X5_worth : NameIn yX5_worth 2 := ⟨by decide +kernel, by decide +kernel, by decide +kernel⟩
set_option maxRecDepth 100000 in
set_option maxHeartbeats 4000000 in
theorem k_X5_worth {l : Launch} {a1 : Int32} {a2 : Int32}  {res : Int64} (hq : (xA q).Nodup)  (hf : f_X5_worth n ed a1 a2 = some res) : kMet l yX5_worth wsX5_worth { frames := 2, cells := 0, slots := 0, locals := 44 } D vwCl (xT cs) (xN tF) (xA q) [.ref (q 0), .int a1, .int a2] (xW q cs n nd es kn knd kes img tl ta tn sl bey wt un ed kwt kun ked tb sb sz sbs G K P wk wh) (some (.long res)) (xW q cs n nd es kn knd kes img tl ta tn sl bey wt un ed kwt kun ked tb sb sz sbs G K P wk wh) := by
  have iX0 : ∀ w ∈ wsX00, w ∈ wsX5_worth := fun _ h => List.mem_cons_of_mem _ (List.mem_append_right _ h)
  have iX5 : ∀ w ∈ wsX50, w ∈ wsX5_worth := fun _ h => List.mem_cons_of_mem _ (List.mem_append_left _ (List.mem_append_right _ h))
  refine kMet.of (cc := cX5_worth) (nL := 4) (ret := (some .long)) (own := RX5) (lv := [(0, .ref (q 0)), (1, .int a1), (2, .int a2)]) (by decide +kernel) rfl rfl xN_ok hq (Nat.le_of_ble_eq_true rfl) rfl (fun X C => ?_)
  refine VF.of hf ?_
  unfold f_X5_worth
  refine v_aload_n C 0 dX5_worth_0 rfl ?_
  refine v_get C (T := TX5) (n := 10) (C9 := RX5) iX5 0 rfl rfl 0 (by decide) (List.mem_of_getElem? (i := 1) rfl) rfl rfl dX5_worth_1 ?_
  refine v_iload_n C 1 dX5_worth_4 rfl ?_
  refine v_iload_n C 2 dX5_worth_5 rfl ?_
  refine v_callV2v C 1 rfl rfl rfl (fun l9 r9 h9 => k_X0_hasTwo (l := l9) hq  h9) gX5_worth_X0_hasTwo rfl nI_X0_hasTwo ⟨rfl, rfl, Nat.le_of_ble_eq_true rfl, Nat.le_of_ble_eq_true rfl⟩ dX5_worth_6 (Nat.le_of_ble_eq_true rfl) (fun r1 => ?_)
  refine v_ifb_ne C (b := r1) dX5_worth_9 (tgt := 16) (by decide) ?_ ?_
  · refine v_aload_n C 0 dX5_worth_16 rfl ?_
    refine v_get C (T := TX5) (n := 10) (C9 := RX5) iX5 0 rfl rfl 0 (by decide) (List.mem_of_getElem? (i := 1) rfl) rfl rfl dX5_worth_17 ?_
    refine v_get C (T := TX0) (n := 7) (C9 := RX0) iX0 1 rfl rfl 5 (by decide) (List.mem_of_getElem? (i := 3) rfl) rfl rfl dX5_worth_20 ?_
    refine v_iload_n C 1 dX5_worth_23 rfl ?_
    refine v_iload_n C 2 dX5_worth_24 rfl ?_
    refine v_callSP2v C (fun l9 r9 h9 => k_X5_edgePlace (l := l9) h9) gX5_worth_X5_edgePlace rfl nI_X5_edgePlace ⟨rfl, rfl, Nat.le_of_ble_eq_true rfl, Nat.le_of_ble_eq_true rfl⟩ dX5_worth_25 (Nat.le_of_ble_eq_true rfl) (fun r2 => ?_)
    refine v_iald C 9 0 rfl rfl dX5_worth_28 ?_
    refine v_istore_n_nm C (lvf := fun x3 => [(3, .int x3), (0, .ref (q 0)), (1, .int a1), (2, .int a2)]) dX5_worth_29 rfl (by decide) (fun _ => rfl) (fun x3 => ?_)
    refine v_iload_n C 0 dX5_worth_30 rfl ?_
    refine v_sipush C dX5_worth_31 (v := 10000) (by decide) ?_
    refine v_icmp_ne C dX5_worth_34 (tgt := 43) (by decide) ?_ ?_
    · refine v_iload_n C 0 dX5_worth_43 rfl ?_
      refine v_i2l C dX5_worth_44 ?_
      exact v_lret (rvf := fun (res : Int64) => (some (.long res))) (wf := fun (res : Int64) => (xW q cs n nd es kn knd kes img tl ta tn sl bey wt un ed kwt kun ked tb sb sz sbs G K P wk wh)) C dX5_worth_45 rfl rfl
    · refine v_ldc2 C (v := (-9223372036854775808)) (List.mem_of_getElem? (i := 2) rfl) dX5_worth_37 ?_
      refine v_goto C dX5_worth_40 (tgt := 45) (by decide) ?_
      exact v_lret (rvf := fun (res : Int64) => (some (.long res))) (wf := fun (res : Int64) => (xW q cs n nd es kn knd kes img tl ta tn sl bey wt un ed kwt kun ked tb sb sz sbs G K P wk wh)) C dX5_worth_45 rfl rfl
  · refine v_ldc2 C (v := (-9223372036854775808)) (List.mem_of_getElem? (i := 2) rfl) dX5_worth_12 ?_
    exact v_lret (rvf := fun (res : Int64) => (some (.long res))) (wf := fun (res : Int64) => (xW q cs n nd es kn knd kes img tl ta tn sl bey wt un ed kwt kun ked tb sb sz sbs G K P wk wh)) C dX5_worth_15 rfl rfl

def f_X5_row (sz : Nat → Int32) (P : Nat → Nat → Int64) (a1 : Int32) (a2 : Int32) : Option (Int32 × (Nat → Int32) × (Nat → Nat → Int64)) :=
(f_X5_isRow a1).bind (fun (r1 : Bool) =>
if r1 = true then (
if (20 : Int32) < a2 then (
some ((-2), sz, P)) else (
if (a2 : Int32) < 0 then (
some ((-14), sz, P)) else (
(f_X3_begin sz P a1 a2).bind (fun (r2 : (Nat → Int32) × (Nat → Nat → Int64)) =>
some (1, r2.1, r2.2))))) else (
some ((-1), sz, P)))

theorem nI_X5_row : NameIn yX5_row 2 := ⟨by decide +kernel, by decide +kernel, by decide +kernel⟩
set_option maxRecDepth 100000 in
set_option maxHeartbeats 4000000 in
theorem k_X5_row {l : Launch} {a1 : Int32} {a2 : Int32}  {res : Int32 × (Nat → Int32) × (Nat → Nat → Int64)} (hq : (xA q).Nodup)  (hf : f_X5_row sz P a1 a2 = some res) : kMet l yX5_row wsX5_row { frames := 2, cells := 0, slots := 0, locals := 46 } D vwCl (xT cs) (xN tF) (xA q) [.ref (q 0), .int a1, .int a2] (xW q cs n nd es kn knd kes img tl ta tn sl bey wt un ed kwt kun ked tb sb sz sbs G K P wk wh) (some (.int res.1)) (xW q cs n nd es kn knd kes img tl ta tn sl bey wt un ed kwt kun ked tb sb res.2.1 sbs G K res.2.2 wk wh) := by
  have iX5 : ∀ w ∈ wsX50, w ∈ wsX5_row := fun _ h => List.mem_cons_of_mem _ (List.mem_append_left _ (List.mem_append_right _ h))
  refine kMet.of (cc := cX5_row) (nL := 3) (ret := (some .int)) (own := RX5) (lv := [(0, .ref (q 0)), (1, .int a1), (2, .int a2)]) (by decide +kernel) rfl rfl xN_ok hq (Nat.le_of_ble_eq_true rfl) rfl (fun X C => ?_)
  refine VF.of hf ?_
  unfold f_X5_row
  refine v_iload_n C 1 dX5_row_0 rfl ?_
  refine v_callSP1v C (fun l9 r9 h9 => k_X5_isRow (l := l9) h9) gX5_row_X5_isRow rfl nI_X5_isRow ⟨rfl, rfl, Nat.le_of_ble_eq_true rfl, Nat.le_of_ble_eq_true rfl⟩ dX5_row_1 (Nat.le_of_ble_eq_true rfl) (fun r1 => ?_)
  refine v_ifb_ne C (b := r1) dX5_row_4 (tgt := 9) (by decide) ?_ ?_
  · refine v_iload_n C 2 dX5_row_9 rfl ?_
    refine v_bipush C dX5_row_10 (v := 20) (by decide) ?_
    refine v_icmp_le C dX5_row_12 (tgt := 18) (by decide) ?_ ?_
    · refine v_iload_n C 2 dX5_row_18 rfl ?_
      refine v_if_ge C dX5_row_19 (tgt := 25) (by decide) ?_ ?_
      · refine v_aload_n C 0 dX5_row_25 rfl ?_
        refine v_get C (T := TX5) (n := 10) (C9 := RX5) iX5 0 rfl rfl 5 (by decide) (List.mem_of_getElem? (i := 1) rfl) rfl rfl dX5_row_26 ?_
        refine v_iload_n C 1 dX5_row_29 rfl ?_
        refine v_iload_n C 2 dX5_row_30 rfl ?_
        refine v_callV2n C 5 rfl rfl rfl (fun l9 r9 h9 => k_X3_begin (l := l9) hq  h9) gX5_row_X3_begin rfl nI_X3_begin ⟨rfl, rfl, Nat.le_of_ble_eq_true rfl, Nat.le_of_ble_eq_true rfl⟩ dX5_row_31 (Nat.le_of_ble_eq_true rfl) (fun r2 => ?_)
        refine v_iconst C dX5_row_34 (v := 1) (by decide) ?_
        exact v_iret (rvf := fun (res : Int32 × (Nat → Int32) × (Nat → Nat → Int64)) => (some (.int res.1))) (wf := fun (res : Int32 × (Nat → Int32) × (Nat → Nat → Int64)) => (xW q cs n nd es kn knd kes img tl ta tn sl bey wt un ed kwt kun ked tb sb res.2.1 sbs G K res.2.2 wk wh)) C dX5_row_35 rfl rfl
      · refine v_bipush C dX5_row_22 (v := (-14)) (by decide) ?_
        exact v_iret (rvf := fun (res : Int32 × (Nat → Int32) × (Nat → Nat → Int64)) => (some (.int res.1))) (wf := fun (res : Int32 × (Nat → Int32) × (Nat → Nat → Int64)) => (xW q cs n nd es kn knd kes img tl ta tn sl bey wt un ed kwt kun ked tb sb res.2.1 sbs G K res.2.2 wk wh)) C dX5_row_24 rfl rfl
    · refine v_bipush C dX5_row_15 (v := (-2)) (by decide) ?_
      exact v_iret (rvf := fun (res : Int32 × (Nat → Int32) × (Nat → Nat → Int64)) => (some (.int res.1))) (wf := fun (res : Int32 × (Nat → Int32) × (Nat → Nat → Int64)) => (xW q cs n nd es kn knd kes img tl ta tn sl bey wt un ed kwt kun ked tb sb res.2.1 sbs G K res.2.2 wk wh)) C dX5_row_17 rfl rfl
  · refine v_iconst C dX5_row_7 (v := (-1)) (by decide) ?_
    exact v_iret (rvf := fun (res : Int32 × (Nat → Int32) × (Nat → Nat → Int64)) => (some (.int res.1))) (wf := fun (res : Int32 × (Nat → Int32) × (Nat → Nat → Int64)) => (xW q cs n nd es kn knd kes img tl ta tn sl bey wt un ed kwt kun ked tb sb res.2.1 sbs G K res.2.2 wk wh)) C dX5_row_8 rfl rfl

def f_X5_set (sz : Nat → Int32) (P : Nat → Nat → Int64) (a1 : Int32) (a2 : Int32) (a3 : Int64) : Option (Int32 × (Nat → Nat → Int64)) :=
(f_X5_isRow a1).bind (fun (r1 : Bool) =>
if r1 = true then (
(f_X3_isNothing sz a1).bind (fun (r2 : Bool) =>
if r2 = true then (
some ((-11), P)) else (
(f_X3_holds sz a1 a2 1).bind (fun (r3 : Bool) =>
if r3 = true then (
ck (inb a1 4) (
ck (inb a2 20) (
nm (vp_updL (P a1.toNatClampNeg) a2.toNatClampNeg a3) (fun (F5 : Nat → Int64) =>
nm (va_up P a1.toNatClampNeg F5) (fun (P6 : Nat → Nat → Int64) =>
some (1, P6)))))) else (
some ((-13), P)))))) else (
some ((-1), P)))

theorem nI_X5_set : NameIn yX5_set 3 := ⟨by decide +kernel, by decide +kernel, by decide +kernel⟩
set_option maxRecDepth 100000 in
set_option maxHeartbeats 4000000 in
theorem k_X5_set {l : Launch} {a1 : Int32} {a2 : Int32} {a3 : Int64}  {res : Int32 × (Nat → Nat → Int64)} (hq : (xA q).Nodup)  (hf : f_X5_set sz P a1 a2 a3 = some res) : kMet l yX5_set wsX5_set { frames := 2, cells := 0, slots := 0, locals := 43 } D vwCl (xT cs) (xN tF) (xA q) [.ref (q 0), .int a1, .int a2, .long a3] (xW q cs n nd es kn knd kes img tl ta tn sl bey wt un ed kwt kun ked tb sb sz sbs G K P wk wh) (some (.int res.1)) (xW q cs n nd es kn knd kes img tl ta tn sl bey wt un ed kwt kun ked tb sb sz sbs G K res.2 wk wh) := by
  have iX3 : ∀ w ∈ wsX30, w ∈ wsX5_set := fun _ h => List.mem_cons_of_mem _ (List.mem_append_right _ h)
  have iX5 : ∀ w ∈ wsX50, w ∈ wsX5_set := fun _ h => List.mem_cons_of_mem _ (List.mem_append_left _ (List.mem_append_right _ h))
  refine kMet.of (cc := cX5_set) (nL := 5) (ret := (some .int)) (own := RX5) (lv := [(0, .ref (q 0)), (1, .int a1), (2, .int a2), (3, .long a3)]) (by decide +kernel) rfl rfl xN_ok hq (Nat.le_of_ble_eq_true rfl) rfl (fun X C => ?_)
  refine VF.of hf ?_
  unfold f_X5_set
  refine v_iload_n C 1 dX5_set_0 rfl ?_
  refine v_callSP1v C (fun l9 r9 h9 => k_X5_isRow (l := l9) h9) gX5_set_X5_isRow rfl nI_X5_isRow ⟨rfl, rfl, Nat.le_of_ble_eq_true rfl, Nat.le_of_ble_eq_true rfl⟩ dX5_set_1 (Nat.le_of_ble_eq_true rfl) (fun r1 => ?_)
  refine v_ifb_ne C (b := r1) dX5_set_4 (tgt := 9) (by decide) ?_ ?_
  · refine v_aload_n C 0 dX5_set_9 rfl ?_
    refine v_get C (T := TX5) (n := 10) (C9 := RX5) iX5 0 rfl rfl 5 (by decide) (List.mem_of_getElem? (i := 1) rfl) rfl rfl dX5_set_10 ?_
    refine v_iload_n C 1 dX5_set_13 rfl ?_
    refine v_callV1v C 5 rfl rfl rfl (fun l9 r9 h9 => k_X3_isNothing (l := l9) hq  h9) gX5_set_X3_isNothing rfl nI_X3_isNothing ⟨rfl, rfl, Nat.le_of_ble_eq_true rfl, Nat.le_of_ble_eq_true rfl⟩ dX5_set_14 (Nat.le_of_ble_eq_true rfl) (fun r2 => ?_)
    refine v_ifb_eq C (b := r2) dX5_set_17 (tgt := 23) (by decide) ?_ ?_
    · refine v_aload_n C 0 dX5_set_23 rfl ?_
      refine v_get C (T := TX5) (n := 10) (C9 := RX5) iX5 0 rfl rfl 5 (by decide) (List.mem_of_getElem? (i := 1) rfl) rfl rfl dX5_set_24 ?_
      refine v_iload_n C 1 dX5_set_27 rfl ?_
      refine v_iload_n C 2 dX5_set_28 rfl ?_
      refine v_iconst C dX5_set_29 (v := 1) (by decide) ?_
      refine v_callV3v C 5 rfl rfl rfl (fun l9 r9 h9 => k_X3_holds (l := l9) hq  h9) gX5_set_X3_holds rfl nI_X3_holds ⟨rfl, rfl, Nat.le_of_ble_eq_true rfl, Nat.le_of_ble_eq_true rfl⟩ dX5_set_30 (Nat.le_of_ble_eq_true rfl) (fun r3 => ?_)
      refine v_ifb_ne C (b := r3) dX5_set_33 (tgt := 39) (by decide) ?_ ?_
      · refine v_aload_n C 0 dX5_set_39 rfl ?_
        refine v_get C (T := TX5) (n := 10) (C9 := RX5) iX5 0 rfl rfl 5 (by decide) (List.mem_of_getElem? (i := 1) rfl) rfl rfl dX5_set_40 ?_
        refine v_get C (T := TX3) (n := 2) (C9 := RX3) iX3 5 rfl rfl 0 (by decide) (List.mem_of_getElem? (i := 2) rfl) rfl rfl dX5_set_43 ?_
        refine v_iload_n C 1 dX5_set_46 rfl ?_
        refine v_aalda C (ad := fun j9 => q (30 + j9)) 17 3 rfl rfl (fun _ h9 => if_pos h9) dX5_set_47 (fun hb4 => ?_)
        have hj4 := inb_lt hb4
        refine v_iload_n C 2 dX5_set_48 rfl ?_
        refine v_lload_n C 3 dX5_set_49 rfl ?_
        refine v_last_nm C (fun F5 => (xW q cs n nd es kn knd kes img tl ta tn sl bey wt un ed kwt kun ked tb sb sz sbs G K (va_up P a1.toNatClampNeg F5) wk wh)) (30 + a1.toNatClampNeg) 1 (xW_P hj4) rfl rfl (fun _ => xW_P_set hj4) dX5_set_50 (fun F5 => ?_)
        refine v_namew (wf := fun P6 => (xW q cs n nd es kn knd kes img tl ta tn sl bey wt un ed kwt kun ked tb sb sz sbs G K P6 wk wh)) (fun P6 => ?_)
        refine v_iconst C dX5_set_51 (v := 1) (by decide) ?_
        exact v_iret (rvf := fun (res : Int32 × (Nat → Nat → Int64)) => (some (.int res.1))) (wf := fun (res : Int32 × (Nat → Nat → Int64)) => (xW q cs n nd es kn knd kes img tl ta tn sl bey wt un ed kwt kun ked tb sb sz sbs G K res.2 wk wh)) C dX5_set_52 rfl rfl
      · refine v_bipush C dX5_set_36 (v := (-13)) (by decide) ?_
        exact v_iret (rvf := fun (res : Int32 × (Nat → Nat → Int64)) => (some (.int res.1))) (wf := fun (res : Int32 × (Nat → Nat → Int64)) => (xW q cs n nd es kn knd kes img tl ta tn sl bey wt un ed kwt kun ked tb sb sz sbs G K res.2 wk wh)) C dX5_set_38 rfl rfl
    · refine v_bipush C dX5_set_20 (v := (-11)) (by decide) ?_
      exact v_iret (rvf := fun (res : Int32 × (Nat → Nat → Int64)) => (some (.int res.1))) (wf := fun (res : Int32 × (Nat → Nat → Int64)) => (xW q cs n nd es kn knd kes img tl ta tn sl bey wt un ed kwt kun ked tb sb sz sbs G K res.2 wk wh)) C dX5_set_22 rfl rfl
  · refine v_iconst C dX5_set_7 (v := (-1)) (by decide) ?_
    exact v_iret (rvf := fun (res : Int32 × (Nat → Nat → Int64)) => (some (.int res.1))) (wf := fun (res : Int32 × (Nat → Nat → Int64)) => (xW q cs n nd es kn knd kes img tl ta tn sl bey wt un ed kwt kun ked tb sb sz sbs G K res.2 wk wh)) C dX5_set_8 rfl rfl

def f_X5_get (sz : Nat → Int32) (P : Nat → Nat → Int64) (a1 : Int32) (a2 : Int32) : Option (Int64) :=
(f_X3_holds sz a1 a2 1).bind (fun (r1 : Bool) =>
if r1 = true then (
ck (inb a1 4) (
ck (inb a2 20) (
some ((P a1.toNatClampNeg) a2.toNatClampNeg)))) else (
some (-9223372036854775808)))

theorem nI_X5_get : NameIn yX5_get 2 := ⟨by decide +kernel, by decide +kernel, by decide +kernel⟩
set_option maxRecDepth 100000 in
set_option maxHeartbeats 4000000 in
theorem k_X5_get {l : Launch} {a1 : Int32} {a2 : Int32}  {res : Int64} (hq : (xA q).Nodup)  (hf : f_X5_get sz P a1 a2 = some res) : kMet l yX5_get wsX5_get { frames := 2, cells := 0, slots := 0, locals := 43 } D vwCl (xT cs) (xN tF) (xA q) [.ref (q 0), .int a1, .int a2] (xW q cs n nd es kn knd kes img tl ta tn sl bey wt un ed kwt kun ked tb sb sz sbs G K P wk wh) (some (.long res)) (xW q cs n nd es kn knd kes img tl ta tn sl bey wt un ed kwt kun ked tb sb sz sbs G K P wk wh) := by
  have iX3 : ∀ w ∈ wsX30, w ∈ wsX5_get := fun _ h => List.mem_cons_of_mem _ (List.mem_append_right _ h)
  have iX5 : ∀ w ∈ wsX50, w ∈ wsX5_get := fun _ h => List.mem_cons_of_mem _ (List.mem_append_left _ (List.mem_append_right _ h))
  refine kMet.of (cc := cX5_get) (nL := 3) (ret := (some .long)) (own := RX5) (lv := [(0, .ref (q 0)), (1, .int a1), (2, .int a2)]) (by decide +kernel) rfl rfl xN_ok hq (Nat.le_of_ble_eq_true rfl) rfl (fun X C => ?_)
  refine VF.of hf ?_
  unfold f_X5_get
  refine v_aload_n C 0 dX5_get_0 rfl ?_
  refine v_get C (T := TX5) (n := 10) (C9 := RX5) iX5 0 rfl rfl 5 (by decide) (List.mem_of_getElem? (i := 1) rfl) rfl rfl dX5_get_1 ?_
  refine v_iload_n C 1 dX5_get_4 rfl ?_
  refine v_iload_n C 2 dX5_get_5 rfl ?_
  refine v_iconst C dX5_get_6 (v := 1) (by decide) ?_
  refine v_callV3v C 5 rfl rfl rfl (fun l9 r9 h9 => k_X3_holds (l := l9) hq  h9) gX5_get_X3_holds rfl nI_X3_holds ⟨rfl, rfl, Nat.le_of_ble_eq_true rfl, Nat.le_of_ble_eq_true rfl⟩ dX5_get_7 (Nat.le_of_ble_eq_true rfl) (fun r1 => ?_)
  refine v_ifb_eq C (b := r1) dX5_get_10 (tgt := 27) (by decide) ?_ ?_
  · refine v_ldc2 C (v := (-9223372036854775808)) (List.mem_of_getElem? (i := 3) rfl) dX5_get_27 ?_
    exact v_lret (rvf := fun (res : Int64) => (some (.long res))) (wf := fun (res : Int64) => (xW q cs n nd es kn knd kes img tl ta tn sl bey wt un ed kwt kun ked tb sb sz sbs G K P wk wh)) C dX5_get_30 rfl rfl
  · refine v_aload_n C 0 dX5_get_13 rfl ?_
    refine v_get C (T := TX5) (n := 10) (C9 := RX5) iX5 0 rfl rfl 5 (by decide) (List.mem_of_getElem? (i := 1) rfl) rfl rfl dX5_get_14 ?_
    refine v_get C (T := TX3) (n := 2) (C9 := RX3) iX3 5 rfl rfl 0 (by decide) (List.mem_of_getElem? (i := 2) rfl) rfl rfl dX5_get_17 ?_
    refine v_iload_n C 1 dX5_get_20 rfl ?_
    refine v_aalda C (ad := fun j9 => q (30 + j9)) 17 3 rfl rfl (fun _ h9 => if_pos h9) dX5_get_21 (fun hb2 => ?_)
    have hj2 := inb_lt hb2
    refine v_iload_n C 2 dX5_get_22 rfl ?_
    refine v_lald C (30 + a1.toNatClampNeg) 1 (xW_P hj2) rfl dX5_get_23 ?_
    refine v_goto C dX5_get_24 (tgt := 30) (by decide) ?_
    exact v_lret (rvf := fun (res : Int64) => (some (.long res))) (wf := fun (res : Int64) => (xW q cs n nd es kn knd kes img tl ta tn sl bey wt un ed kwt kun ked tb sb sz sbs G K P wk wh)) C dX5_get_30 rfl rfl

end WK
