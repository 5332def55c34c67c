def FU : Nat := 100000
def xfac : Nat → Int32 := fun j => [1, 1, 2, 6, 24, 120, 720, 5040, 40320, 362880].getD j 0
def xW (q : Nat → Nat) (cs : Nat → ClassId) (n : Int32) (nd : Int32) (es : Int32) (kn : Int32) (knd : Int32) (kes : Int32) (img : Bool) (tl : Int32) (ta : Int32) (tn : Int64) (sl : Int32) (bey : Bool) (wt : Nat → Int32) (un : Nat → Int32) (ed : Nat → Int32) (kwt : Nat → Int32) (kun : Nat → Int32) (ked : Nat → Int32) (tb : Nat → Int32) (sb : Nat → Int32) (sz : Nat → Int32) (sbs : Nat → Int32) (G : Nat → Nat → Int64) (K : Nat → Nat → Int64) (P : Nat → Nat → Int64) (wk : Nat → Int64) (wh : Nat → Int64) : va_W := [(q 0, .inr (7, [.ref (q 1), .ref (q 2), .int (bI img), .ref (q 3), .ref (q 4), .ref (q 5), .ref (q 6), .ref (q 19), .ref (q 20), .ref (q 21)])), (q 1, .inr (2, [.int n, .int nd, .int es, .ref (q 7), .ref (q 8), .ref (q 9), .ref (q 10)])), (q 2, .inr (2, [.int kn, .int knd, .int kes, .ref (q 11), .ref (q 12), .ref (q 13), .ref (q 14)])), (q 3, .inr (6, [.ref (q 15), .int tl, .int ta, .long tn])), (q 4, .inr (4, [.ref (q 16), .int sl])), (q 5, .inr (5, [.ref (q 17), .ref (q 18)])), (q 6, .inr (3, [.int (bI bey)])), (q 7, .inl (cs 0, 9, .inl wt)), (q 8, .inl (cs 0, 9, .inl un)), (q 9, .inl (cs 0, 81, .inl ed)), (q 10, .inl (cs 3, 4, .inr (.inr (.inr (.inr (fun j => if j < 4 then some (q (22 + j)) else none)))))), (q 11, .inl (cs 0, 9, .inl kwt)), (q 12, .inl (cs 0, 9, .inl kun)), (q 13, .inl (cs 0, 81, .inl ked)), (q 14, .inl (cs 3, 4, .inr (.inr (.inr (.inr (fun j => if j < 4 then some (q (26 + j)) else none)))))), (q 15, .inl (cs 2, 120, .inl tb)), (q 16, .inl (cs 2, 256, .inl sb)), (q 17, .inl (cs 3, 4, .inr (.inr (.inr (.inr (fun j => if j < 4 then some (q (30 + j)) else none)))))), (q 18, .inl (cs 0, 4, .inl sz)), (q 19, .inl (cs 1, 512, .inr (.inl wk))), (q 20, .inl (cs 1, 9, .inr (.inl wh))), (q 21, .inl (cs 0, 8001, .inl sbs)), (q 22, .inl (cs 1, 512, .inr (.inl (G 0)))), (q 23, .inl (cs 1, 512, .inr (.inl (G 1)))), (q 24, .inl (cs 1, 512, .inr (.inl (G 2)))), (q 25, .inl (cs 1, 512, .inr (.inl (G 3)))), (q 26, .inl (cs 1, 512, .inr (.inl (K 0)))), (q 27, .inl (cs 1, 512, .inr (.inl (K 1)))), (q 28, .inl (cs 1, 512, .inr (.inl (K 2)))), (q 29, .inl (cs 1, 512, .inr (.inl (K 3)))), (q 30, .inl (cs 1, 20, .inr (.inl (P 0)))), (q 31, .inl (cs 1, 20, .inr (.inl (P 1)))), (q 32, .inl (cs 1, 20, .inr (.inl (P 2)))), (q 33, .inl (cs 1, 20, .inr (.inl (P 3))))]
def xA (q : Nat → Nat) : List Nat := [q 0, q 1, q 2, q 3, q 4, q 5, q 6, q 7, q 8, q 9, q 10, q 11, q 12, q 13, q 14, q 15, q 16, q 17, q 18, q 19, q 20, q 21, q 22, q 23, q 24, q 25, q 26, q 27, q 28, q 29, q 30, q 31, q 32, q 33]
def xT (cs : Nat → ClassId) : List (ClassId × FieldType) := [(cs 0, .int), (cs 1, .long), (cs 2, .byte), (cs 3, .array .long)]
def mW (q : Nat → Nat) (cs : Nat → ClassId) (isK : Bool) (isB : Bool) (fed : Int32) (at_ : Int32) (ltr : Int32) (ab : Int64) (ps : Nat) (g : Nat → Int64) (kp : Nat → Int64) (nx : Nat → Int64) (fa : Nat → Int64) (tp : Nat → Int32) (rs : Nat → Int32) (rv : Nat → Int64) (ct : Nat → Int32) (it : Nat → Int64) : va_W := [(q 0, .inr (8, [.ref (q 1), .ref (q 2), .ref (q 3), .ref (q 4), .int (bI isK), .int (bI isB), .ref (q 5), .ref (q 6), .ref (q 7), .int fed, .int at_, .int ltr, .long ab, .ref ps, .ref (q 8), .ref (q 9)])), (q 1, .inl (cs 1, 2231, .inr (.inl g))), (q 2, .inl (cs 1, 2231, .inr (.inl kp))), (q 3, .inl (cs 1, 512, .inr (.inl nx))), (q 4, .inl (cs 1, 10, .inr (.inl fa))), (q 5, .inl (cs 0, 120, .inl tp)), (q 6, .inl (cs 0, 120, .inl rs)), (q 7, .inl (cs 1, 120, .inr (.inl rv))), (q 8, .inl (cs 0, 4, .inl ct)), (q 9, .inl (cs 1, 80, .inr (.inl it)))]
def mA (q : Nat → Nat) : List Nat := [q 0, q 1, q 2, q 3, q 4, q 5, q 6, q 7, q 8, q 9]
def mT (cs : Nat → ClassId) : List (ClassId × FieldType) := [(cs 0, .int), (cs 1, .long)]
section XF
variable {q : Nat → Nat} {cs : Nat → ClassId} {n : Int32} {nd : Int32} {es : Int32} {kn : Int32} {knd : Int32} {kes : Int32} {img : Bool} {tl : Int32} {ta : Int32} {tn : Int64} {sl : Int32} {bey : Bool} {wt : Nat → Int32} {un : Nat → Int32} {ed : Nat → Int32} {kwt : Nat → Int32} {kun : Nat → Int32} {ked : Nat → Int32} {tb : Nat → Int32} {sb : Nat → Int32} {sz : Nat → Int32} {sbs : Nat → Int32} {G : Nat → Nat → Int64} {K : Nat → Nat → Int64} {P : Nat → Nat → Int64} {wk : Nat → Int64} {wh : Nat → Int64}
theorem xW_G {j : Nat} (h : j < 4) : (xW q cs n nd es kn knd kes img tl ta tn sl bey wt un ed kwt kun ked tb sb sz sbs G K P wk wh)[22 + j]? = some (q (22 + j), .inl (cs 1, 512, .inr (.inl (G j)))) := by
  match j, h with
  | 0, _ => rfl
  | 1, _ => rfl
  | 2, _ => rfl
  | 3, _ => rfl
theorem xW_G_set {j : Nat} {F : Nat → Int64} (h : j < 4) : (xW q cs n nd es kn knd kes img tl ta tn sl bey wt un ed kwt kun ked tb sb sz sbs G K P wk wh).set (22 + j) (q (22 + j), .inl (cs 1, 512, .inr (.inl F))) = xW q cs n nd es kn knd kes img tl ta tn sl bey wt un ed kwt kun ked tb sb sz sbs (va_up G j F) K P wk wh := by
  match j, h with
  | 0, _ => rfl
  | 1, _ => rfl
  | 2, _ => rfl
  | 3, _ => rfl
theorem xW_K {j : Nat} (h : j < 4) : (xW q cs n nd es kn knd kes img tl ta tn sl bey wt un ed kwt kun ked tb sb sz sbs G K P wk wh)[26 + j]? = some (q (26 + j), .inl (cs 1, 512, .inr (.inl (K j)))) := by
  match j, h with
  | 0, _ => rfl
  | 1, _ => rfl
  | 2, _ => rfl
  | 3, _ => rfl
theorem xW_K_set {j : Nat} {F : Nat → Int64} (h : j < 4) : (xW q cs n nd es kn knd kes img tl ta tn sl bey wt un ed kwt kun ked tb sb sz sbs G K P wk wh).set (26 + j) (q (26 + j), .inl (cs 1, 512, .inr (.inl F))) = xW q cs n nd es kn knd kes img tl ta tn sl bey wt un ed kwt kun ked tb sb sz sbs G (va_up K j F) P wk wh := by
  match j, h with
  | 0, _ => rfl
  | 1, _ => rfl
  | 2, _ => rfl
  | 3, _ => rfl
theorem xW_P {j : Nat} (h : j < 4) : (xW q cs n nd es kn knd kes img tl ta tn sl bey wt un ed kwt kun ked tb sb sz sbs G K P wk wh)[30 + j]? = some (q (30 + j), .inl (cs 1, 20, .inr (.inl (P j)))) := by
  match j, h with
  | 0, _ => rfl
  | 1, _ => rfl
  | 2, _ => rfl
  | 3, _ => rfl
theorem xW_P_set {j : Nat} {F : Nat → Int64} (h : j < 4) : (xW q cs n nd es kn knd kes img tl ta tn sl bey wt un ed kwt kun ked tb sb sz sbs G K P wk wh).set (30 + j) (q (30 + j), .inl (cs 1, 20, .inr (.inl F))) = xW q cs n nd es kn knd kes img tl ta tn sl bey wt un ed kwt kun ked tb sb sz sbs G K (va_up P j F) wk wh := by
  match j, h with
  | 0, _ => rfl
  | 1, _ => rfl
  | 2, _ => rfl
  | 3, _ => rfl
end XF
def xN (tF : Nat) : (Nat → Prop) → State → Prop := fun A U => va_Z "PartnerWorth" "FACTORIALS" "[I" (.ref tF) A U U.heap ∧ va_T .int tF 10 (fun j => .int (xfac j)) A U U.heap ∧ va_Nw (.methodLinkNest RX0 59 yX5_has "PartnerWorth") U ∧ va_Nw (.methodLinkNest RX0 63 yX5_leastOf "PartnerWorth") U ∧ va_Nw (.methodLinkNest RX0 88 yX5_edgePlace "PartnerWorth") U ∧ va_Nw (.methodLinkNest RX3 20 yX5_isRow "PartnerWorth") U
theorem xN_Z {tF : Nat} {A : Nat → Prop} {U : State} (h : xN tF A U) : va_Z "PartnerWorth" "FACTORIALS" "[I" (.ref tF) A U U.heap := h.1
theorem xN_T {tF : Nat} {A : Nat → Prop} {U : State} (h : xN tF A U) : va_T .int tF 10 (fun j => .int (xfac j)) A U U.heap := h.2.1
theorem xN_X0_59 {tF : Nat} {A : Nat → Prop} {U : State} (h : xN tF A U) : va_Nw (.methodLinkNest RX0 59 yX5_has "PartnerWorth") U := h.2.2.1
theorem xN_X0_63 {tF : Nat} {A : Nat → Prop} {U : State} (h : xN tF A U) : va_Nw (.methodLinkNest RX0 63 yX5_leastOf "PartnerWorth") U := h.2.2.2.1
theorem xN_X0_88 {tF : Nat} {A : Nat → Prop} {U : State} (h : xN tF A U) : va_Nw (.methodLinkNest RX0 88 yX5_edgePlace "PartnerWorth") U := h.2.2.2.2.1
theorem xN_X3_20 {tF : Nat} {A : Nat → Prop} {U : State} (h : xN tF A U) : va_Nw (.methodLinkNest RX3 20 yX5_isRow "PartnerWorth") U := h.2.2.2.2.2
theorem xN_ok {tF : Nat} : NOK (xN tF) := by
  refine ⟨fun A U g mk a h => ?_, fun A B s U h hW hk hB => ?_⟩
  · obtain ⟨z, t, w0, w1, w2, w3⟩ := h
    exact ⟨va_Z.moved (u := U) (U := U.calling g mk a) (Vm.Alike.refl U.vm) z, va_T.moved (u := U) (U := U.calling g mk a) (Vm.Alike.refl U.vm) t, va_Nw.same rfl (u := U) (U := U.calling g mk a) rfl w0, va_Nw.same rfl (u := U) (U := U.calling g mk a) rfl w1, va_Nw.same rfl (u := U) (U := U.calling g mk a) rfl w2, va_Nw.same rfl (u := U) (U := U.calling g mk a) rfl w3⟩
  · obtain ⟨z, t, w0, w1, w2, w3⟩ := h
    exact ⟨((va_Z.moved hW.alike z).kept hk).narrow hB, ((va_T.moved hW.alike t).kept hk).narrow hB, va_Nw.warmM hW w0, va_Nw.warmM hW w1, va_Nw.warmM hW w2, va_Nw.warmM hW w3⟩
theorem nI_J7_fill_53178 : NameIn yJ7_fill_53178 2 := ⟨by decide +kernel, by decide +kernel, by decide +kernel⟩
def B_filli (n : Nat) (v : Int32) (rec : Int32 → (Nat → Int32) → Option (Nat → Int32)) (i : Int32) (F : Nat → Int32) : Option (Nat → Int32) :=
  if i < nI n then (ck (inb i n) (nm (upd F i.toNatClampNeg v) (fun (F9 : Nat → Int32) => nm (i + 1) (fun (i9 : Int32) => rec i9 F9)))) else some F
def L_filli (n : Nat) (v : Int32) : Nat → Int32 → (Nat → Int32) → Option (Nat → Int32)
  | 0, _, _ => none
  | m9 + 1, i, F => B_filli n v (L_filli n v m9) i F
def f_filli (f : Nat → Int32) (v : Int32) (n : Nat) : Option (Nat → Int32) := L_filli n v FU 0 f
set_option maxRecDepth 100000 in
set_option maxHeartbeats 4000000 in
theorem lp_filli {X : CX} {D : va_G} {cA : ClassId} {a n : Nat} {v : Int32} {res : Nat → Int32} (C : Ok X cJ7_fill_53178 4 none wsJ7_fill_53178 RJ7 { frames := 0, cells := 0, slots := 0, locals := 0 } D [] [(cA, .int)] [a] NT none [(a, .inl (cA, n, .inl res))]) : ∀ (fuel : Nat) (i : Int32) (F : Nat → Int32), VF X res (L_filli n v fuel i F) [(a, .inl (cA, n, .inl F))] 5 [(3, .int (nI n)), (2, .int i), (0, .ref a), (1, .int v)] [] := by
  intro fuel
  induction fuel with
  | zero => intro _ _; exact v_none
  | succ fuel ih =>
    intro i F
    show VF X res (B_filli n v (L_filli n v fuel) i F) _ _ _ _
    unfold B_filli
    refine v_iload_n C 1 dJ7_fill_53178_5 rfl ?_
    refine v_iload_n C 0 dJ7_fill_53178_6 rfl ?_
    refine v_icmp_ge C dJ7_fill_53178_7 (tgt := 20) (by decide) ?_ ?_
    · exact v_vret (rvf := fun _ => none) (wf := fun res => [(a, .inl (cA, n, .inl res))]) C dJ7_fill_53178_20 rfl rfl
    · refine v_aload_n C 2 dJ7_fill_53178_10 rfl ?_
      refine v_iload_n C 1 dJ7_fill_53178_11 rfl ?_
      refine v_iload_n C 3 dJ7_fill_53178_12 rfl ?_
      refine v_iast_nm C (fun F9 => [(a, .inl (cA, n, .inl F9))]) 0 0 rfl rfl rfl (fun _ => rfl) dJ7_fill_53178_13 (fun F9 => ?_)
      refine v_iinc_nm C (lvf := fun i9 => [(2, .int i9), (3, .int (nI n)), (0, .ref a), (1, .int v)]) 1 dJ7_fill_53178_14 rfl rfl (by decide) (fun _ => rfl) (fun i9 => ?_)
      refine v_goto C dJ7_fill_53178_17 (tgt := 5) (by decide) ?_
      exact v_sub [1, 0, 2, 3] rfl (ih i9 F9)
set_option maxRecDepth 100000 in
set_option maxHeartbeats 4000000 in
theorem k_filli {l : Launch} {D : va_G} {cA : ClassId} {a n : Nat} {v : Int32} {f res : Nat → Int32} (hn : n < 2 ^ 31) (hf : f_filli f v n = some res) : kMet l yJ7_fill_53178 wsJ7_fill_53178 { frames := 0, cells := 0, slots := 0, locals := 0 } D [] [(cA, .int)] NT [a] [.ref a, .int v] [(a, .inl (cA, n, .inl f))] none [(a, .inl (cA, n, .inl res))] := by
  refine kMet.of (cc := cJ7_fill_53178) (nL := 4) (ret := none) (own := RJ7) (lv := [(0, .ref a), (1, .int v)]) (by decide +kernel) rfl rfl NT_ok (List.nodup_cons.mpr ⟨List.not_mem_nil, List.nodup_nil⟩) (Nat.le_of_ble_eq_true rfl) rfl (fun X C => ?_)
  refine VF.of hf ?_
  unfold f_filli
  refine v_iconst C dJ7_fill_53178_0 (v := 0) (by decide) ?_
  refine v_istore_n C (lv' := [(2, .int 0), (0, .ref a), (1, .int v)]) dJ7_fill_53178_1 rfl (by decide) rfl ?_
  refine v_aload_n C 1 dJ7_fill_53178_2 rfl ?_
  refine v_alen C (v := nI n) 0 0 rfl rfl rfl dJ7_fill_53178_3 ?_
  refine v_istore_n C (lv' := [(3, .int (nI n)), (2, .int 0), (0, .ref a), (1, .int v)]) dJ7_fill_53178_4 rfl (by decide) rfl ?_
  exact lp_filli C FU 0 f
theorem nI_J7_fill_d0a16 : NameIn yJ7_fill_d0a16 2 := ⟨by decide +kernel, by decide +kernel, by decide +kernel⟩
def B_filll (n : Nat) (v : Int64) (rec : Int32 → (Nat → Int64) → Option (Nat → Int64)) (i : Int32) (F : Nat → Int64) : Option (Nat → Int64) :=
  if i < nI n then (ck (inb i n) (nm (vp_updL F i.toNatClampNeg v) (fun (F9 : Nat → Int64) => nm (i + 1) (fun (i9 : Int32) => rec i9 F9)))) else some F
def L_filll (n : Nat) (v : Int64) : Nat → Int32 → (Nat → Int64) → Option (Nat → Int64)
  | 0, _, _ => none
  | m9 + 1, i, F => B_filll n v (L_filll n v m9) i F
def f_filll (f : Nat → Int64) (v : Int64) (n : Nat) : Option (Nat → Int64) := L_filll n v FU 0 f
set_option maxRecDepth 100000 in
set_option maxHeartbeats 4000000 in
theorem lp_filll {X : CX} {D : va_G} {cA : ClassId} {a n : Nat} {v : Int64} {res : Nat → Int64} (C : Ok X cJ7_fill_d0a16 5 none wsJ7_fill_d0a16 RJ7 { frames := 0, cells := 0, slots := 0, locals := 0 } D [] [(cA, .long)] [a] NT none [(a, .inl (cA, n, .inr (.inl res)))]) : ∀ (fuel : Nat) (i : Int32) (F : Nat → Int64), VF X res (L_filll n v fuel i F) [(a, .inl (cA, n, .inr (.inl F)))] 6 [(4, .int (nI n)), (3, .int i), (0, .ref a), (1, .long v)] [] := by
  intro fuel
  induction fuel with
  | zero => intro _ _; exact v_none
  | succ fuel ih =>
    intro i F
    show VF X res (B_filll n v (L_filll n v fuel) i F) _ _ _ _
    unfold B_filll
    refine v_iload_n C 1 dJ7_fill_d0a16_6 rfl ?_
    refine v_iload C 0 dJ7_fill_d0a16_7 rfl ?_
    refine v_icmp_ge C dJ7_fill_d0a16_9 (tgt := 22) (by decide) ?_ ?_
    · exact v_vret (rvf := fun _ => none) (wf := fun res => [(a, .inl (cA, n, .inr (.inl res)))]) C dJ7_fill_d0a16_22 rfl rfl
    · refine v_aload_n C 2 dJ7_fill_d0a16_12 rfl ?_
      refine v_iload_n C 1 dJ7_fill_d0a16_13 rfl ?_
      refine v_lload_n C 3 dJ7_fill_d0a16_14 rfl ?_
      refine v_last_nm C (fun F9 => [(a, .inl (cA, n, .inr (.inl F9)))]) 0 0 rfl rfl rfl (fun _ => rfl) dJ7_fill_d0a16_15 (fun F9 => ?_)
      refine v_iinc_nm C (lvf := fun i9 => [(3, .int i9), (4, .int (nI n)), (0, .ref a), (1, .long v)]) 1 dJ7_fill_d0a16_16 rfl rfl (by decide) (fun _ => rfl) (fun i9 => ?_)
      refine v_goto C dJ7_fill_d0a16_19 (tgt := 6) (by decide) ?_
      exact v_sub [1, 0, 2, 3] rfl (ih i9 F9)
set_option maxRecDepth 100000 in
set_option maxHeartbeats 4000000 in
theorem k_filll {l : Launch} {D : va_G} {cA : ClassId} {a n : Nat} {v : Int64} {f res : Nat → Int64} (hn : n < 2 ^ 31) (hf : f_filll f v n = some res) : kMet l yJ7_fill_d0a16 wsJ7_fill_d0a16 { frames := 0, cells := 0, slots := 0, locals := 0 } D [] [(cA, .long)] NT [a] [.ref a, .long v] [(a, .inl (cA, n, .inr (.inl f)))] none [(a, .inl (cA, n, .inr (.inl res)))] := by
  refine kMet.of (cc := cJ7_fill_d0a16) (nL := 5) (ret := none) (own := RJ7) (lv := [(0, .ref a), (1, .long v)]) (by decide +kernel) rfl rfl NT_ok (List.nodup_cons.mpr ⟨List.not_mem_nil, List.nodup_nil⟩) (Nat.le_of_ble_eq_true rfl) rfl (fun X C => ?_)
  refine VF.of hf ?_
  unfold f_filll
  refine v_iconst C dJ7_fill_d0a16_0 (v := 0) (by decide) ?_
  refine v_istore_n C (lv' := [(3, .int 0), (0, .ref a), (1, .long v)]) dJ7_fill_d0a16_1 rfl (by decide) rfl ?_
  refine v_aload_n C 1 dJ7_fill_d0a16_2 rfl ?_
  refine v_alen C (v := nI n) 0 0 rfl rfl rfl dJ7_fill_d0a16_3 ?_
  refine v_istore C (lv' := [(4, .int (nI n)), (3, .int 0), (0, .ref a), (1, .long v)]) dJ7_fill_d0a16_4 (by decide) rfl ?_
  exact lp_filll C FU 0 f
