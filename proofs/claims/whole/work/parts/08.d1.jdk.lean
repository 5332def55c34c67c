/-! THE JDK: String, StringBuilder (Latin-1). -/
abbrev sN (a b n : Nat) (f : Nat → Int32) : (Nat → Prop) → State → Prop := fun A U => cS A U ∧ rS a b n f A U
theorem sN_ok {a b n : Nat} {f : Nat → Int32} : NOK (sN a b n f) := NOK.and cS_ok rS_ok
abbrev cQ (a b n : Nat) (f : Nat → Int32) : (Nat → Prop) → State → Prop := fun A U => sN a b n f A U ∧ qS A U
theorem cQ_ok {a b n : Nat} {f : Nat → Int32} : NOK (cQ a b n f) := NOK.and sN_ok qS_ok
abbrev cD (tO tT : Nat) : (Nat → Prop) → State → Prop := fun A U => cS A U ∧ dN tO tT A U
theorem cD_ok {tO tT : Nat} : NOK (cD tO tT) := NOK.and cS_ok dN_ok
def nC : (Nat → Prop) → State → Prop := fun _ U => va_Nw (.castable "[B" "java/lang/Cloneable") U
theorem nC_ok : NOK nC := ⟨fun A U g mk a h => va_Nw.same rfl (u := U) (U := U.calling g mk a) rfl h, fun A B s U h hW hk hB => va_Nw.warmC hW h⟩
abbrev tS : (Nat → Prop) → State → Prop := fun A U => cS A U ∧ nC A U
theorem tS_ok : NOK tS := NOK.and cS_ok nC_ok
theorem nle_nI {a b : Nat} (h : b < a) (ha : a < 2 ^ 31) : ¬ nI a ≤ nI b := Int32.not_le.mpr ((nI_ltI (by omega) ha).mpr h)
theorem nlt_nI {a b : Nat} (h : b ≤ a) (ha : a < 2 ^ 31) : ¬ nI a < nI b := fun z => by
  have := (nI_ltI ha (by omega)).mp z
  omega
theorem ne_nI {a b : Nat} (h : a ≠ b) (ha : a < 2 ^ 31) (hb : b < 2 ^ 31) : nI a ≠ nI b := fun z => h ((nI_eq ha hb).mp z)
theorem iMax_n2 {a b : Nat} (ha : a < 2 ^ 31) (hb : b < 2 ^ 31) : iMax (nI a) (nI b) = nI (max a b) := by
  unfold iMax
  by_cases h : a < b
  · rw [if_pos ((nI_ltI ha hb).mpr h), Nat.max_eq_right (by omega)]
  · rw [if_neg (fun z => h ((nI_ltI ha hb).mp z)), Nat.max_eq_left (by omega)]
theorem iMin_n2 {a b : Nat} (ha : a < 2 ^ 31) (hb : b < 2 ^ 31) : iMin (nI a) (nI b) = nI (min a b) := by
  unfold iMin
  by_cases h : b < a
  · rw [if_pos ((nI_ltI hb ha).mpr h), Nat.min_eq_right (by omega)]
  · rw [if_neg (fun z => h ((nI_ltI hb ha).mp z)), Nat.min_eq_left (by omega)]
theorem nd1 {a : Nat} : [a].Nodup := List.nodup_cons.mpr ⟨List.not_mem_nil, List.nodup_nil⟩
theorem nd2 {a b : Nat} (h : a ≠ b) : [a, b].Nodup := List.nodup_cons.mpr ⟨fun z => h (List.mem_singleton.mp z), nd1⟩
theorem nI_J0_coder_7d493 : NameIn yJ0_coder_7d493 0 := ⟨by decide +kernel, by decide +kernel, by decide +kernel⟩
set_option maxRecDepth 100000 in
set_option maxHeartbeats 4000000 in
theorem aJ0_coder {l : Launch} {D : va_G} {a b n : Nat} {g : Nat → Int32} {tys : List (ClassId × FieldType)}  : aMet l yJ0_coder_7d493 wsJ0_coder_7d493 { frames := 0, cells := 0, slots := 0, locals := 0 } D vwCl tys (sN a b n g) [] [.ref a] [] 0 0 (fun r u => r = some (.int 0) ∧ u = []) := by
  refine aMet.of (cc := cJ0_coder_7d493) (nL := 1) (ret := (some .byte)) (own := RJ0) (lv := [(0, .ref a)]) (by decide +kernel) rfl rfl sN_ok (Nat.le_of_ble_eq_true rfl) rfl (fun X C hE hI9 => ?_)
  refine bv_gets C (fun _ _ h => h.1) (List.mem_of_getElem? (i := 1) rfl) rfl dJ0_coder_7d493_0 ?_
  refine bv_if_eq_f C 13 dJ0_coder_7d493_3 (by decide) (by decide) ?_
  refine bv_aload_n C 0 dJ0_coder_7d493_6 rfl ?_
  refine bv_getr C (fun _ _ h => h.2.2.1) (List.mem_of_getElem? (i := 2) rfl) rfl dJ0_coder_7d493_7 ?_
  refine bv_goto C dJ0_coder_7d493_10 (tgt := 14) (by decide) ?_
  exact bv_zret C hE rfl (Nat.le_of_ble_eq_true rfl) (Nat.le_of_ble_eq_true rfl) ⟨rfl, rfl⟩ dJ0_coder_7d493_14

theorem kJ0_coder {l : Launch} {D : va_G} {a b n : Nat} {g : Nat → Int32} {tys : List (ClassId × FieldType)}  : kMet l yJ0_coder_7d493 wsJ0_coder_7d493 { frames := 0, cells := 0, slots := 0, locals := 0 } D vwCl tys (sN a b n g) [] [.ref a] [] (some (.int 0)) [] := aMet.k (aJ0_coder ) rfl List.nodup_nil
theorem nI_J0_length_8abf5 : NameIn yJ0_length_8abf5 0 := ⟨by decide +kernel, by decide +kernel, by decide +kernel⟩
set_option maxRecDepth 100000 in
set_option maxHeartbeats 4000000 in
theorem aJ0_length {l : Launch} {D : va_G} {a b n : Nat} {g : Nat → Int32} {tys : List (ClassId × FieldType)}  : aMet l yJ0_length_8abf5 wsJ0_length_8abf5 { frames := 1, cells := 0, slots := 0, locals := 20 } D vwCl tys (sN a b n g) [] [.ref a] [] 0 0 (fun r u => r = some (.int (nI n)) ∧ u = []) := by
  refine aMet.of (cc := cJ0_length_8abf5) (nL := 1) (ret := (some .int)) (own := RJ0) (lv := [(0, .ref a)]) (by decide +kernel) rfl rfl sN_ok (Nat.le_of_ble_eq_true rfl) rfl (fun X C hE hI9 => ?_)
  refine bv_aload_n C 0 dJ0_length_8abf5_0 rfl ?_
  refine bv_getr C (fun _ _ h => h.2.2.2.1) (List.mem_of_getElem? (i := 1) rfl) rfl dJ0_length_8abf5_1 ?_
  refine bv_tlen C (v := nI n) (fun _ _ h => h.2.2.2.2) rfl dJ0_length_8abf5_4 ?_
  refine bv_aload_n C 0 dJ0_length_8abf5_5 rfl ?_
  refine bv_kVr C (As := []) (st := [.int (nI n)]) (wc := []) (wr := []) (isC := []) (isR := []) (wc' := []) (rvc := some (.int 0)) (fun l9 => kJ0_coder) rfl ⟨rfl, rfl, rfl, rfl, by decide⟩ rfl (fun _ h => h) (NTo.of (wc := []) sN_ok (fun _ _ h => h) [] rfl rfl) sN_ok gJ0_length_8abf5_J0_coder_7d493 (fun _ _ h => h.2.1) rfl nI_J0_coder_7d493 ⟨rfl, rfl, (Nat.le_of_ble_eq_true rfl), (Nat.le_of_ble_eq_true rfl), (Nat.le_of_ble_eq_true rfl), (Nat.le_of_ble_eq_true rfl)⟩ dJ0_length_8abf5_6 (Nat.le_of_ble_eq_true rfl) rfl ?_
  refine bv_eqw (w1 := []) rfl ?_
  refine bv_ishr C dJ0_length_8abf5_9 (v := (nI n)) (sb_shr0 _) ?_
  exact bv_iret C hE (Nat.le_of_ble_eq_true rfl) (Nat.le_of_ble_eq_true rfl) ⟨rfl, rfl⟩ dJ0_length_8abf5_10

theorem kJ0_length {l : Launch} {D : va_G} {a b n : Nat} {g : Nat → Int32} {tys : List (ClassId × FieldType)}  : kMet l yJ0_length_8abf5 wsJ0_length_8abf5 { frames := 1, cells := 0, slots := 0, locals := 20 } D vwCl tys (sN a b n g) [] [.ref a] [] (some (.int (nI n))) [] := aMet.k (aJ0_length ) rfl List.nodup_nil
theorem nI_J5_isLatin1_aae02 : NameIn yJ5_isLatin1_aae02 0 := ⟨by decide +kernel, by decide +kernel, by decide +kernel⟩
set_option maxRecDepth 100000 in
set_option maxHeartbeats 4000000 in
theorem aJ5_isLatin1 {l : Launch} {D : va_G} {cB : ClassId} {sb vb : Nat} {ml cnt : Int32}  : aMet l yJ5_isLatin1_aae02 wsJ5_isLatin1_aae02 { frames := 0, cells := 0, slots := 0, locals := 0 } D vwCl [(cB, .byte)] cS [sb] [.ref sb] [(sb, .inr (1, [.ref vb, .int 0, .int ml, .int cnt]))] 0 0 (fun r u => r = some (.int 1) ∧ u = [(sb, .inr (1, [.ref vb, .int 0, .int ml, .int cnt]))]) := by
  have iJ4 : ∀ w ∈ wsJ40, w ∈ wsJ5_isLatin1_aae02 := fun _ h => List.mem_cons_of_mem _ (List.mem_append_right _ h)
  refine aMet.of (cc := cJ5_isLatin1_aae02) (nL := 1) (ret := (some .boolean)) (own := RJ5) (lv := [(0, .ref sb)]) (by decide +kernel) rfl rfl cS_ok (Nat.le_of_ble_eq_true rfl) rfl (fun X C hE hI9 => ?_)
  refine bv_gets C (fun _ _ h => h) (List.mem_of_getElem? (i := 1) rfl) rfl dJ5_isLatin1_aae02_0 ?_
  refine bv_if_eq_f C 17 dJ5_isLatin1_aae02_3 (by decide) (by decide) ?_
  refine bv_aload_n C 0 dJ5_isLatin1_aae02_6 rfl ?_
  refine bv_get C (T := TJ4) (n := 4) (C9 := RJ4) iJ4 0 rfl rfl 1 (by decide) (List.mem_of_getElem? (i := 2) rfl) rfl rfl dJ5_isLatin1_aae02_7 ?_
  refine bv_if_ne_f C 17 dJ5_isLatin1_aae02_10 (by decide) rfl ?_
  refine bv_iconst C dJ5_isLatin1_aae02_13 (v := 1) (by decide) ?_
  refine bv_goto C dJ5_isLatin1_aae02_14 (tgt := 18) (by decide) ?_
  exact bv_zret C hE rfl (Nat.le_of_ble_eq_true rfl) (Nat.le_of_ble_eq_true rfl) ⟨rfl, rfl⟩ dJ5_isLatin1_aae02_18

theorem kJ5_isLatin1 {l : Launch} {D : va_G} {cB : ClassId} {sb vb : Nat} {ml cnt : Int32}  : kMet l yJ5_isLatin1_aae02 wsJ5_isLatin1_aae02 { frames := 0, cells := 0, slots := 0, locals := 0 } D vwCl [(cB, .byte)] cS [sb] [.ref sb] [(sb, .inr (1, [.ref vb, .int 0, .int ml, .int cnt]))] (some (.int 1)) [(sb, .inr (1, [.ref vb, .int 0, .int ml, .int cnt]))] := aMet.k (aJ5_isLatin1 ) rfl nd1
theorem nI_J8_newLength_cabcc : NameIn yJ8_newLength_cabcc 3 := ⟨by decide +kernel, by decide +kernel, by decide +kernel⟩
set_option maxRecDepth 100000 in
set_option maxHeartbeats 4000000 in
theorem aJ8_newLength {l : Launch} {D : va_G} {m g p : Nat} (h0 : 0 < m + max g p) (h1 : m + max g p ≤ 65536) : aMet l yJ8_newLength_cabcc wsJ8_newLength_cabcc { frames := 1, cells := 0, slots := 0, locals := 23 } D [] [] NT [] [.int (nI m), .int (nI g), .int (nI p)] [] 0 0 (fun r u => r = some (.int (nI (m + max g p))) ∧ u = []) := by
  refine aMet.of (cc := cJ8_newLength_cabcc) (nL := 4) (ret := (some .int)) (own := RJ8) (lv := [(0, .int (nI m)), (1, .int (nI g)), (2, .int (nI p))]) (by decide +kernel) rfl rfl NT_ok (Nat.le_of_ble_eq_true rfl) rfl (fun X C hE hI9 => ?_)
  refine bv_iload_n C 0 dJ8_newLength_cabcc_0 rfl ?_
  refine bv_iload_n C 1 dJ8_newLength_cabcc_1 rfl ?_
  refine bv_iload_n C 2 dJ8_newLength_cabcc_2 rfl ?_
  refine bv_mmax C (v := (nI (max g p))) (List.mem_of_getElem? (i := 1) rfl) (List.mem_of_getElem? (i := 2) rfl) (List.mem_of_getElem? (i := 3) rfl) (List.mem_of_getElem? (i := 4) rfl) (Nat.le_of_ble_eq_true rfl) (Nat.le_of_ble_eq_true rfl) (Nat.zero_le _) (Nat.zero_le _) (iMax_n2 (by omega) (by omega)) dJ8_newLength_cabcc_3 ?_
  refine bv_iadd C dJ8_newLength_cabcc_6 (v := (nI (m + max g p))) (nI_add _ _) ?_
  refine bv_istore_n C (lv' := [(3, .int (nI (m + max g p))), (0, .int (nI m)), (1, .int (nI g)), (2, .int (nI p))]) dJ8_newLength_cabcc_7 rfl (by decide) rfl ?_
  refine bv_iconst C dJ8_newLength_cabcc_8 (v := 0) (by decide) ?_
  refine bv_iload_n C 0 dJ8_newLength_cabcc_9 rfl ?_
  refine bv_icmp_ge_f C 21 dJ8_newLength_cabcc_10 (by decide) (nle_nI (b := 0) (by omega) (by omega)) ?_
  refine bv_iload_n C 0 dJ8_newLength_cabcc_13 rfl ?_
  refine bv_ldc C (v := 2147483639) (List.mem_of_getElem? (i := 5) rfl) dJ8_newLength_cabcc_14 ?_
  refine bv_icmp_gt_f C 21 dJ8_newLength_cabcc_16 (by decide) (nlt_nI (a := 2147483639) (by omega) (by omega)) ?_
  refine bv_iload_n C 0 dJ8_newLength_cabcc_19 rfl ?_
  exact bv_iret C hE (Nat.le_of_ble_eq_true rfl) (Nat.le_of_ble_eq_true rfl) ⟨rfl, rfl⟩ dJ8_newLength_cabcc_20

theorem kJ8_newLength {l : Launch} {m g p : Nat} (h0 : 0 < m + max g p) (h1 : m + max g p ≤ 65536) : pMet l yJ8_newLength_cabcc wsJ8_newLength_cabcc { frames := 1, cells := 0, slots := 0, locals := 23 } [.int (nI m), .int (nI g), .int (nI p)] (some (.int (nI (m + max g p)))) := fun D => aMet.k (aJ8_newLength (D := D) h0 h1) rfl List.nodup_nil
theorem nI_J5_newCapacity_0f7a4 : NameIn yJ5_newCapacity_0f7a4 1 := ⟨by decide +kernel, by decide +kernel, by decide +kernel⟩
set_option maxRecDepth 100000 in
set_option maxHeartbeats 4000000 in
theorem aJ5_newCapacity {l : Launch} {D : va_G} {cB : ClassId} {sb vb m q : Nat} {ml cnt : Int32} {f : Nat → Int32} (h : m < q) (hq : q ≤ 30000) (hne : sb ≠ vb) : aMet l yJ5_newCapacity_0f7a4 wsJ5_newCapacity_0f7a4 { frames := 2, cells := 0, slots := 0, locals := 46 } D vwCl [(cB, .byte)] NT [sb, vb] [.ref sb, .int (nI q)] [(sb, .inr (1, [.ref vb, .int 0, .int ml, .int cnt])), (vb, .inl (cB, m, .inl f))] 0 0 (fun r u => r = some (.int (nI (sb_cap q m))) ∧ u = [(sb, .inr (1, [.ref vb, .int 0, .int ml, .int cnt])), (vb, .inl (cB, m, .inl f))]) := by
  have hc : sb_cap q m = m + max (q - m) (m + 2) := by
    unfold sb_cap
    rw [if_neg (by omega)]
    split <;> omega
  have hcb : sb_cap q m ≤ 65536 := by omega
  have iJ4 : ∀ w ∈ wsJ40, w ∈ wsJ5_newCapacity_0f7a4 := fun _ h => List.mem_cons_of_mem _ (List.mem_append_right _ h)
  refine aMet.of (cc := cJ5_newCapacity_0f7a4) (nL := 6) (ret := (some .int)) (own := RJ5) (lv := [(0, .ref sb), (1, .int (nI q))]) (by decide +kernel) rfl rfl NT_ok (Nat.le_of_ble_eq_true rfl) rfl (fun X C hE hI9 => ?_)
  refine bv_aload_n C 0 dJ5_newCapacity_0f7a4_0 rfl ?_
  refine bv_get C (T := TJ4) (n := 4) (C9 := RJ4) iJ4 0 rfl rfl 0 (by decide) (List.mem_of_getElem? (i := 1) rfl) rfl rfl dJ5_newCapacity_0f7a4_1 ?_
  refine bv_alen C (v := nI m) 1 0 rfl rfl rfl dJ5_newCapacity_0f7a4_4 ?_
  refine bv_istore_n C (lv' := [(2, .int (nI m)), (0, .ref sb), (1, .int (nI q))]) dJ5_newCapacity_0f7a4_5 rfl (by decide) rfl ?_
  refine bv_iload_n C 2 dJ5_newCapacity_0f7a4_6 rfl ?_
  refine bv_aload_n C 1 dJ5_newCapacity_0f7a4_7 rfl ?_
  refine bv_get C (T := TJ4) (n := 4) (C9 := RJ4) iJ4 0 rfl rfl 1 (by decide) (List.mem_of_getElem? (i := 2) rfl) rfl rfl dJ5_newCapacity_0f7a4_8 ?_
  refine bv_ishl C dJ5_newCapacity_0f7a4_11 (v := (nI q)) (sb_shl0 _) ?_
  refine bv_istore_n C (lv' := [(3, .int (nI q)), (2, .int (nI m)), (0, .ref sb), (1, .int (nI q))]) dJ5_newCapacity_0f7a4_12 rfl (by decide) rfl ?_
  refine bv_iload_n C 0 dJ5_newCapacity_0f7a4_13 rfl ?_
  refine bv_iload_n C 1 dJ5_newCapacity_0f7a4_14 rfl ?_
  refine bv_isub C dJ5_newCapacity_0f7a4_15 (v := (nI (q - m))) (pk_sub (by omega)) ?_
  refine bv_istore C (lv' := [(4, .int (nI (q - m))), (3, .int (nI q)), (2, .int (nI m)), (0, .ref sb), (1, .int (nI q))]) dJ5_newCapacity_0f7a4_16 (by decide) rfl ?_
  refine bv_iload_n C 2 dJ5_newCapacity_0f7a4_18 rfl ?_
  refine bv_iload C 0 dJ5_newCapacity_0f7a4_19 rfl ?_
  refine bv_iload_n C 2 dJ5_newCapacity_0f7a4_21 rfl ?_
  refine bv_iconst C dJ5_newCapacity_0f7a4_22 (v := 2) (by decide) ?_
  refine bv_aload_n C 3 dJ5_newCapacity_0f7a4_23 rfl ?_
  refine bv_get C (T := TJ4) (n := 4) (C9 := RJ4) iJ4 0 rfl rfl 1 (by decide) (List.mem_of_getElem? (i := 2) rfl) rfl rfl dJ5_newCapacity_0f7a4_24 ?_
  refine bv_ishl C dJ5_newCapacity_0f7a4_27 (v := 2) (sb_shl0 _) ?_
  refine bv_iadd C dJ5_newCapacity_0f7a4_28 (v := (nI (m + 2))) (nI_add m 2) ?_
  refine bv_pS C (As := [.int (nI m), .int (nI (q - m)), .int (nI (m + 2))]) (st := []) (rvc := some (.int (nI (m + max (q - m) (m + 2))))) (fun l9 => kJ8_newLength (by omega) (by omega)) gJ5_newCapacity_0f7a4_J8_newLength_cabcc rfl nI_J8_newLength_cabcc ⟨rfl, rfl, (Nat.le_of_ble_eq_true rfl), (Nat.le_of_ble_eq_true rfl), (Nat.le_of_ble_eq_true rfl), (Nat.le_of_ble_eq_true rfl)⟩ dJ5_newCapacity_0f7a4_29 (Nat.le_of_ble_eq_true rfl) rfl ?_
  refine bv_eqs (st1 := [.int (nI (sb_cap q m))]) (by rw [hc]; rfl) ?_
  refine bv_istore C (lv' := [(5, .int (nI (sb_cap q m))), (4, .int (nI (q - m))), (3, .int (nI q)), (2, .int (nI m)), (0, .ref sb), (1, .int (nI q))]) dJ5_newCapacity_0f7a4_32 (by decide) rfl ?_
  refine bv_iload C 0 dJ5_newCapacity_0f7a4_34 rfl ?_
  refine bv_ldc C (v := 2147483647) (List.mem_of_getElem? (i := 3) rfl) dJ5_newCapacity_0f7a4_36 ?_
  refine bv_icmp_ne_t C dJ5_newCapacity_0f7a4_38 (tgt := 51) (by decide) (ne_nI (b := 2147483647) (by omega) (by omega) (by omega)) ?_
  refine bv_iload C 0 dJ5_newCapacity_0f7a4_51 rfl ?_
  refine bv_aload_n C 4 dJ5_newCapacity_0f7a4_53 rfl ?_
  refine bv_get C (T := TJ4) (n := 4) (C9 := RJ4) iJ4 0 rfl rfl 1 (by decide) (List.mem_of_getElem? (i := 2) rfl) rfl rfl dJ5_newCapacity_0f7a4_54 ?_
  refine bv_ishr C dJ5_newCapacity_0f7a4_57 (v := (nI (sb_cap q m))) (sb_shr0 _) ?_
  exact bv_iret C hE (Nat.le_of_ble_eq_true rfl) (Nat.le_of_ble_eq_true rfl) ⟨rfl, rfl⟩ dJ5_newCapacity_0f7a4_58

theorem kJ5_newCapacity {l : Launch} {D : va_G} {cB : ClassId} {sb vb m q : Nat} {ml cnt : Int32} {f : Nat → Int32} (h : m < q) (hq : q ≤ 30000) (hne : sb ≠ vb) : kMet l yJ5_newCapacity_0f7a4 wsJ5_newCapacity_0f7a4 { frames := 2, cells := 0, slots := 0, locals := 46 } D vwCl [(cB, .byte)] NT [sb, vb] [.ref sb, .int (nI q)] [(sb, .inr (1, [.ref vb, .int 0, .int ml, .int cnt])), (vb, .inl (cB, m, .inl f))] (some (.int (nI (sb_cap q m)))) [(sb, .inr (1, [.ref vb, .int 0, .int ml, .int cnt])), (vb, .inl (cB, m, .inl f))] := aMet.k (aJ5_newCapacity h hq hne) rfl (nd2 hne)
theorem nI_J7_copyOf_9075b : NameIn yJ7_copyOf_9075b 2 := ⟨by decide +kernel, by decide +kernel, by decide +kernel⟩
set_option maxRecDepth 100000 in
set_option maxHeartbeats 4000000 in
theorem aJ7_copyOf {l : Launch} {D : va_G} {cB : ClassId} {vb m q : Nat} {f : Nat → Int32} (h : m < q) (hq : q ≤ 65536) (hf : sb_Fit f) : aMet l yJ7_copyOf_9075b wsJ7_copyOf_9075b { frames := 1, cells := 1, slots := q, locals := 60 } D vwCl [(cB, .byte)] NT [vb] [.ref vb, .int (nI q)] [(vb, .inl (cB, m, .inl f))] 1 q (fun r u => ∃ c : Nat, r = some (.ref c) ∧ u = [(vb, .inl (cB, m, .inl f)), (c, .inl (cB, q, .inl (va_cpy f (fun _ => 0) 0 0 m)))]) := by
  refine aMet.of (cc := cJ7_copyOf_9075b) (nL := 3) (ret := (some (.array .byte))) (own := RJ7) (lv := [(0, .ref vb), (1, .int (nI q))]) (by decide +kernel) rfl rfl NT_ok (Nat.le_of_ble_eq_true rfl) rfl (fun X C hE hI9 => ?_)
  refine bv_iload_n C 1 dJ7_copyOf_9075b_0 rfl ?_
  refine bv_aload_n C 0 dJ7_copyOf_9075b_1 rfl ?_
  refine bv_alen C (v := nI m) 0 0 rfl rfl rfl dJ7_copyOf_9075b_2 ?_
  refine bv_icmp_ne_t C dJ7_copyOf_9075b_3 (tgt := 14) (by decide) (ne_nI (by omega) (by omega) (by omega)) ?_
  refine bv_iload_n C 1 dJ7_copyOf_9075b_14 rfl ?_
  refine bv_newa C (atype := .byte) (ty := .byte) (cA := cB) rfl (List.mem_of_getElem? (i := 7) rfl) 0 rfl (a0 := (q, .inl (fun _ => 0))) (fun _ => rfl) (nI_pos (by omega)) (nI_clamp (by omega)) (by show q * 1 ≤ _; omega) (Nat.le_refl _) (by show 0 + q ≤ q; omega) (fun _ h => h) dJ7_copyOf_9075b_15 (fun c => ?_)
  refine bv_eqw (w1 := [(vb, .inl (cB, m, .inl f)), (c, .inl (cB, q, .inl (fun _ => 0)))]) rfl ?_
  refine bv_astore_n C (lv' := [(2, .ref c), (0, .ref vb), (1, .int (nI q))]) dJ7_copyOf_9075b_17 rfl (by decide) rfl ?_
  refine bv_aload_n C 1 dJ7_copyOf_9075b_18 rfl ?_
  refine bv_iconst C dJ7_copyOf_9075b_19 (v := 0) (by decide) ?_
  refine bv_aload_n C 0 dJ7_copyOf_9075b_20 rfl ?_
  refine bv_iconst C dJ7_copyOf_9075b_21 (v := 0) (by decide) ?_
  refine bv_aload_n C 1 dJ7_copyOf_9075b_22 rfl ?_
  refine bv_alen C (v := nI m) 0 0 rfl rfl rfl dJ7_copyOf_9075b_23 ?_
  refine bv_iload_n C 2 dJ7_copyOf_9075b_24 rfl ?_
  refine bv_mmin C (v := (nI m)) (List.mem_of_getElem? (i := 8) rfl) (List.mem_of_getElem? (i := 9) rfl) (List.mem_of_getElem? (i := 10) rfl) (List.mem_of_getElem? (i := 11) rfl) (Nat.le_of_ble_eq_true rfl) (Nat.le_of_ble_eq_true rfl) (Nat.le_refl _) (by show 0 + q ≤ q; omega) ((iMin_n2 (by omega) (by omega)).trans (congrArg nI (Nat.min_eq_left (by omega)))) dJ7_copyOf_9075b_25 ?_
  refine bv_copyb C (w1 := [(vb, .inl (cB, m, .inl f)), (c, .inl (cB, q, .inl (va_cpy f (fun _ => 0) 0 0 m)))]) (List.mem_of_getElem? (i := 12) rfl) (List.mem_of_getElem? (i := 13) rfl) (List.mem_of_getElem? (i := 14) rfl) (List.mem_of_getElem? (i := 15) rfl) 0 1 0 0 rfl rfl rfl rfl (by decide) (by decide) (nI_pos (by omega)) (by rw [sb_cl0, nI_clamp (by omega)]; omega) (by rw [sb_cl0, nI_clamp (by omega)]; omega) (fun i _ => hf _) (by rw [sb_cl0, nI_clamp (by omega)]; rfl) (Nat.le_of_ble_eq_true rfl) (Nat.le_of_ble_eq_true rfl) dJ7_copyOf_9075b_28 ?_
  refine bv_aload_n C 0 dJ7_copyOf_9075b_31 rfl ?_
  exact bv_aret C hE (Or.inr ⟨_, rfl⟩) (Nat.le_refl _) (by omega) ⟨c, rfl, rfl⟩ dJ7_copyOf_9075b_32

theorem nI_J5_ensureCapacityInternal_d00df : NameIn yJ5_ensureCapacityInternal_d00df 1 := ⟨by decide +kernel, by decide +kernel, by decide +kernel⟩
set_option maxRecDepth 100000 in
set_option maxHeartbeats 4000000 in
theorem aJ5_ensure {l : Launch} {D : va_G} {cB : ClassId} {sb vb m q mc ms : Nat} {ml cnt : Int32} {f : Nat → Int32} (hm : m ≤ 65536) (hq : q ≤ 30000) (hf : sb_Fit f) (hr : sb_Room q m mc ms) : aMet l yJ5_ensureCapacityInternal_d00df wsJ5_ensureCapacityInternal_d00df { frames := 3, cells := mc, slots := ms, locals := 82 } D vwCl [(cB, .byte)] NT [sb, vb] [.ref sb, .int (nI q)] [(sb, .inr (1, [.ref vb, .int 0, .int ml, .int cnt])), (vb, .inl (cB, m, .inl f))] mc ms (fun r u => ∃ (c : Nat) (f' : Nat → Int32), r = none ∧ u = [(sb, .inr (1, [.ref c, .int 0, .int ml, .int cnt])), (c, .inl (cB, sb_cap q m, .inl f'))] ∧ sb_Fit f' ∧ ∀ j, j < m → f' j = f j) := by
  have iJ4 : ∀ w ∈ wsJ40, w ∈ wsJ5_ensureCapacityInternal_d00df := fun _ h => List.mem_cons_of_mem _ (List.mem_append_right _ h)
  refine aMet.of (cc := cJ5_ensureCapacityInternal_d00df) (nL := 3) (ret := none) (own := RJ5) (lv := [(0, .ref sb), (1, .int (nI q))]) (by decide +kernel) rfl rfl NT_ok (Nat.le_of_ble_eq_true rfl) rfl (fun X C hE hI9 => ?_)
  refine bv_aload_n C 0 dJ5_ensureCapacityInternal_d00df_0 rfl ?_
  refine bv_get C (T := TJ4) (n := 4) (C9 := RJ4) iJ4 0 rfl rfl 0 (by decide) (List.mem_of_getElem? (i := 1) rfl) rfl rfl dJ5_ensureCapacityInternal_d00df_1 ?_
  refine bv_alen C (v := nI m) 1 0 rfl rfl rfl dJ5_ensureCapacityInternal_d00df_4 ?_
  refine bv_aload_n C 0 dJ5_ensureCapacityInternal_d00df_5 rfl ?_
  refine bv_get C (T := TJ4) (n := 4) (C9 := RJ4) iJ4 0 rfl rfl 1 (by decide) (List.mem_of_getElem? (i := 2) rfl) rfl rfl dJ5_ensureCapacityInternal_d00df_6 ?_
  refine bv_ishr C dJ5_ensureCapacityInternal_d00df_9 (v := (nI m)) (sb_shr0 _) ?_
  refine bv_istore_n C (lv' := [(2, .int (nI m)), (0, .ref sb), (1, .int (nI q))]) dJ5_ensureCapacityInternal_d00df_10 rfl (by decide) rfl ?_
  refine bv_iload_n C 2 dJ5_ensureCapacityInternal_d00df_11 rfl ?_
  refine bv_iload_n C 0 dJ5_ensureCapacityInternal_d00df_12 rfl ?_
  by_cases hqm : q ≤ m
  · refine bv_isub C dJ5_ensureCapacityInternal_d00df_13 (v := (nI q - nI m)) rfl ?_
    refine bv_if_le_t C dJ5_ensureCapacityInternal_d00df_14 (tgt := 38) (by decide) (by rw [Int32.le_iff_toInt_le, pk_sub_toInt (by omega) (by omega), Int32.toInt_zero]; omega) ?_
    exact bv_vret C hE (Nat.zero_le _) (Nat.zero_le _) ⟨vb, f, rfl, by rw [sb_cap, if_pos hqm], hf, fun _ _ => rfl⟩ dJ5_ensureCapacityInternal_d00df_38
  · have hr9 : 1 ≤ mc ∧ sb_cap q m ≤ ms ∧ sb_cap q m ≤ 65536 := hr.resolve_left hqm
    have hlt := sb_cap_ge q m
    refine bv_isub C dJ5_ensureCapacityInternal_d00df_13 (v := (nI (q - m))) (pk_sub (by omega)) ?_
    refine bv_if_le_f C 38 dJ5_ensureCapacityInternal_d00df_14 (by decide) (nle_nI (b := 0) (by omega) (by omega)) ?_
    refine bv_aload_n C 1 dJ5_ensureCapacityInternal_d00df_17 rfl ?_
    refine bv_aload_n C 1 dJ5_ensureCapacityInternal_d00df_18 rfl ?_
    refine bv_get C (T := TJ4) (n := 4) (C9 := RJ4) iJ4 0 rfl rfl 0 (by decide) (List.mem_of_getElem? (i := 1) rfl) rfl rfl dJ5_ensureCapacityInternal_d00df_19 ?_
    refine bv_aload_n C 1 dJ5_ensureCapacityInternal_d00df_22 rfl ?_
    refine bv_iload_n C 2 dJ5_ensureCapacityInternal_d00df_23 rfl ?_
    refine bv_apart (fun hap => ?_)
    refine bv_kU C (As := [.int (nI q)]) (st := [.ref vb, .ref sb]) (wc := [(sb, .inr (1, [.ref vb, .int 0, .int ml, .int cnt])), (vb, .inl (cB, m, .inl f))]) (wr := []) (isC := [0, 1]) (isR := []) (wc' := [(sb, .inr (1, [.ref vb, .int 0, .int ml, .int cnt])), (vb, .inl (cB, m, .inl f))]) (rvc := some (.int (nI (sb_cap q m)))) (fun l9 => kJ5_newCapacity (by omega) hq (fun z => (List.nodup_cons.mp hap).1 (List.mem_singleton.mpr z))) rfl ⟨rfl, rfl, rfl, rfl, by decide⟩ rfl (fun _ h => h) (NTo.of (wc := [(sb, .inr (1, [.ref vb, .int 0, .int ml, .int cnt])), (vb, .inl (cB, m, .inl f))]) NT_ok (fun _ _ h => h) [0, 1] rfl rfl) NT_ok gJ5_ensureCapacityInternal_d00df_J5_newCapacity_0f7a4_u104J4 rfl 0 rfl rfl rfl rfl ⟨by decide +kernel, by decide +kernel, (show _ = some 1 from (by decide +kernel))⟩ ⟨rfl, rfl, (Nat.le_of_ble_eq_true rfl), (Nat.le_of_ble_eq_true rfl), (Nat.zero_le _), (Nat.zero_le _)⟩ dJ5_ensureCapacityInternal_d00df_24 (Nat.le_of_ble_eq_true rfl) rfl ?_
    refine bv_eqw (w1 := [(sb, .inr (1, [.ref vb, .int 0, .int ml, .int cnt])), (vb, .inl (cB, m, .inl f))]) rfl ?_
    refine bv_aload_n C 1 dJ5_ensureCapacityInternal_d00df_27 rfl ?_
    refine bv_get C (T := TJ4) (n := 4) (C9 := RJ4) iJ4 0 rfl rfl 1 (by decide) (List.mem_of_getElem? (i := 2) rfl) rfl rfl dJ5_ensureCapacityInternal_d00df_28 ?_
    refine bv_ishl C dJ5_ensureCapacityInternal_d00df_31 (v := (nI (sb_cap q m))) (sb_shl0 _) ?_
    refine bv_aS C (As := [.ref vb, .int (nI (sb_cap q m))]) (st := [.ref sb]) (wc := [(vb, .inl (cB, m, .inl f))]) (wr := [(sb, .inr (1, [.ref vb, .int 0, .int ml, .int cnt]))]) (isC := [1]) (isR := [0]) (fun l9 => aJ7_copyOf (by omega) hr9.2.2 hf) ⟨rfl, rfl, rfl, rfl, by decide⟩ rfl (fun _ h => h) (NTo.of (wc := [(vb, .inl (cB, m, .inl f))]) NT_ok (fun _ _ h => h) [1] rfl rfl) NT_ok gJ5_ensureCapacityInternal_d00df_J7_copyOf_9075b rfl nI_J7_copyOf_9075b ⟨rfl, rfl, (Nat.le_of_ble_eq_true rfl), (Nat.le_of_ble_eq_true rfl), (by show 0 + 1 ≤ mc; omega), (by show 0 + sb_cap q m ≤ ms; omega)⟩ dJ5_ensureCapacityInternal_d00df_32 (Nat.le_of_ble_eq_true rfl) rfl (fun rv9 w9 hp9 => ?_)
    obtain ⟨c, rfl, rfl⟩ := hp9
    refine bv_w (w1 := [(sb, .inr (1, [.ref vb, .int 0, .int ml, .int cnt])), (vb, .inl (cB, m, .inl f)), (c, .inl (cB, (sb_cap q m), .inl (va_cpy f (fun _ => 0) 0 0 m)))]) [0, 1, 2] rfl rfl ?_
    refine bv_put C (w1 := [(sb, .inr (1, [.ref c, .int 0, .int ml, .int cnt])), (vb, .inl (cB, m, .inl f)), (c, .inl (cB, (sb_cap q m), .inl (va_cpy f (fun _ => 0) 0 0 m)))]) (T := TJ4) (n := 4) (C9 := RJ4) (ty0 := tyJ4) iJ4 tyJ4_ok nmJ4 0 rfl rfl 0 (by decide) (List.mem_of_getElem? (i := 1) rfl) rfl rfl rfl rfl rfl (Nat.le_of_ble_eq_true rfl) rfl dJ5_ensureCapacityInternal_d00df_35 ?_
    refine bv_w (w1 := [(sb, .inr (1, [.ref c, .int 0, .int ml, .int cnt])), (c, .inl (cB, (sb_cap q m), .inl (va_cpy f (fun _ => 0) 0 0 m)))]) [0, 2] rfl rfl ?_
    exact bv_vret C hE (by omega) (by omega) ⟨c, _, rfl, rfl, sb_fitC hf sb_fit0, fun j hj => sb_cpy0 hj⟩ dJ5_ensureCapacityInternal_d00df_38

