theorem nI_J7_checkLength_df160 : NameIn yJ7_checkLength_df160 2 := ⟨by decide +kernel, by decide +kernel, by decide +kernel⟩
set_option maxRecDepth 100000 in
set_option maxHeartbeats 4000000 in
theorem aJ7_checkLength {l : Launch} {D : va_G} {k : Nat} (h : k ≤ 65536) : aMet l yJ7_checkLength_df160 wsJ7_checkLength_df160 { frames := 0, cells := 0, slots := 0, locals := 0 } D [] [] NT [] [.int 0, .int (nI k)] [] 0 0 (fun r u => r = none ∧ u = []) := by
  refine aMet.of (cc := cJ7_checkLength_df160) (nL := 2) (ret := none) (own := RJ7) (lv := [(0, .int 0), (1, .int (nI k))]) (by decide +kernel) rfl rfl NT_ok (Nat.le_of_ble_eq_true rfl) rfl (fun X C hE hI9 => ?_)
  refine bv_iload_n C 1 dJ7_checkLength_df160_0 rfl ?_
  refine bv_iload_n C 0 dJ7_checkLength_df160_1 rfl ?_
  refine bv_icmp_ge_t C dJ7_checkLength_df160_2 (tgt := 37) (by decide) (Int32.not_lt.mp (nI_pos (by omega))) ?_
  exact bv_vret C hE (Nat.le_of_ble_eq_true rfl) (Nat.le_of_ble_eq_true rfl) ⟨rfl, rfl⟩ dJ7_checkLength_df160_37

theorem kJ7_checkLength {l : Launch} {k : Nat} (h : k ≤ 65536) : pMet l yJ7_checkLength_df160 wsJ7_checkLength_df160 { frames := 0, cells := 0, slots := 0, locals := 0 } [.int 0, .int (nI k)] none := fun D => aMet.k (aJ7_checkLength (D := D) h) rfl List.nodup_nil
theorem nI_J7_copyOfRangeByte_39247 : NameIn yJ7_copyOfRangeByte_39247 3 := ⟨by decide +kernel, by decide +kernel, by decide +kernel⟩
set_option maxRecDepth 100000 in
set_option maxHeartbeats 4000000 in
theorem aJ7_copyOfRangeByte {l : Launch} {D : va_G} {cB : ClassId} {vb m k : Nat} {f : Nat → Int32} (h : k ≤ m) (hm : m ≤ 65536) (hf : sb_Fit f) : aMet l yJ7_copyOfRangeByte_39247 wsJ7_copyOfRangeByte_39247 { frames := 1, cells := 1, slots := k, locals := 60 } D vwCl [(cB, .byte)] NT [vb] [.ref vb, .int 0, .int (nI k)] [(vb, .inl (cB, m, .inl f))] 1 k (fun r u => ∃ (c : Nat) (f' : Nat → Int32), r = some (.ref c) ∧ u = [(vb, .inl (cB, m, .inl f)), (c, .inl (cB, k, .inl f'))] ∧ sb_Fit f' ∧ ∀ j, j < k → f' j = f j) := by
  refine aMet.of (cc := cJ7_copyOfRangeByte_39247) (nL := 5) (ret := (some (.array .byte))) (own := RJ7) (lv := [(0, .ref vb), (1, .int 0), (2, .int (nI k))]) (by decide +kernel) rfl rfl NT_ok (Nat.le_of_ble_eq_true rfl) rfl (fun X C hE hI9 => ?_)
  refine bv_iload_n C 1 dJ7_copyOfRangeByte_39247_0 rfl ?_
  refine bv_iload_n C 2 dJ7_copyOfRangeByte_39247_1 rfl ?_
  refine bv_pS C (As := [.int 0, .int (nI k)]) (st := []) (rvc := none) (fun l9 => kJ7_checkLength (by omega)) gJ7_copyOfRangeByte_39247_J7_checkLength_df160 rfl nI_J7_checkLength_df160 ⟨rfl, rfl, (Nat.le_of_ble_eq_true rfl), (Nat.le_of_ble_eq_true rfl), (Nat.zero_le _), (Nat.zero_le _)⟩ dJ7_copyOfRangeByte_39247_2 (Nat.le_of_ble_eq_true rfl) rfl ?_
  refine bv_iload_n C 2 dJ7_copyOfRangeByte_39247_5 rfl ?_
  refine bv_iload_n C 1 dJ7_copyOfRangeByte_39247_6 rfl ?_
  refine bv_isub C dJ7_copyOfRangeByte_39247_7 (v := (nI k)) (pk_sub (a := k) (b := 0) (by omega)) ?_
  refine bv_istore_n C (lv' := [(3, .int (nI k)), (0, .ref vb), (1, .int 0), (2, .int (nI k))]) dJ7_copyOfRangeByte_39247_8 rfl (by decide) rfl ?_
  refine bv_iload_n C 0 dJ7_copyOfRangeByte_39247_9 rfl ?_
  refine bv_newa C (atype := .byte) (ty := .byte) (cA := cB) rfl (List.mem_of_getElem? (i := 1) rfl) 0 rfl (a0 := (k, .inl (fun _ => 0))) (fun _ => rfl) (nI_pos (by omega)) (nI_clamp (by omega)) (by show k * 1 ≤ _; omega) (Nat.le_refl _) (by show 0 + k ≤ k; omega) (fun _ h => h) dJ7_copyOfRangeByte_39247_10 (fun c => ?_)
  refine bv_eqw (w1 := [(vb, .inl (cB, m, .inl f)), (c, .inl (cB, k, .inl (fun _ => 0)))]) rfl ?_
  refine bv_astore C (lv' := [(4, .ref c), (3, .int (nI k)), (0, .ref vb), (1, .int 0), (2, .int (nI k))]) dJ7_copyOfRangeByte_39247_12 (by decide) rfl ?_
  refine bv_aload_n C 2 dJ7_copyOfRangeByte_39247_14 rfl ?_
  refine bv_iload_n C 3 dJ7_copyOfRangeByte_39247_15 rfl ?_
  refine bv_aload C 0 dJ7_copyOfRangeByte_39247_16 rfl ?_
  refine bv_iconst C dJ7_copyOfRangeByte_39247_18 (v := 0) (by decide) ?_
  refine bv_aload_n C 2 dJ7_copyOfRangeByte_39247_19 rfl ?_
  refine bv_alen C (v := nI m) 0 0 rfl rfl rfl dJ7_copyOfRangeByte_39247_20 ?_
  refine bv_iload_n C 3 dJ7_copyOfRangeByte_39247_21 rfl ?_
  refine bv_isub C dJ7_copyOfRangeByte_39247_22 (v := (nI m)) (pk_sub (a := m) (b := 0) (by omega)) ?_
  refine bv_iload_n C 1 dJ7_copyOfRangeByte_39247_23 rfl ?_
  refine bv_mmin C (v := (nI k)) (List.mem_of_getElem? (i := 2) rfl) (List.mem_of_getElem? (i := 3) rfl) (List.mem_of_getElem? (i := 4) rfl) (List.mem_of_getElem? (i := 5) rfl) (Nat.le_of_ble_eq_true rfl) (Nat.le_of_ble_eq_true rfl) (Nat.le_refl _) (by show 0 + k ≤ k; omega) ((iMin_n2 (by omega) (by omega)).trans (congrArg nI (Nat.min_eq_right (by omega)))) dJ7_copyOfRangeByte_39247_24 ?_
  refine bv_copyb C (w1 := [(vb, .inl (cB, m, .inl f)), (c, .inl (cB, k, .inl (va_cpy f (fun _ => 0) 0 0 k)))]) (List.mem_of_getElem? (i := 6) rfl) (List.mem_of_getElem? (i := 7) rfl) (List.mem_of_getElem? (i := 8) rfl) (List.mem_of_getElem? (i := 9) rfl) 0 1 0 0 rfl rfl rfl rfl (by decide) (by decide) (nI_pos (by omega)) (by rw [sb_cl0, nI_clamp (by omega)]; omega) (by rw [sb_cl0, nI_clamp (by omega)]; omega) (fun i _ => hf _) (by rw [sb_cl0, nI_clamp (by omega)]; rfl) (Nat.le_of_ble_eq_true rfl) (Nat.le_of_ble_eq_true rfl) dJ7_copyOfRangeByte_39247_27 ?_
  refine bv_aload C 0 dJ7_copyOfRangeByte_39247_30 rfl ?_
  exact bv_aret C hE (Or.inr ⟨_, rfl⟩) (Nat.le_refl _) (by omega) ⟨c, _, rfl, rfl, sb_fitC hf sb_fit0, fun j hj => sb_cpy0 hj⟩ dJ7_copyOfRangeByte_39247_32

theorem nI_J7_copyOfRange_39247 : NameIn yJ7_copyOfRange_39247 3 := ⟨by decide +kernel, by decide +kernel, by decide +kernel⟩
set_option maxRecDepth 100000 in
set_option maxHeartbeats 4000000 in
theorem aJ7_copyOfRange {l : Launch} {D : va_G} {cB : ClassId} {vb m k : Nat} {f : Nat → Int32} (h : k ≤ m) (hm : m ≤ 65536) (hf : sb_Fit f) : aMet l yJ7_copyOfRange_39247 wsJ7_copyOfRange_39247 { frames := 2, cells := 1, slots := k, locals := 84 } D vwCl [(cB, .byte)] nC [vb] [.ref vb, .int 0, .int (nI k)] [(vb, .inl (cB, m, .inl f))] 1 k (fun r u => ∃ (c : Nat) (f' : Nat → Int32), r = some (.ref c) ∧ u = [(vb, .inl (cB, m, .inl f)), (c, .inl (cB, k, .inl f'))] ∧ sb_Fit f' ∧ ∀ j, j < k → f' j = f j) := by
  refine aMet.of (cc := cJ7_copyOfRange_39247) (nL := 3) (ret := (some (.array .byte))) (own := RJ7) (lv := [(0, .ref vb), (1, .int 0), (2, .int (nI k))]) (by decide +kernel) rfl rfl nC_ok (Nat.le_of_ble_eq_true rfl) rfl (fun X C hE hI9 => ?_)
  refine bv_iload_n C 1 dJ7_copyOfRange_39247_0 rfl ?_
  refine bv_if_ne_f C 10 dJ7_copyOfRange_39247_1 (by decide) rfl ?_
  refine bv_iload_n C 2 dJ7_copyOfRange_39247_4 rfl ?_
  refine bv_aload_n C 0 dJ7_copyOfRange_39247_5 rfl ?_
  refine bv_alen C (v := nI m) 0 0 rfl rfl rfl dJ7_copyOfRange_39247_6 ?_
  by_cases hkm : k = m
  · subst hkm
    refine bv_icmp_eq_t C dJ7_copyOfRange_39247_7 (tgt := 17) (by decide) rfl ?_
    refine bv_aload_n C 0 dJ7_copyOfRange_39247_17 rfl ?_
    refine bv_clone C (List.mem_of_getElem? (i := 1) rfl) (List.mem_of_getElem? (i := 2) rfl) (List.mem_of_getElem? (i := 3) rfl) (List.mem_of_getElem? (i := 4) rfl) (List.mem_of_getElem? (i := 5) rfl) (fun _ _ h => h) 0 0 rfl rfl (fun _ h => h) (fit_cell hf) (Nat.le_of_ble_eq_true rfl) (Nat.le_of_ble_eq_true rfl) (Nat.le_refl _) (by show 0 + k ≤ k; omega) dJ7_copyOfRange_39247_18 (fun c => ?_)
    refine bv_eqw (w1 := [(vb, .inl (cB, k, .inl f)), (c, .inl (cB, k, .inl f))]) rfl ?_
    refine bv_castA C (List.mem_of_getElem? (i := 6) rfl) 1 0 rfl rfl (fun _ h => h) dJ7_copyOfRange_39247_21 ?_
    exact bv_aret C hE (Or.inr ⟨_, rfl⟩) (Nat.le_refl _) (by show 0 + k ≤ k; omega) ⟨c, f, rfl, rfl, hf, fun _ _ => rfl⟩ dJ7_copyOfRange_39247_24
  · refine bv_icmp_eq_f C 17 dJ7_copyOfRange_39247_7 (by decide) (ne_nI hkm (by omega) (by omega)) ?_
    refine bv_aload_n C 0 dJ7_copyOfRange_39247_10 rfl ?_
    refine bv_iload_n C 1 dJ7_copyOfRange_39247_11 rfl ?_
    refine bv_iload_n C 2 dJ7_copyOfRange_39247_12 rfl ?_
    refine bv_aS C (As := [.ref vb, .int 0, .int (nI k)]) (st := []) (wc := [(vb, .inl (cB, m, .inl f))]) (wr := []) (isC := [0]) (isR := []) (fun l9 => aJ7_copyOfRangeByte h hm hf) ⟨rfl, rfl, rfl, rfl, by decide⟩ rfl (fun _ h => h) NTo.nt NT_ok gJ7_copyOfRange_39247_J7_copyOfRangeByte_39247 rfl nI_J7_copyOfRangeByte_39247 ⟨rfl, rfl, (Nat.le_of_ble_eq_true rfl), (Nat.le_of_ble_eq_true rfl), (Nat.le_refl _), (by show 0 + k ≤ k; omega)⟩ dJ7_copyOfRange_39247_13 (Nat.le_of_ble_eq_true rfl) rfl (fun rv9 w9 hp9 => ?_)
    obtain ⟨c, f1, rfl, rfl, hf1, hk1⟩ := hp9
    refine bv_w (w1 := [(vb, .inl (cB, m, .inl f)), (c, .inl (cB, k, .inl f1))]) [0, 1] rfl rfl ?_
    exact bv_aret C hE (Or.inr ⟨_, rfl⟩) (Nat.le_refl _) (by show 0 + k ≤ k; omega) ⟨c, f1, rfl, rfl, hf1, hk1⟩ dJ7_copyOfRange_39247_16

theorem nI_J5_getValue_6d5f1 : NameIn yJ5_getValue_6d5f1 0 := ⟨by decide +kernel, by decide +kernel, by decide +kernel⟩
set_option maxRecDepth 100000 in
set_option maxHeartbeats 4000000 in
theorem aJ5_getValue {l : Launch} {D : va_G} {cB : ClassId} {sb vb : Nat} {ml cnt : Int32}  : aMet l yJ5_getValue_6d5f1 wsJ5_getValue_6d5f1 { frames := 0, cells := 0, slots := 0, locals := 0 } D vwCl [(cB, .byte)] NT [sb] [.ref sb] [(sb, .inr (1, [.ref vb, .int 0, .int ml, .int cnt]))] 0 0 (fun r u => r = some (.ref vb) ∧ u = [(sb, .inr (1, [.ref vb, .int 0, .int ml, .int cnt]))]) := by
  have iJ4 : ∀ w ∈ wsJ40, w ∈ wsJ5_getValue_6d5f1 := fun _ h => List.mem_cons_of_mem _ (List.mem_append_right _ h)
  refine aMet.of (cc := cJ5_getValue_6d5f1) (nL := 1) (ret := (some (.array .byte))) (own := RJ5) (lv := [(0, .ref sb)]) (by decide +kernel) rfl rfl NT_ok (Nat.le_of_ble_eq_true rfl) rfl (fun X C hE hI9 => ?_)
  refine bv_aload_n C 0 dJ5_getValue_6d5f1_0 rfl ?_
  refine bv_get C (T := TJ4) (n := 4) (C9 := RJ4) iJ4 0 rfl rfl 0 (by decide) (List.mem_of_getElem? (i := 1) rfl) rfl rfl dJ5_getValue_6d5f1_1 ?_
  exact bv_aret C hE (Or.inr ⟨_, rfl⟩) (Nat.le_of_ble_eq_true rfl) (Nat.le_of_ble_eq_true rfl) ⟨rfl, rfl⟩ dJ5_getValue_6d5f1_4

theorem kJ5_getValue {l : Launch} {D : va_G} {cB : ClassId} {sb vb : Nat} {ml cnt : Int32}  : kMet l yJ5_getValue_6d5f1 wsJ5_getValue_6d5f1 { frames := 0, cells := 0, slots := 0, locals := 0 } D vwCl [(cB, .byte)] NT [sb] [.ref sb] [(sb, .inr (1, [.ref vb, .int 0, .int ml, .int cnt]))] (some (.ref vb)) [(sb, .inr (1, [.ref vb, .int 0, .int ml, .int cnt]))] := aMet.k (aJ5_getValue ) rfl nd1
theorem nI_J5_length_8abf5 : NameIn yJ5_length_8abf5 0 := ⟨by decide +kernel, by decide +kernel, by decide +kernel⟩
set_option maxRecDepth 100000 in
set_option maxHeartbeats 4000000 in
theorem aJ5_length {l : Launch} {D : va_G} {cB : ClassId} {sb vb : Nat} {ml cnt : Int32}  : aMet l yJ5_length_8abf5 wsJ5_length_8abf5 { frames := 0, cells := 0, slots := 0, locals := 0 } D vwCl [(cB, .byte)] NT [sb] [.ref sb] [(sb, .inr (1, [.ref vb, .int 0, .int ml, .int cnt]))] 0 0 (fun r u => r = some (.int cnt) ∧ u = [(sb, .inr (1, [.ref vb, .int 0, .int ml, .int cnt]))]) := by
  have iJ4 : ∀ w ∈ wsJ40, w ∈ wsJ5_length_8abf5 := fun _ h => List.mem_cons_of_mem _ (List.mem_append_right _ h)
  refine aMet.of (cc := cJ5_length_8abf5) (nL := 1) (ret := (some .int)) (own := RJ5) (lv := [(0, .ref sb)]) (by decide +kernel) rfl rfl NT_ok (Nat.le_of_ble_eq_true rfl) rfl (fun X C hE hI9 => ?_)
  refine bv_aload_n C 0 dJ5_length_8abf5_0 rfl ?_
  refine bv_get C (T := TJ4) (n := 4) (C9 := RJ4) iJ4 0 rfl rfl 3 (by decide) (List.mem_of_getElem? (i := 1) rfl) rfl rfl dJ5_length_8abf5_1 ?_
  exact bv_iret C hE (Nat.le_of_ble_eq_true rfl) (Nat.le_of_ble_eq_true rfl) ⟨rfl, rfl⟩ dJ5_length_8abf5_4

theorem kJ5_length {l : Launch} {D : va_G} {cB : ClassId} {sb vb : Nat} {ml cnt : Int32}  : kMet l yJ5_length_8abf5 wsJ5_length_8abf5 { frames := 0, cells := 0, slots := 0, locals := 0 } D vwCl [(cB, .byte)] NT [sb] [.ref sb] [(sb, .inr (1, [.ref vb, .int 0, .int ml, .int cnt]))] (some (.int cnt)) [(sb, .inr (1, [.ref vb, .int 0, .int ml, .int cnt]))] := aMet.k (aJ5_length ) rfl nd1
theorem nI_J4_length_8abf5 : NameIn yJ4_length_8abf5 0 := ⟨by decide +kernel, by decide +kernel, by decide +kernel⟩
set_option maxRecDepth 100000 in
set_option maxHeartbeats 4000000 in
theorem aJ4_length {l : Launch} {D : va_G} {cB : ClassId} {sb vb : Nat} {ml cnt : Int32}  : aMet l yJ4_length_8abf5 wsJ4_length_8abf5 { frames := 1, cells := 0, slots := 0, locals := 20 } D vwCl [(cB, .byte)] NT [sb] [.ref sb] [(sb, .inr (1, [.ref vb, .int 0, .int ml, .int cnt]))] 0 0 (fun r u => r = some (.int cnt) ∧ u = [(sb, .inr (1, [.ref vb, .int 0, .int ml, .int cnt]))]) := by
  refine aMet.of (cc := cJ4_length_8abf5) (nL := 1) (ret := (some .int)) (own := RJ4) (lv := [(0, .ref sb)]) (by decide +kernel) rfl rfl NT_ok (Nat.le_of_ble_eq_true rfl) rfl (fun X C hE hI9 => ?_)
  refine bv_aload_n C 0 dJ4_length_8abf5_0 rfl ?_
  refine bv_kSU C (As := []) (st := []) (wc := [(sb, .inr (1, [.ref vb, .int 0, .int ml, .int cnt]))]) (wr := []) (isC := [0]) (isR := []) (wc' := [(sb, .inr (1, [.ref vb, .int 0, .int ml, .int cnt]))]) (rvc := some (.int cnt)) (fun l9 => kJ5_length) rfl ⟨rfl, rfl, rfl, rfl, by decide⟩ rfl (fun _ h => h) NTo.nt NT_ok gJ4_length_8abf5_J5_length_8abf5_s343 0 rfl rfl rfl ⟨by decide +kernel, (show _ = some 0 from (by decide +kernel))⟩ ⟨rfl, rfl, (Nat.le_of_ble_eq_true rfl), (Nat.le_of_ble_eq_true rfl), (Nat.le_of_ble_eq_true rfl), (Nat.le_of_ble_eq_true rfl)⟩ dJ4_length_8abf5_1 (Nat.le_of_ble_eq_true rfl) rfl ?_
  refine bv_eqw (w1 := [(sb, .inr (1, [.ref vb, .int 0, .int ml, .int cnt]))]) rfl ?_
  exact bv_iret C hE (Nat.le_of_ble_eq_true rfl) (Nat.le_of_ble_eq_true rfl) ⟨rfl, rfl⟩ dJ4_length_8abf5_4

theorem kJ4_length {l : Launch} {D : va_G} {cB : ClassId} {sb vb : Nat} {ml cnt : Int32}  : kMet l yJ4_length_8abf5 wsJ4_length_8abf5 { frames := 1, cells := 0, slots := 0, locals := 20 } D vwCl [(cB, .byte)] NT [sb] [.ref sb] [(sb, .inr (1, [.ref vb, .int 0, .int ml, .int cnt]))] (some (.int cnt)) [(sb, .inr (1, [.ref vb, .int 0, .int ml, .int cnt]))] := aMet.k (aJ4_length ) rfl nd1
theorem nI_J0_init_db425 : NameIn yJ0_init_db425 2 := ⟨by decide +kernel, by decide +kernel, by decide +kernel⟩
set_option maxRecDepth 100000 in
set_option maxHeartbeats 4000000 in
theorem aJ0_initV {l : Launch} {D : va_G} {cB : ClassId} {a sb vb m k : Nat} {ml : Int32} {f : Nat → Int32} (h : k ≤ m) (hm : m ≤ 65536) (hf : sb_Fit f) : aMet l yJ0_init_db425 wsJ0_init_db425 { frames := 3, cells := 1, slots := k, locals := 106 } D vwCl [(cB, .byte)] tS [a, sb, vb] [.ref a, .ref sb, .null] [(a, .inr (0, [.null, .int 0, .int 0, .int 0])), (sb, .inr (1, [.ref vb, .int 0, .int ml, .int (nI k)])), (vb, .inl (cB, m, .inl f))] 1 k (fun r u => ∃ (c : Nat) (f' : Nat → Int32), r = none ∧ u = [(sb, .inr (1, [.ref vb, .int 0, .int ml, .int (nI k)])), (vb, .inl (cB, m, .inl f)), (a, .inr (0, [.ref c, .int 0, .int 0, .int 0])), (c, .inl (cB, k, .inl f'))] ∧ sb_Fit f' ∧ ∀ j, j < k → f' j = f j) := by
  have iJ0 : ∀ w ∈ wsJ00, w ∈ wsJ0_init_db425 := fun _ h => List.mem_cons_of_mem _ (List.mem_append_left _ (List.mem_append_right _ h))
  refine aMet.of (cc := cJ0_init_db425) (nL := 5) (ret := none) (own := RJ0) (lv := [(0, .ref a), (1, .ref sb), (2, .null)]) (by decide +kernel) rfl rfl tS_ok (Nat.le_of_ble_eq_true rfl) rfl (fun X C hE hI9 => ?_)
  have hI : I2 X := hI9 rfl
  refine bv_aload_n C 0 dJ0_init_db425_0 rfl ?_
  refine bv_objInit C (List.mem_of_getElem? (i := 1) rfl) (List.mem_of_getElem? (i := 2) rfl) (List.mem_of_getElem? (i := 3) rfl) (Nat.le_of_ble_eq_true rfl) (Nat.le_of_ble_eq_true rfl) dJ0_init_db425_1 ?_
  refine bv_aload_n C 1 dJ0_init_db425_4 rfl ?_
  refine bv_kU C (As := []) (st := []) (wc := [(sb, .inr (1, [.ref vb, .int 0, .int ml, .int (nI k)]))]) (wr := [(a, .inr (0, [.null, .int 0, .int 0, .int 0])), (vb, .inl (cB, m, .inl f))]) (isC := [1]) (isR := [0, 2]) (wc' := [(sb, .inr (1, [.ref vb, .int 0, .int ml, .int (nI k)]))]) (rvc := some (.ref vb)) (fun l9 => kJ5_getValue) rfl ⟨rfl, rfl, rfl, rfl, by decide⟩ rfl (fun _ h => h) NTo.nt NT_ok gJ0_init_db425_J5_getValue_6d5f1_u552J4 rfl 1 rfl rfl rfl rfl ⟨by decide +kernel, by decide +kernel, (show _ = some 0 from (by decide +kernel))⟩ ⟨rfl, rfl, (Nat.le_of_ble_eq_true rfl), (Nat.le_of_ble_eq_true rfl), (Nat.zero_le _), (Nat.zero_le _)⟩ dJ0_init_db425_5 (Nat.le_of_ble_eq_true rfl) rfl ?_
  refine bv_w (w1 := [(a, .inr (0, [.null, .int 0, .int 0, .int 0])), (sb, .inr (1, [.ref vb, .int 0, .int ml, .int (nI k)])), (vb, .inl (cB, m, .inl f))]) [0, 2, 1] rfl rfl ?_
  refine bv_astore_n C (lv' := [(3, .ref vb), (0, .ref a), (1, .ref sb), (2, .null)]) dJ0_init_db425_8 rfl (by decide) rfl ?_
  refine bv_aload_n C 2 dJ0_init_db425_9 rfl ?_
  refine bv_kO C (As := []) (st := []) (wc := [(sb, .inr (1, [.ref vb, .int 0, .int ml, .int (nI k)]))]) (wr := [(a, .inr (0, [.null, .int 0, .int 0, .int 0])), (vb, .inl (cB, m, .inl f))]) (isC := [1]) (isR := [0, 2]) (wc' := [(sb, .inr (1, [.ref vb, .int 0, .int ml, .int (nI k)]))]) (rvc := some (.int (nI k))) (fun l9 => kJ4_length) rfl ⟨rfl, rfl, rfl, rfl, by decide⟩ rfl (fun _ h => h) NTo.nt NT_ok gJ0_init_db425_J4_length_8abf5_u549J4 (List.mem_of_getElem? (i := 25) rfl) 1 rfl rfl rfl rfl ⟨by decide +kernel, by decide +kernel, (show _ = some 0 from (by decide +kernel))⟩ ⟨rfl, rfl, (Nat.le_of_ble_eq_true rfl), (Nat.le_of_ble_eq_true rfl), (Nat.zero_le _), (Nat.zero_le _)⟩ dJ0_init_db425_10 (Nat.le_of_ble_eq_true rfl) rfl ?_
  refine bv_w (w1 := [(a, .inr (0, [.null, .int 0, .int 0, .int 0])), (sb, .inr (1, [.ref vb, .int 0, .int ml, .int (nI k)])), (vb, .inl (cB, m, .inl f))]) [0, 2, 1] rfl rfl ?_
  refine bv_istore C (lv' := [(4, .int (nI k)), (3, .ref vb), (0, .ref a), (1, .ref sb), (2, .null)]) dJ0_init_db425_13 (by decide) rfl ?_
  refine bv_aload_n C 3 dJ0_init_db425_15 rfl ?_
  refine bv_kU C (As := []) (st := []) (wc := [(sb, .inr (1, [.ref vb, .int 0, .int ml, .int (nI k)]))]) (wr := [(a, .inr (0, [.null, .int 0, .int 0, .int 0])), (vb, .inl (cB, m, .inl f))]) (isC := [1]) (isR := [0, 2]) (wc' := [(sb, .inr (1, [.ref vb, .int 0, .int ml, .int (nI k)]))]) (rvc := some (.int 1)) (fun l9 => kJ5_isLatin1) rfl ⟨rfl, rfl, rfl, rfl, by decide⟩ rfl (fun _ h => h) (NTo.of (wc := [(sb, .inr (1, [.ref vb, .int 0, .int ml, .int (nI k)]))]) tS_ok (fun _ _ h => h.1) [1] rfl rfl) cS_ok gJ0_init_db425_J5_isLatin1_aae02_u1047J4 rfl 1 rfl rfl rfl rfl ⟨by decide +kernel, by decide +kernel, (show _ = some 0 from (by decide +kernel))⟩ ⟨rfl, rfl, (Nat.le_of_ble_eq_true rfl), (Nat.le_of_ble_eq_true rfl), (Nat.zero_le _), (Nat.zero_le _)⟩ dJ0_init_db425_16 (Nat.le_of_ble_eq_true rfl) rfl ?_
  refine bv_w (w1 := [(a, .inr (0, [.null, .int 0, .int 0, .int 0])), (sb, .inr (1, [.ref vb, .int 0, .int ml, .int (nI k)])), (vb, .inl (cB, m, .inl f))]) [0, 2, 1] rfl rfl ?_
  refine bv_if_eq_f C 41 dJ0_init_db425_19 (by decide) (by decide) ?_
  refine bv_aload_n C 2 dJ0_init_db425_22 rfl ?_
  refine bv_iconst C dJ0_init_db425_23 (v := 0) (by decide) ?_
  refine bv_putF C hI (w1 := [(a, .inr (0, [.null, .int 0, .int 0, .int 0])), (sb, .inr (1, [.ref vb, .int 0, .int ml, .int (nI k)])), (vb, .inl (cB, m, .inl f))]) (T := TJ0) (n := 4) (C9 := RJ0) (ty0 := tyJ0) iJ0 tyJ0_ok nmJ0 0 rfl rfl 1 (by decide) (List.mem_of_getElem? (i := 4) rfl) rfl rfl rfl rfl rfl rfl (Nat.le_of_ble_eq_true rfl) rfl dJ0_init_db425_24 ?_
  refine bv_aload_n C 2 dJ0_init_db425_27 rfl ?_
  refine bv_aload_n C 1 dJ0_init_db425_28 rfl ?_
  refine bv_iconst C dJ0_init_db425_29 (v := 0) (by decide) ?_
  refine bv_iload C 0 dJ0_init_db425_30 rfl ?_
  refine bv_aS C (As := [.ref vb, .int 0, .int (nI k)]) (st := [.ref a]) (wc := [(vb, .inl (cB, m, .inl f))]) (wr := [(a, .inr (0, [.null, .int 0, .int 0, .int 0])), (sb, .inr (1, [.ref vb, .int 0, .int ml, .int (nI k)]))]) (isC := [2]) (isR := [0, 1]) (fun l9 => aJ7_copyOfRange h hm hf) ⟨rfl, rfl, rfl, rfl, by decide⟩ rfl (fun _ h => h) (NTo.of (wc := [(vb, .inl (cB, m, .inl f))]) tS_ok (fun _ _ h => h.2) [2] rfl rfl) nC_ok gJ0_init_db425_J7_copyOfRange_39247 rfl nI_J7_copyOfRange_39247 ⟨rfl, rfl, (Nat.le_of_ble_eq_true rfl), (Nat.le_of_ble_eq_true rfl), (Nat.le_refl _), (by show 0 + k ≤ k; omega)⟩ dJ0_init_db425_32 (Nat.le_of_ble_eq_true rfl) rfl (fun rv9 w9 hp9 => ?_)
  obtain ⟨c, f1, rfl, rfl, hf1, hk1⟩ := hp9
  refine bv_w (w1 := [(a, .inr (0, [.null, .int 0, .int 0, .int 0])), (sb, .inr (1, [.ref vb, .int 0, .int ml, .int (nI k)])), (vb, .inl (cB, m, .inl f)), (c, .inl (cB, k, .inl f1))]) [0, 1, 2, 3] rfl rfl ?_
  refine bv_putF C hI (w1 := [(a, .inr (0, [.ref c, .int 0, .int 0, .int 0])), (sb, .inr (1, [.ref vb, .int 0, .int ml, .int (nI k)])), (vb, .inl (cB, m, .inl f)), (c, .inl (cB, k, .inl f1))]) (T := TJ0) (n := 4) (C9 := RJ0) (ty0 := tyJ0) iJ0 tyJ0_ok nmJ0 0 rfl rfl 0 (by decide) (List.mem_of_getElem? (i := 5) rfl) rfl rfl rfl rfl rfl rfl (Nat.le_of_ble_eq_true rfl) rfl dJ0_init_db425_35 ?_
  refine bv_goto C dJ0_init_db425_38 (tgt := 97) (by decide) ?_
  refine bv_w (w1 := [(sb, .inr (1, [.ref vb, .int 0, .int ml, .int (nI k)])), (vb, .inl (cB, m, .inl f)), (a, .inr (0, [.ref c, .int 0, .int 0, .int 0])), (c, .inl (cB, k, .inl f1))]) [1, 2, 0, 3] rfl rfl ?_
  exact bv_vret C hE (by omega) (by omega) ⟨c, f1, rfl, rfl, hf1, hk1⟩ dJ0_init_db425_97

theorem nI_J0_init_81219 : NameIn yJ0_init_81219 1 := ⟨by decide +kernel, by decide +kernel, by decide +kernel⟩
set_option maxRecDepth 100000 in
set_option maxHeartbeats 4000000 in
theorem aJ0_init {l : Launch} {D : va_G} {cB : ClassId} {a sb vb m k : Nat} {ml : Int32} {f : Nat → Int32} (h : k ≤ m) (hm : m ≤ 65536) (hf : sb_Fit f) : aMet l yJ0_init_81219 wsJ0_init_81219 { frames := 4, cells := 1, slots := k, locals := 130 } D vwCl [(cB, .byte)] tS [a, sb, vb] [.ref a, .ref sb] [(a, .inr (0, [.null, .int 0, .int 0, .int 0])), (sb, .inr (1, [.ref vb, .int 0, .int ml, .int (nI k)])), (vb, .inl (cB, m, .inl f))] 1 k (fun r u => ∃ (c : Nat) (f' : Nat → Int32), r = none ∧ u = [(sb, .inr (1, [.ref vb, .int 0, .int ml, .int (nI k)])), (vb, .inl (cB, m, .inl f)), (a, .inr (0, [.ref c, .int 0, .int 0, .int 0])), (c, .inl (cB, k, .inl f'))] ∧ sb_Fit f' ∧ ∀ j, j < k → f' j = f j) := by
  refine aMet.of (cc := cJ0_init_81219) (nL := 2) (ret := none) (own := RJ0) (lv := [(0, .ref a), (1, .ref sb)]) (by decide +kernel) rfl rfl tS_ok (Nat.le_of_ble_eq_true rfl) rfl (fun X C hE hI9 => ?_)
  have hI : I2 X := hI9 rfl
  refine bv_aload_n C 0 dJ0_init_81219_0 rfl ?_
  refine bv_aload_n C 1 dJ0_init_81219_1 rfl ?_
  refine bv_null C dJ0_init_81219_2 ?_
  refine bv_aI C (As := [.ref sb, .null]) (st := []) (wc := [(a, .inr (0, [.null, .int 0, .int 0, .int 0])), (sb, .inr (1, [.ref vb, .int 0, .int ml, .int (nI k)])), (vb, .inl (cB, m, .inl f))]) (wr := []) (isC := [0, 1, 2]) (isR := []) (fun l9 => aJ0_initV h hm hf) ⟨rfl, rfl, rfl, rfl, by decide⟩ rfl (fun _ h => h) (NTo.of (wc := [(a, .inr (0, [.null, .int 0, .int 0, .int 0])), (sb, .inr (1, [.ref vb, .int 0, .int ml, .int (nI k)])), (vb, .inl (cB, m, .inl f))]) tS_ok (fun _ _ h => h) [0, 1, 2] rfl rfl) tS_ok gJ0_init_81219_J0_init_db425 (List.mem_of_getElem? (i := 3) rfl) (List.mem_of_getElem? (i := 1) rfl) (List.mem_of_getElem? (i := 2) rfl) rfl rfl nI_J0_init_db425 ⟨rfl, rfl, (Nat.le_of_ble_eq_true rfl), (Nat.le_of_ble_eq_true rfl), (Nat.le_refl _), (by show 0 + k ≤ k; omega)⟩ dJ0_init_81219_3 (Nat.le_of_ble_eq_true rfl) rfl (fun rv9 w9 hp9 => ?_)
  obtain ⟨c, f1, rfl, rfl, hf1, hk1⟩ := hp9
  refine bv_w (w1 := [(sb, .inr (1, [.ref vb, .int 0, .int ml, .int (nI k)])), (vb, .inl (cB, m, .inl f)), (a, .inr (0, [.ref c, .int 0, .int 0, .int 0])), (c, .inl (cB, k, .inl f1))]) [0, 1, 2, 3] rfl rfl ?_
  exact bv_vret C hE (Nat.le_refl _) (by omega) ⟨c, f1, rfl, rfl, hf1, hk1⟩ dJ0_init_81219_6

theorem nI_J4_toString_0e30d : NameIn yJ4_toString_0e30d 0 := ⟨by decide +kernel, by decide +kernel, by decide +kernel⟩
set_option maxRecDepth 100000 in
set_option maxHeartbeats 4000000 in
theorem aJ4_toString {l : Launch} {D : va_G} {cB : ClassId} {sb vb m k : Nat} {ml : Int32} {f : Nat → Int32} (h : k ≤ m) (hm : m ≤ 65536) (hf : sb_Fit f) : aMet l yJ4_toString_0e30d wsJ4_toString_0e30d { frames := 5, cells := 2, slots := (k + 4), locals := 151 } D vwCl [(cB, .byte)] tS [sb, vb] [.ref sb] [(sb, .inr (1, [.ref vb, .int 0, .int ml, .int (nI k)])), (vb, .inl (cB, m, .inl f))] 2 (k + 4) (fun r u => ∃ (a c : Nat) (f' : Nat → Int32), r = some (.ref a) ∧ u = [(sb, .inr (1, [.ref vb, .int 0, .int ml, .int (nI k)])), (vb, .inl (cB, m, .inl f)), (a, .inr (0, [.ref c, .int 0, .int 0, .int 0])), (c, .inl (cB, k, .inl f'))] ∧ sb_Fit f' ∧ ∀ j, j < k → f' j = f j) := by
  have iJ0 : ∀ w ∈ wsJ00, w ∈ wsJ4_toString_0e30d := fun _ h => List.mem_cons_of_mem _ (List.mem_append_left _ (List.mem_append_right _ h))
  refine aMet.of (cc := cJ4_toString_0e30d) (nL := 1) (ret := (some (.object "java/lang/String"))) (own := RJ4) (lv := [(0, .ref sb)]) (by decide +kernel) rfl rfl tS_ok (Nat.le_of_ble_eq_true rfl) rfl (fun X C hE hI9 => ?_)
  refine bv_new C (T := TJ0) (n := 4) (C9 := RJ0) iJ0 tyJ0 tyJ0_ok (List.mem_of_getElem? (i := 1) rfl) (List.mem_of_getElem? (i := 2) rfl) (List.mem_of_getElem? (i := 3) rfl) (ci := 0) rfl (fs := [.null, .int 0, .int 0, .int 0]) (by decide) (by show 0 + 1 ≤ 2; omega) (by show 0 + 4 ≤ k + 4; omega) dJ4_toString_0e30d_0 (fun a => ?_)
  refine bv_eqw (w1 := [(sb, .inr (1, [.ref vb, .int 0, .int ml, .int (nI k)])), (vb, .inl (cB, m, .inl f)), (a, .inr (0, [.null, .int 0, .int 0, .int 0]))]) rfl ?_
  refine bv_dup C dJ4_toString_0e30d_3 rfl ?_
  refine bv_aload_n C 0 dJ4_toString_0e30d_4 rfl ?_
  refine bv_aI C (As := [.ref sb]) (st := [.ref a]) (wc := [(a, .inr (0, [.null, .int 0, .int 0, .int 0])), (sb, .inr (1, [.ref vb, .int 0, .int ml, .int (nI k)])), (vb, .inl (cB, m, .inl f))]) (wr := []) (isC := [2, 0, 1]) (isR := []) (fun l9 => aJ0_init h hm hf) ⟨rfl, rfl, rfl, rfl, by decide⟩ rfl (fun _ h => h) (NTo.of (wc := [(a, .inr (0, [.null, .int 0, .int 0, .int 0])), (sb, .inr (1, [.ref vb, .int 0, .int ml, .int (nI k)])), (vb, .inl (cB, m, .inl f))]) tS_ok (fun _ _ h => h) [2, 0, 1] rfl rfl) tS_ok gJ4_toString_0e30d_J0_init_81219 (List.mem_of_getElem? (i := 3) rfl) (List.mem_of_getElem? (i := 4) rfl) (List.mem_of_getElem? (i := 5) rfl) rfl rfl nI_J0_init_81219 ⟨rfl, rfl, (Nat.le_of_ble_eq_true rfl), (Nat.le_of_ble_eq_true rfl), (Nat.le_refl _), (by show 0 + 4 + k ≤ k + 4; omega)⟩ dJ4_toString_0e30d_5 (Nat.le_of_ble_eq_true rfl) rfl (fun rv9 w9 hp9 => ?_)
  obtain ⟨c, f1, rfl, rfl, hf1, hk1⟩ := hp9
  refine bv_w (w1 := [(vb, .inl (cB, m, .inl f)), (a, .inr (0, [.ref c, .int 0, .int 0, .int 0])), (sb, .inr (1, [.ref vb, .int 0, .int ml, .int (nI k)])), (c, .inl (cB, k, .inl f1))]) [1, 2, 0, 3] rfl rfl ?_
  refine bv_w (w1 := [(sb, .inr (1, [.ref vb, .int 0, .int ml, .int (nI k)])), (vb, .inl (cB, m, .inl f)), (a, .inr (0, [.ref c, .int 0, .int 0, .int 0])), (c, .inl (cB, k, .inl f1))]) [2, 0, 1, 3] rfl rfl ?_
  exact bv_aret C hE (Or.inl ⟨_, rfl⟩) (Nat.le_refl _) (by omega) ⟨a, c, f1, rfl, rfl, hf1, hk1⟩ dJ4_toString_0e30d_8

