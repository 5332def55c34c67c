theorem nI_J3_checkIndex_8e157 : NameIn yJ3_checkIndex_8e157 3 := ⟨by decide +kernel, by decide +kernel, by decide +kernel⟩
set_option maxRecDepth 100000 in
set_option maxHeartbeats 4000000 in
theorem aJ3_checkIndexN {l : Launch} {D : va_G} {i n : Nat}  (h : i < n) (hn : n < 2 ^ 31) : aMet l yJ3_checkIndex_8e157 wsJ3_checkIndex_8e157 { frames := 0, cells := 0, slots := 0, locals := 0 } D [] [] NT [] [.int (nI i), .int (nI n), .null] [] 0 0 (fun r u => r = some (.int (nI i)) ∧ u = []) := by
  refine aMet.of (cc := cJ3_checkIndex_8e157) (nL := 3) (ret := (some .int)) (own := RJ3) (lv := [(0, .int (nI i)), (1, .int (nI n)), (2, .null)]) (by decide +kernel) rfl rfl NT_ok (Nat.le_of_ble_eq_true rfl) rfl (fun X C hE hI9 => ?_)
  refine bv_iload_n C 0 dJ3_checkIndex_8e157_0 rfl ?_
  refine bv_if_lt_f C 9 dJ3_checkIndex_8e157_1 (by decide) (nI_pos (by omega)) ?_
  refine bv_iload_n C 0 dJ3_checkIndex_8e157_4 rfl ?_
  refine bv_iload_n C 1 dJ3_checkIndex_8e157_5 rfl ?_
  refine bv_icmp_lt_t C dJ3_checkIndex_8e157_6 (tgt := 16) (by decide) ((nI_ltI (by omega) (by omega)).mpr h) ?_
  refine bv_iload_n C 0 dJ3_checkIndex_8e157_16 rfl ?_
  exact bv_iret C hE (Nat.le_of_ble_eq_true rfl) (Nat.le_of_ble_eq_true rfl) ⟨rfl, rfl⟩ dJ3_checkIndex_8e157_17

theorem kJ3_checkIndexN {l : Launch} {i n : Nat} (h : i < n) (hn : n < 2 ^ 31) : pMet l yJ3_checkIndex_8e157 wsJ3_checkIndex_8e157 { frames := 0, cells := 0, slots := 0, locals := 0 } [.int (nI i), .int (nI n), .null] (some (.int (nI i))) := fun D => aMet.k (aJ3_checkIndexN (D := D) h hn) rfl List.nodup_nil
set_option maxRecDepth 100000 in
set_option maxHeartbeats 4000000 in
theorem aJ3_checkIndexR {l : Launch} {D : va_G} {i n : Nat} {x : Nat}  (h : i < n) (hn : n < 2 ^ 31) : aMet l yJ3_checkIndex_8e157 wsJ3_checkIndex_8e157 { frames := 0, cells := 0, slots := 0, locals := 0 } D [] [] NT [] [.int (nI i), .int (nI n), .ref x] [] 0 0 (fun r u => r = some (.int (nI i)) ∧ u = []) := by
  refine aMet.of (cc := cJ3_checkIndex_8e157) (nL := 3) (ret := (some .int)) (own := RJ3) (lv := [(0, .int (nI i)), (1, .int (nI n)), (2, .ref x)]) (by decide +kernel) rfl rfl NT_ok (Nat.le_of_ble_eq_true rfl) rfl (fun X C hE hI9 => ?_)
  refine bv_iload_n C 0 dJ3_checkIndex_8e157_0 rfl ?_
  refine bv_if_lt_f C 9 dJ3_checkIndex_8e157_1 (by decide) (nI_pos (by omega)) ?_
  refine bv_iload_n C 0 dJ3_checkIndex_8e157_4 rfl ?_
  refine bv_iload_n C 1 dJ3_checkIndex_8e157_5 rfl ?_
  refine bv_icmp_lt_t C dJ3_checkIndex_8e157_6 (tgt := 16) (by decide) ((nI_ltI (by omega) (by omega)).mpr h) ?_
  refine bv_iload_n C 0 dJ3_checkIndex_8e157_16 rfl ?_
  exact bv_iret C hE (Nat.le_of_ble_eq_true rfl) (Nat.le_of_ble_eq_true rfl) ⟨rfl, rfl⟩ dJ3_checkIndex_8e157_17

theorem kJ3_checkIndexR {l : Launch} {i n : Nat} {x : Nat} (h : i < n) (hn : n < 2 ^ 31) : pMet l yJ3_checkIndex_8e157 wsJ3_checkIndex_8e157 { frames := 0, cells := 0, slots := 0, locals := 0 } [.int (nI i), .int (nI n), .ref x] (some (.int (nI i))) := fun D => aMet.k (aJ3_checkIndexR (D := D) h hn) rfl List.nodup_nil
