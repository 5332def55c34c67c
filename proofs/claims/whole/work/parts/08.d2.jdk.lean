theorem nI_J5_inflateIfNeededFor_a7421 : NameIn yJ5_inflateIfNeededFor_a7421 1 := ⟨by decide +kernel, by decide +kernel, by decide +kernel⟩
set_option maxRecDepth 100000 in
set_option maxHeartbeats 4000000 in
theorem aJ5_inflateIf {l : Launch} {D : va_G} {cB : ClassId} {sb vb a b n : Nat} {ml cnt : Int32} {g : Nat → Int32}  : aMet l yJ5_inflateIfNeededFor_a7421 wsJ5_inflateIfNeededFor_a7421 { frames := 1, cells := 0, slots := 0, locals := 20 } D vwCl [(cB, .byte)] (sN a b n g) [sb] [.ref sb, .ref a] [(sb, .inr (1, [.ref vb, .int 0, .int ml, .int cnt]))] 0 0 (fun r u => r = none ∧ u = [(sb, .inr (1, [.ref vb, .int 0, .int ml, .int cnt]))]) := by
  have iJ4 : ∀ w ∈ wsJ40, w ∈ wsJ5_inflateIfNeededFor_a7421 := fun _ h => List.mem_cons_of_mem _ (List.mem_append_left _ (List.mem_append_right _ h))
  refine aMet.of (cc := cJ5_inflateIfNeededFor_a7421) (nL := 2) (ret := none) (own := RJ5) (lv := [(0, .ref sb), (1, .ref a)]) (by decide +kernel) rfl rfl sN_ok (Nat.le_of_ble_eq_true rfl) rfl (fun X C hE hI9 => ?_)
  refine bv_gets C (fun _ _ h => h.1) (List.mem_of_getElem? (i := 1) rfl) rfl dJ5_inflateIfNeededFor_a7421_0 ?_
  refine bv_if_eq_f C 21 dJ5_inflateIfNeededFor_a7421_3 (by decide) (by decide) ?_
  refine bv_aload_n C 0 dJ5_inflateIfNeededFor_a7421_6 rfl ?_
  refine bv_get C (T := TJ4) (n := 4) (C9 := RJ4) iJ4 0 rfl rfl 1 (by decide) (List.mem_of_getElem? (i := 2) rfl) rfl rfl dJ5_inflateIfNeededFor_a7421_7 ?_
  refine bv_aload_n C 1 dJ5_inflateIfNeededFor_a7421_10 rfl ?_
  refine bv_kVr C (As := []) (st := [.int 0]) (wc := []) (wr := [(sb, .inr (1, [.ref vb, .int 0, .int ml, .int cnt]))]) (isC := []) (isR := [0]) (wc' := []) (rvc := some (.int 0)) (fun l9 => kJ0_coder) rfl ⟨rfl, rfl, rfl, rfl, by decide⟩ rfl (fun _ h => h) (NTo.of (wc := []) sN_ok (fun _ _ h => h) [] rfl rfl) sN_ok gJ5_inflateIfNeededFor_a7421_J0_coder_7d493 (fun _ _ h => h.2.1) rfl nI_J0_coder_7d493 ⟨rfl, rfl, (Nat.le_of_ble_eq_true rfl), (Nat.le_of_ble_eq_true rfl), (Nat.le_of_ble_eq_true rfl), (Nat.le_of_ble_eq_true rfl)⟩ dJ5_inflateIfNeededFor_a7421_11 (Nat.le_of_ble_eq_true rfl) rfl ?_
  refine bv_eqw (w1 := [(sb, .inr (1, [.ref vb, .int 0, .int ml, .int cnt]))]) rfl ?_
  refine bv_icmp_eq_t C dJ5_inflateIfNeededFor_a7421_14 (tgt := 21) (by decide) rfl ?_
  exact bv_vret C hE (Nat.le_of_ble_eq_true rfl) (Nat.le_of_ble_eq_true rfl) ⟨rfl, rfl⟩ dJ5_inflateIfNeededFor_a7421_21

theorem kJ5_inflateIf {l : Launch} {D : va_G} {cB : ClassId} {sb vb a b n : Nat} {ml cnt : Int32} {g : Nat → Int32}  : kMet l yJ5_inflateIfNeededFor_a7421 wsJ5_inflateIfNeededFor_a7421 { frames := 1, cells := 0, slots := 0, locals := 20 } D vwCl [(cB, .byte)] (sN a b n g) [sb] [.ref sb, .ref a] [(sb, .inr (1, [.ref vb, .int 0, .int ml, .int cnt]))] (none) [(sb, .inr (1, [.ref vb, .int 0, .int ml, .int cnt]))] := aMet.k (aJ5_inflateIf ) rfl nd1
theorem nI_J0_getBytes_840e7 : NameIn yJ0_getBytes_840e7 3 := ⟨by decide +kernel, by decide +kernel, by decide +kernel⟩
set_option maxRecDepth 100000 in
set_option maxHeartbeats 4000000 in
theorem aJ0_getBytes {l : Launch} {D : va_G} {cB : ClassId} {vb m a b n p : Nat} {f g : Nat → Int32} (h : p + n ≤ m) (hm : m ≤ 65536) (hg : sb_Fit g) : aMet l yJ0_getBytes_840e7 wsJ0_getBytes_840e7 { frames := 1, cells := 0, slots := 0, locals := 60 } D vwCl [(cB, .byte)] (sN a b n g) [vb] [.ref a, .ref vb, .int (nI p), .int 0] [(vb, .inl (cB, m, .inl f))] 0 0 (fun r u => r = none ∧ u = [(vb, .inl (cB, m, .inl (va_cpy g f 0 p n)))]) := by
  refine aMet.of (cc := cJ0_getBytes_840e7) (nL := 4) (ret := none) (own := RJ0) (lv := [(0, .ref a), (1, .ref vb), (2, .int (nI p)), (3, .int 0)]) (by decide +kernel) rfl rfl sN_ok (Nat.le_of_ble_eq_true rfl) rfl (fun X C hE hI9 => ?_)
  refine bv_aload_n C 0 dJ0_getBytes_840e7_0 rfl ?_
  refine bv_kVr C (As := []) (st := []) (wc := []) (wr := [(vb, .inl (cB, m, .inl f))]) (isC := []) (isR := [0]) (wc' := []) (rvc := some (.int 0)) (fun l9 => kJ0_coder) rfl ⟨rfl, rfl, rfl, rfl, by decide⟩ rfl (fun _ h => h) (NTo.of (wc := []) sN_ok (fun _ _ h => h) [] rfl rfl) sN_ok gJ0_getBytes_840e7_J0_coder_7d493 (fun _ _ h => h.2.1) rfl nI_J0_coder_7d493 ⟨rfl, rfl, (Nat.le_of_ble_eq_true rfl), (Nat.le_of_ble_eq_true rfl), (Nat.le_of_ble_eq_true rfl), (Nat.le_of_ble_eq_true rfl)⟩ dJ0_getBytes_840e7_1 (Nat.le_of_ble_eq_true rfl) rfl ?_
  refine bv_eqw (w1 := [(vb, .inl (cB, m, .inl f))]) rfl ?_
  refine bv_iload_n C 3 dJ0_getBytes_840e7_4 rfl ?_
  refine bv_icmp_ne_f C 28 dJ0_getBytes_840e7_5 (by decide) rfl ?_
  refine bv_aload_n C 0 dJ0_getBytes_840e7_8 rfl ?_
  refine bv_getr C (fun _ _ h => h.2.2.2.1) (List.mem_of_getElem? (i := 1) rfl) rfl dJ0_getBytes_840e7_9 ?_
  refine bv_iconst C dJ0_getBytes_840e7_12 (v := 0) (by decide) ?_
  refine bv_aload_n C 1 dJ0_getBytes_840e7_13 rfl ?_
  refine bv_iload_n C 2 dJ0_getBytes_840e7_14 rfl ?_
  refine bv_iload_n C 3 dJ0_getBytes_840e7_15 rfl ?_
  refine bv_ishl C dJ0_getBytes_840e7_16 (v := (nI p)) (sb_shl0 _) ?_
  refine bv_aload_n C 0 dJ0_getBytes_840e7_17 rfl ?_
  refine bv_getr C (fun _ _ h => h.2.2.2.1) (List.mem_of_getElem? (i := 1) rfl) rfl dJ0_getBytes_840e7_18 ?_
  refine bv_tlen C (v := nI n) (fun _ _ h => h.2.2.2.2) rfl dJ0_getBytes_840e7_21 ?_
  refine bv_copyt C (w1 := [(vb, .inl (cB, m, .inl (va_cpy g f 0 p n)))]) (List.mem_of_getElem? (i := 2) rfl) (List.mem_of_getElem? (i := 3) rfl) (List.mem_of_getElem? (i := 4) rfl) (List.mem_of_getElem? (i := 5) rfl) (fun _ _ h => h.2.2.2.2) 0 0 rfl rfl (by decide) (nI_pos (by omega)) (nI_pos (by omega)) (by rw [sb_cl0, nI_clamp (by omega)]; omega) (by rw [nI_clamp (by omega), nI_clamp (by omega)]; omega) (fun i _ => hg _) (by rw [sb_cl0, nI_clamp (by omega), nI_clamp (by omega)]; rfl) (Nat.le_of_ble_eq_true rfl) (Nat.le_of_ble_eq_true rfl) dJ0_getBytes_840e7_22 ?_
  refine bv_goto C dJ0_getBytes_840e7_25 (tgt := 43) (by decide) ?_
  exact bv_vret C hE (Nat.le_of_ble_eq_true rfl) (Nat.le_of_ble_eq_true rfl) ⟨rfl, rfl⟩ dJ0_getBytes_840e7_43

theorem kJ0_getBytes {l : Launch} {D : va_G} {cB : ClassId} {vb m a b n p : Nat} {f g : Nat → Int32} (h : p + n ≤ m) (hm : m ≤ 65536) (hg : sb_Fit g) : kMet l yJ0_getBytes_840e7 wsJ0_getBytes_840e7 { frames := 1, cells := 0, slots := 0, locals := 60 } D vwCl [(cB, .byte)] (sN a b n g) [vb] [.ref a, .ref vb, .int (nI p), .int 0] [(vb, .inl (cB, m, .inl f))] (none) [(vb, .inl (cB, m, .inl (va_cpy g f 0 p n)))] := aMet.k (aJ0_getBytes h hm hg) rfl nd1
theorem nI_J5_putStringAt_47b60 : NameIn yJ5_putStringAt_47b60 2 := ⟨by decide +kernel, by decide +kernel, by decide +kernel⟩
set_option maxRecDepth 100000 in
set_option maxHeartbeats 4000000 in
theorem aJ5_putStringAt {l : Launch} {D : va_G} {cB : ClassId} {sb vb m a b n p : Nat} {ml cnt : Int32} {f g : Nat → Int32} (h : p + n ≤ m) (hm : m ≤ 65536) (hg : sb_Fit g) (hne : sb ≠ vb) : aMet l yJ5_putStringAt_47b60 wsJ5_putStringAt_47b60 { frames := 2, cells := 0, slots := 0, locals := 83 } D vwCl [(cB, .byte)] (sN a b n g) [sb, vb] [.ref sb, .int (nI p), .ref a] [(sb, .inr (1, [.ref vb, .int 0, .int ml, .int cnt])), (vb, .inl (cB, m, .inl f))] 0 0 (fun r u => r = none ∧ u = [(sb, .inr (1, [.ref vb, .int 0, .int ml, .int cnt])), (vb, .inl (cB, m, .inl (va_cpy g f 0 p n)))]) := by
  have iJ4 : ∀ w ∈ wsJ40, w ∈ wsJ5_putStringAt_47b60 := fun _ h => List.mem_cons_of_mem _ (List.mem_append_left _ (List.mem_append_right _ h))
  refine aMet.of (cc := cJ5_putStringAt_47b60) (nL := 3) (ret := none) (own := RJ5) (lv := [(0, .ref sb), (1, .int (nI p)), (2, .ref a)]) (by decide +kernel) rfl rfl sN_ok (Nat.le_of_ble_eq_true rfl) rfl (fun X C hE hI9 => ?_)
  refine bv_aload_n C 0 dJ5_putStringAt_47b60_0 rfl ?_
  refine bv_aload_n C 2 dJ5_putStringAt_47b60_1 rfl ?_
  refine bv_kU C (As := [.ref a]) (st := []) (wc := [(sb, .inr (1, [.ref vb, .int 0, .int ml, .int cnt]))]) (wr := [(vb, .inl (cB, m, .inl f))]) (isC := [0]) (isR := [1]) (wc' := [(sb, .inr (1, [.ref vb, .int 0, .int ml, .int cnt]))]) (rvc := none) (fun l9 => kJ5_inflateIf) rfl ⟨rfl, rfl, rfl, rfl, by decide⟩ rfl (fun _ h => h) (NTo.of (wc := [(sb, .inr (1, [.ref vb, .int 0, .int ml, .int cnt]))]) sN_ok (fun _ _ h => h) [0] rfl rfl) sN_ok gJ5_putStringAt_47b60_J5_inflateIfNeededFor_a7421_u397J4 rfl 0 rfl rfl rfl rfl ⟨by decide +kernel, by decide +kernel, (show _ = some 1 from (by decide +kernel))⟩ ⟨rfl, rfl, (Nat.le_of_ble_eq_true rfl), (Nat.le_of_ble_eq_true rfl), (Nat.le_of_ble_eq_true rfl), (Nat.le_of_ble_eq_true rfl)⟩ dJ5_putStringAt_47b60_2 (Nat.le_of_ble_eq_true rfl) rfl ?_
  refine bv_w (w1 := [(sb, .inr (1, [.ref vb, .int 0, .int ml, .int cnt])), (vb, .inl (cB, m, .inl f))]) [1, 0] rfl rfl ?_
  refine bv_aload_n C 2 dJ5_putStringAt_47b60_5 rfl ?_
  refine bv_aload_n C 0 dJ5_putStringAt_47b60_6 rfl ?_
  refine bv_get C (T := TJ4) (n := 4) (C9 := RJ4) iJ4 0 rfl rfl 0 (by decide) (List.mem_of_getElem? (i := 1) rfl) rfl rfl dJ5_putStringAt_47b60_7 ?_
  refine bv_iload_n C 1 dJ5_putStringAt_47b60_10 rfl ?_
  refine bv_aload_n C 0 dJ5_putStringAt_47b60_11 rfl ?_
  refine bv_get C (T := TJ4) (n := 4) (C9 := RJ4) iJ4 0 rfl rfl 1 (by decide) (List.mem_of_getElem? (i := 2) rfl) rfl rfl dJ5_putStringAt_47b60_12 ?_
  refine bv_kVr C (As := [.ref vb, .int (nI p), .int 0]) (st := []) (wc := [(vb, .inl (cB, m, .inl f))]) (wr := [(sb, .inr (1, [.ref vb, .int 0, .int ml, .int cnt]))]) (isC := [1]) (isR := [0]) (wc' := [(vb, .inl (cB, m, .inl (va_cpy g f 0 p n)))]) (rvc := none) (fun l9 => kJ0_getBytes h hm hg) rfl ⟨rfl, rfl, rfl, rfl, by decide⟩ rfl (fun _ h => h) (NTo.of (wc := [(vb, .inl (cB, m, .inl f))]) sN_ok (fun _ _ h => h) [1] rfl rfl) sN_ok gJ5_putStringAt_47b60_J0_getBytes_840e7 (fun _ _ h => h.2.1) rfl nI_J0_getBytes_840e7 ⟨rfl, rfl, (Nat.le_of_ble_eq_true rfl), (Nat.le_of_ble_eq_true rfl), (Nat.le_of_ble_eq_true rfl), (Nat.le_of_ble_eq_true rfl)⟩ dJ5_putStringAt_47b60_15 (Nat.le_of_ble_eq_true rfl) rfl ?_
  refine bv_eqw (w1 := [(sb, .inr (1, [.ref vb, .int 0, .int ml, .int cnt])), (vb, .inl (cB, m, .inl (va_cpy g f 0 p n)))]) rfl ?_
  exact bv_vret C hE (Nat.le_of_ble_eq_true rfl) (Nat.le_of_ble_eq_true rfl) ⟨rfl, rfl⟩ dJ5_putStringAt_47b60_18

theorem kJ5_putStringAt {l : Launch} {D : va_G} {cB : ClassId} {sb vb m a b n p : Nat} {ml cnt : Int32} {f g : Nat → Int32} (h : p + n ≤ m) (hm : m ≤ 65536) (hg : sb_Fit g) (hne : sb ≠ vb) : kMet l yJ5_putStringAt_47b60 wsJ5_putStringAt_47b60 { frames := 2, cells := 0, slots := 0, locals := 83 } D vwCl [(cB, .byte)] (sN a b n g) [sb, vb] [.ref sb, .int (nI p), .ref a] [(sb, .inr (1, [.ref vb, .int 0, .int ml, .int cnt])), (vb, .inl (cB, m, .inl f))] (none) [(sb, .inr (1, [.ref vb, .int 0, .int ml, .int cnt])), (vb, .inl (cB, m, .inl (va_cpy g f 0 p n)))] := aMet.k (aJ5_putStringAt h hm hg hne) rfl (nd2 hne)
