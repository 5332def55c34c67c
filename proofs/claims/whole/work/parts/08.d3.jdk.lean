theorem app_lat {t s : Nat → Nat} {k m n : Nat} {f f1 g : Nat → Int32} (hkm : k ≤ m) (hL : sb_Lat t k f) (hs : sb_Lat s n g) (hk : ∀ j, j < m → f1 j = f j) : sb_Lat (sb_cat t k s) (k + n) (va_cpy g f1 0 k n) := by
  refine sb_latPut hL (fun j hj => ?_) (fun i hi => ?_)
  · rw [pk_cpy_out (by omega)]
    exact hk j (by omega)
  · rw [pk_cpy_in (by omega) (by omega), show 0 + (k + i - k) = i by omega]
    exact hs i hi
theorem nI_J5_append_cf1ce : NameIn yJ5_append_cf1ce 1 := ⟨by decide +kernel, by decide +kernel, by decide +kernel⟩
set_option maxRecDepth 100000 in
set_option maxHeartbeats 4000000 in
theorem aJ5_appendS {l : Launch} {D : va_G} {cB : ClassId} {sb vb m a b n k mc ms : Nat} {ml : Int32} {f g : Nat → Int32} {t s : Nat → Nat} (hkm : k ≤ m) (hm : m ≤ 65536) (hq : k + n ≤ 30000) (hf : sb_Fit f) (hg : sb_Fit g) (hL : sb_Lat t k f) (hs : sb_Lat s n g) (hr : sb_Room (k + n) m mc ms) : aMet l yJ5_append_cf1ce wsJ5_append_cf1ce { frames := 4, cells := mc, slots := ms, locals := 105 } D vwCl [(cB, .byte)] (sN a b n g) [sb, vb] [.ref sb, .ref a] [(sb, .inr (1, [.ref vb, .int 0, .int ml, .int (nI k)])), (vb, .inl (cB, m, .inl f))] mc ms (fun r u => ∃ (c : Nat) (f' : Nat → Int32), r = some (.ref sb) ∧ u = [(sb, .inr (1, [.ref c, .int 0, .int ml, .int (nI (k + n))])), (c, .inl (cB, sb_cap (k + n) m, .inl f'))] ∧ sb_Fit f' ∧ sb_Lat (sb_cat t k s) (k + n) f') := by
  have iJ4 : ∀ w ∈ wsJ40, w ∈ wsJ5_append_cf1ce := fun _ h => List.mem_cons_of_mem _ (List.mem_append_left _ (List.mem_append_right _ h))
  refine aMet.of (cc := cJ5_append_cf1ce) (nL := 3) (ret := (some (.object "java/lang/AbstractStringBuilder"))) (own := RJ5) (lv := [(0, .ref sb), (1, .ref a)]) (by decide +kernel) rfl rfl sN_ok (Nat.le_of_ble_eq_true rfl) rfl (fun X C hE hI9 => ?_)
  refine bv_aload_n C 1 dJ5_append_cf1ce_0 rfl ?_
  refine bv_ifnonnull C dJ5_append_cf1ce_1 (tgt := 9) (by decide) ?_
  refine bv_aload_n C 1 dJ5_append_cf1ce_9 rfl ?_
  refine bv_kVr C (As := []) (st := []) (wc := []) (wr := [(sb, .inr (1, [.ref vb, .int 0, .int ml, .int (nI k)])), (vb, .inl (cB, m, .inl f))]) (isC := []) (isR := [0, 1]) (wc' := []) (rvc := some (.int (nI n))) (fun l9 => kJ0_length) rfl ⟨rfl, rfl, rfl, rfl, by decide⟩ rfl (fun _ h => h) (NTo.of (wc := []) sN_ok (fun _ _ h => h) [] rfl rfl) sN_ok gJ5_append_cf1ce_J0_length_8abf5 (fun _ _ h => h.2.1) rfl nI_J0_length_8abf5 ⟨rfl, rfl, (Nat.le_of_ble_eq_true rfl), (Nat.le_of_ble_eq_true rfl), (Nat.zero_le _), (Nat.zero_le _)⟩ dJ5_append_cf1ce_10 (Nat.le_of_ble_eq_true rfl) rfl ?_
  refine bv_eqw (w1 := [(sb, .inr (1, [.ref vb, .int 0, .int ml, .int (nI k)])), (vb, .inl (cB, m, .inl f))]) rfl ?_
  refine bv_istore_n C (lv' := [(2, .int (nI n)), (0, .ref sb), (1, .ref a)]) dJ5_append_cf1ce_13 rfl (by decide) rfl ?_
  refine bv_aload_n C 1 dJ5_append_cf1ce_14 rfl ?_
  refine bv_aload_n C 1 dJ5_append_cf1ce_15 rfl ?_
  refine bv_get C (T := TJ4) (n := 4) (C9 := RJ4) iJ4 0 rfl rfl 3 (by decide) (List.mem_of_getElem? (i := 1) rfl) rfl rfl dJ5_append_cf1ce_16 ?_
  refine bv_iload_n C 0 dJ5_append_cf1ce_19 rfl ?_
  refine bv_iadd C dJ5_append_cf1ce_20 (v := (nI (k + n))) (nI_add _ _) ?_
  refine bv_aU C (As := [.int (nI (k + n))]) (st := []) (wc := [(sb, .inr (1, [.ref vb, .int 0, .int ml, .int (nI k)])), (vb, .inl (cB, m, .inl f))]) (wr := []) (isC := [0, 1]) (isR := []) (fun l9 => aJ5_ensure hm hq hf hr) ⟨rfl, rfl, rfl, rfl, by decide⟩ rfl (fun _ h => h) NTo.nt NT_ok gJ5_append_cf1ce_J5_ensureCapacityInternal_d00df_u100J4 rfl 0 rfl rfl rfl rfl ⟨by decide +kernel, by decide +kernel, (show _ = some 1 from (by decide +kernel))⟩ ⟨rfl, rfl, (Nat.le_of_ble_eq_true rfl), (Nat.le_of_ble_eq_true rfl), (by show 0 + mc ≤ mc; omega), (by show 0 + ms ≤ ms; omega)⟩ dJ5_append_cf1ce_21 (Nat.le_of_ble_eq_true rfl) rfl (fun rv9 w9 hp9 => ?_)
  obtain ⟨c, f1, rfl, rfl, hf1, hk1⟩ := hp9
  refine bv_w (w1 := [(sb, .inr (1, [.ref c, .int 0, .int ml, .int (nI k)])), (c, .inl (cB, (sb_cap (k + n) m), .inl f1))]) [0, 1] rfl rfl ?_
  have hcg := sb_cap_ge (k + n) m
  have hcl := sb_cap_le hm hr
  refine bv_apart (fun hap => ?_)
  refine bv_aload_n C 1 dJ5_append_cf1ce_24 rfl ?_
  refine bv_aload_n C 1 dJ5_append_cf1ce_25 rfl ?_
  refine bv_get C (T := TJ4) (n := 4) (C9 := RJ4) iJ4 0 rfl rfl 3 (by decide) (List.mem_of_getElem? (i := 1) rfl) rfl rfl dJ5_append_cf1ce_26 ?_
  refine bv_aload_n C 2 dJ5_append_cf1ce_29 rfl ?_
  refine bv_kU C (As := [.int (nI k), .ref a]) (st := []) (wc := [(sb, .inr (1, [.ref c, .int 0, .int ml, .int (nI k)])), (c, .inl (cB, (sb_cap (k + n) m), .inl f1))]) (wr := []) (isC := [0, 1]) (isR := []) (wc' := [(sb, .inr (1, [.ref c, .int 0, .int ml, .int (nI k)])), (c, .inl (cB, (sb_cap (k + n) m), .inl (va_cpy g f1 0 k n)))]) (rvc := none) (fun l9 => kJ5_putStringAt hcg hcl hg (fun z => (List.nodup_cons.mp hap).1 (List.mem_singleton.mpr z))) rfl ⟨rfl, rfl, rfl, rfl, by decide⟩ rfl (fun _ h => h) (NTo.of (wc := [(sb, .inr (1, [.ref c, .int 0, .int ml, .int (nI k)])), (c, .inl (cB, (sb_cap (k + n) m), .inl f1))]) sN_ok (fun _ _ h => h) [0, 1] rfl rfl) sN_ok gJ5_append_cf1ce_J5_putStringAt_47b60_u208J4 rfl 0 rfl rfl rfl rfl ⟨by decide +kernel, by decide +kernel, (show _ = some 2 from (by decide +kernel))⟩ ⟨rfl, rfl, (Nat.le_of_ble_eq_true rfl), (Nat.le_of_ble_eq_true rfl), (by show 0 + mc + 0 ≤ mc; omega), (by show 0 + ms + 0 ≤ ms; omega)⟩ dJ5_append_cf1ce_30 (Nat.le_of_ble_eq_true rfl) rfl ?_
  refine bv_eqw (w1 := [(sb, .inr (1, [.ref c, .int 0, .int ml, .int (nI k)])), (c, .inl (cB, (sb_cap (k + n) m), .inl (va_cpy g f1 0 k n)))]) rfl ?_
  refine bv_aload_n C 1 dJ5_append_cf1ce_33 rfl ?_
  refine bv_dup C dJ5_append_cf1ce_34 rfl ?_
  refine bv_get C (T := TJ4) (n := 4) (C9 := RJ4) iJ4 0 rfl rfl 3 (by decide) (List.mem_of_getElem? (i := 1) rfl) rfl rfl dJ5_append_cf1ce_35 ?_
  refine bv_iload_n C 0 dJ5_append_cf1ce_38 rfl ?_
  refine bv_iadd C dJ5_append_cf1ce_39 (v := (nI (k + n))) (nI_add _ _) ?_
  refine bv_put C (w1 := [(sb, .inr (1, [.ref c, .int 0, .int ml, .int (nI (k + n))])), (c, .inl (cB, (sb_cap (k + n) m), .inl (va_cpy g f1 0 k n)))]) (T := TJ4) (n := 4) (C9 := RJ4) (ty0 := tyJ4) iJ4 tyJ4_ok nmJ4 0 rfl rfl 3 (by decide) (List.mem_of_getElem? (i := 1) rfl) rfl rfl rfl rfl rfl (Nat.le_of_ble_eq_true rfl) rfl dJ5_append_cf1ce_40 ?_
  refine bv_aload_n C 1 dJ5_append_cf1ce_43 rfl ?_
  exact bv_aret C hE (Or.inl ⟨_, rfl⟩) (by omega) (by omega) ⟨c, _, rfl, rfl, sb_fitC hg hf1, app_lat hkm hL hs hk1⟩ dJ5_append_cf1ce_44

theorem nI_J4_append_15ec4 : NameIn yJ4_append_15ec4 1 := ⟨by decide +kernel, by decide +kernel, by decide +kernel⟩
set_option maxRecDepth 100000 in
set_option maxHeartbeats 4000000 in
theorem aJ4_appendS {l : Launch} {D : va_G} {cB : ClassId} {sb vb m a b n k mc ms : Nat} {ml : Int32} {f g : Nat → Int32} {t s : Nat → Nat} (hkm : k ≤ m) (hm : m ≤ 65536) (hq : k + n ≤ 30000) (hf : sb_Fit f) (hg : sb_Fit g) (hL : sb_Lat t k f) (hs : sb_Lat s n g) (hr : sb_Room (k + n) m mc ms) : aMet l yJ4_append_15ec4 wsJ4_append_15ec4 { frames := 5, cells := mc, slots := ms, locals := 127 } D vwCl [(cB, .byte)] (sN a b n g) [sb, vb] [.ref sb, .ref a] [(sb, .inr (1, [.ref vb, .int 0, .int ml, .int (nI k)])), (vb, .inl (cB, m, .inl f))] mc ms (fun r u => ∃ (c : Nat) (f' : Nat → Int32), r = some (.ref sb) ∧ u = [(sb, .inr (1, [.ref c, .int 0, .int ml, .int (nI (k + n))])), (c, .inl (cB, sb_cap (k + n) m, .inl f'))] ∧ sb_Fit f' ∧ sb_Lat (sb_cat t k s) (k + n) f') := by
  refine aMet.of (cc := cJ4_append_15ec4) (nL := 2) (ret := (some (.object "java/lang/StringBuilder"))) (own := RJ4) (lv := [(0, .ref sb), (1, .ref a)]) (by decide +kernel) rfl rfl sN_ok (Nat.le_of_ble_eq_true rfl) rfl (fun X C hE hI9 => ?_)
  refine bv_aload_n C 0 dJ4_append_15ec4_0 rfl ?_
  refine bv_aload_n C 1 dJ4_append_15ec4_1 rfl ?_
  refine bv_aSU C (As := [.ref a]) (st := []) (wc := [(sb, .inr (1, [.ref vb, .int 0, .int ml, .int (nI k)])), (vb, .inl (cB, m, .inl f))]) (wr := []) (isC := [0, 1]) (isR := []) (fun l9 => aJ5_appendS hkm hm hq hf hg hL hs hr) ⟨rfl, rfl, rfl, rfl, by decide⟩ rfl (fun _ h => h) (NTo.of (wc := [(sb, .inr (1, [.ref vb, .int 0, .int ml, .int (nI k)])), (vb, .inl (cB, m, .inl f))]) sN_ok (fun _ _ h => h) [0, 1] rfl rfl) sN_ok gJ4_append_15ec4_J5_append_cf1ce_s29 0 rfl rfl rfl ⟨by decide +kernel, (show _ = some 1 from (by decide +kernel))⟩ ⟨rfl, rfl, (Nat.le_of_ble_eq_true rfl), (Nat.le_of_ble_eq_true rfl), (by show 0 + mc ≤ mc; omega), (by show 0 + ms ≤ ms; omega)⟩ dJ4_append_15ec4_2 (Nat.le_of_ble_eq_true rfl) rfl (fun rv9 w9 hp9 => ?_)
  obtain ⟨c, f1, rfl, rfl, hf1, hL1⟩ := hp9
  refine bv_w (w1 := [(sb, .inr (1, [.ref c, .int 0, .int ml, .int (nI (k + n))])), (c, .inl (cB, (sb_cap (k + n) m), .inl f1))]) [0, 1] rfl rfl ?_
  refine bv_pop C dJ4_append_15ec4_5 rfl ?_
  refine bv_aload_n C 0 dJ4_append_15ec4_6 rfl ?_
  exact bv_aret C hE (Or.inl ⟨_, rfl⟩) (by omega) (by omega) ⟨c, f1, rfl, rfl, hf1, hL1⟩ dJ4_append_15ec4_7

/-- a long's text, as the JDK writes it: z letters s -/
def isDec (v : Int64) (z : Nat) (s : Nat → Nat) : Prop := z ≤ 20 ∧ f_J13_stringSize_95d88 v = some (nI z) ∧ ∀ (m k : Nat) (f : Nat → Int32), k + z ≤ m → m ≤ 65536 → ∃ f' : Nat → Int32, f_J13_getChars_11360 m f v (nI (k + z)) = some (nI k, f') ∧ (∀ j, j < k → f' j = f j) ∧ (∀ i, i < z → s i < 256 ∧ f' (k + i) = sb_b (s i)) ∧ (sb_Fit f → sb_Fit f')

theorem nI_J5_append_66267 : NameIn yJ5_append_66267 1 := ⟨by decide +kernel, by decide +kernel, by decide +kernel⟩
set_option maxRecDepth 100000 in
set_option maxHeartbeats 4000000 in
theorem aJ5_appendL {l : Launch} {D : va_G} {cB : ClassId} {sb vb m k z mc ms tO tT : Nat} {ml : Int32} {f : Nat → Int32} {v : Int64} {t s : Nat → Nat} (hkm : k ≤ m) (hm : m ≤ 65536) (hq : k + z ≤ 30000) (hf : sb_Fit f) (hL : sb_Lat t k f) (hd : isDec v z s) (hr : sb_Room (k + z) m mc ms) : aMet l yJ5_append_66267 wsJ5_append_66267 { frames := 4, cells := mc, slots := ms, locals := 104 } D vwCl [(cB, .byte)] (cD tO tT) [sb, vb] [.ref sb, .long v] [(sb, .inr (1, [.ref vb, .int 0, .int ml, .int (nI k)])), (vb, .inl (cB, m, .inl f))] mc ms (fun r u => ∃ (c : Nat) (f' : Nat → Int32), r = some (.ref sb) ∧ u = [(sb, .inr (1, [.ref c, .int 0, .int ml, .int (nI (k + z))])), (c, .inl (cB, sb_cap (k + z) m, .inl f'))] ∧ sb_Fit f' ∧ sb_Lat (sb_cat t k s) (k + z) f') := by
  have iJ4 : ∀ w ∈ wsJ40, w ∈ wsJ5_append_66267 := fun _ h => List.mem_cons_of_mem _ (List.mem_append_right _ h)
  refine aMet.of (cc := cJ5_append_66267) (nL := 5) (ret := (some (.object "java/lang/AbstractStringBuilder"))) (own := RJ5) (lv := [(0, .ref sb), (1, .long v)]) (by decide +kernel) rfl rfl cD_ok (Nat.le_of_ble_eq_true rfl) rfl (fun X C hE hI9 => ?_)
  refine bv_aload_n C 0 dJ5_append_66267_0 rfl ?_
  refine bv_get C (T := TJ4) (n := 4) (C9 := RJ4) iJ4 0 rfl rfl 3 (by decide) (List.mem_of_getElem? (i := 1) rfl) rfl rfl dJ5_append_66267_1 ?_
  refine bv_istore_n C (lv' := [(3, .int (nI k)), (0, .ref sb), (1, .long v)]) dJ5_append_66267_4 rfl (by decide) rfl ?_
  refine bv_iload_n C 0 dJ5_append_66267_5 rfl ?_
  refine bv_lload_n C 2 dJ5_append_66267_6 rfl ?_
  refine bv_pS C (As := [.long v]) (st := [.int (nI k)]) (rvc := some (.int (nI z))) (fun l9 => k_J13_stringSize_95d88 hd.2.1) gJ5_append_66267_J13_stringSize_95d88 rfl nI_J13_stringSize_95d88 ⟨rfl, rfl, (Nat.le_of_ble_eq_true rfl), (Nat.le_of_ble_eq_true rfl), (Nat.zero_le _), (Nat.zero_le _)⟩ dJ5_append_66267_7 (Nat.le_of_ble_eq_true rfl) rfl ?_
  refine bv_iadd C dJ5_append_66267_10 (v := (nI (k + z))) (nI_add _ _) ?_
  refine bv_istore C (lv' := [(4, .int (nI (k + z))), (3, .int (nI k)), (0, .ref sb), (1, .long v)]) dJ5_append_66267_11 (by decide) rfl ?_
  refine bv_aload_n C 2 dJ5_append_66267_13 rfl ?_
  refine bv_iload C 0 dJ5_append_66267_14 rfl ?_
  refine bv_aU C (As := [.int (nI (k + z))]) (st := []) (wc := [(sb, .inr (1, [.ref vb, .int 0, .int ml, .int (nI k)])), (vb, .inl (cB, m, .inl f))]) (wr := []) (isC := [0, 1]) (isR := []) (fun l9 => aJ5_ensure hm hq hf hr) ⟨rfl, rfl, rfl, rfl, by decide⟩ rfl (fun _ h => h) NTo.nt NT_ok gJ5_append_66267_J5_ensureCapacityInternal_d00df_u100J4 rfl 0 rfl rfl rfl rfl ⟨by decide +kernel, by decide +kernel, (show _ = some 1 from (by decide +kernel))⟩ ⟨rfl, rfl, (Nat.le_of_ble_eq_true rfl), (Nat.le_of_ble_eq_true rfl), (by show 0 + mc ≤ mc; omega), (by show 0 + ms ≤ ms; omega)⟩ dJ5_append_66267_16 (Nat.le_of_ble_eq_true rfl) rfl (fun rv9 w9 hp9 => ?_)
  obtain ⟨c, f1, rfl, rfl, hf1, hk1⟩ := hp9
  refine bv_w (w1 := [(sb, .inr (1, [.ref c, .int 0, .int ml, .int (nI k)])), (c, .inl (cB, (sb_cap (k + z) m), .inl f1))]) [0, 1] rfl rfl ?_
  have hcg := sb_cap_ge (k + z) m
  have hcl := sb_cap_le hm hr
  obtain ⟨f2, g1, g2, g3, g4⟩ := hd.2.2 (sb_cap (k + z) m) k f1 hcg hcl
  refine bv_aload_n C 2 dJ5_append_66267_19 rfl ?_
  refine bv_kU C (As := []) (st := []) (wc := [(sb, .inr (1, [.ref c, .int 0, .int ml, .int (nI k)]))]) (wr := [(c, .inl (cB, (sb_cap (k + z) m), .inl f1))]) (isC := [0]) (isR := [1]) (wc' := [(sb, .inr (1, [.ref c, .int 0, .int ml, .int (nI k)]))]) (rvc := some (.int 1)) (fun l9 => kJ5_isLatin1) rfl ⟨rfl, rfl, rfl, rfl, by decide⟩ rfl (fun _ h => h) (NTo.of (wc := [(sb, .inr (1, [.ref c, .int 0, .int ml, .int (nI k)]))]) cD_ok (fun _ _ h => h.1) [0] rfl rfl) cS_ok gJ5_append_66267_J5_isLatin1_aae02_u83J4 rfl 0 rfl rfl rfl rfl ⟨by decide +kernel, by decide +kernel, (show _ = some 0 from (by decide +kernel))⟩ ⟨rfl, rfl, (Nat.le_of_ble_eq_true rfl), (Nat.le_of_ble_eq_true rfl), (by show 0 + mc + 0 ≤ mc; omega), (by show 0 + ms + 0 ≤ ms; omega)⟩ dJ5_append_66267_20 (Nat.le_of_ble_eq_true rfl) rfl ?_
  refine bv_w (w1 := [(sb, .inr (1, [.ref c, .int 0, .int ml, .int (nI k)])), (c, .inl (cB, (sb_cap (k + z) m), .inl f1))]) [1, 0] rfl rfl ?_
  refine bv_if_eq_f C 40 dJ5_append_66267_23 (by decide) (by decide) ?_
  refine bv_lload_n C 3 dJ5_append_66267_26 rfl ?_
  refine bv_iload C 0 dJ5_append_66267_27 rfl ?_
  refine bv_aload_n C 2 dJ5_append_66267_29 rfl ?_
  refine bv_get C (T := TJ4) (n := 4) (C9 := RJ4) iJ4 0 rfl rfl 0 (by decide) (List.mem_of_getElem? (i := 2) rfl) rfl rfl dJ5_append_66267_30 ?_
  refine bv_kS C (As := [.long v, .int (nI (k + z)), .ref c]) (st := []) (wc := [(c, .inl (cB, (sb_cap (k + z) m), .inl f1))]) (wr := [(sb, .inr (1, [.ref c, .int 0, .int ml, .int (nI k)]))]) (isC := [1]) (isR := [0]) (wc' := [(c, .inl (cB, (sb_cap (k + z) m), .inl f2))]) (rvc := some (.int (nI k))) (fun l9 => k_J13_getChars_11360 (q := fun _ => c) nd1 g1) rfl ⟨rfl, rfl, rfl, rfl, by decide⟩ rfl (fun _ h => h) (NTo.of (wc := [(c, .inl (cB, (sb_cap (k + z) m), .inl f1))]) cD_ok (fun _ _ h => h.2) [1] rfl rfl) dN_ok gJ5_append_66267_J13_getChars_11360 rfl nI_J13_getChars_11360 ⟨rfl, rfl, (Nat.le_of_ble_eq_true rfl), (Nat.le_of_ble_eq_true rfl), (by show 0 + mc + 0 ≤ mc; omega), (by show 0 + ms + 0 ≤ ms; omega)⟩ dJ5_append_66267_33 (Nat.le_of_ble_eq_true rfl) rfl ?_
  refine bv_eqw (w1 := [(sb, .inr (1, [.ref c, .int 0, .int ml, .int (nI k)])), (c, .inl (cB, (sb_cap (k + z) m), .inl f2))]) rfl ?_
  refine bv_pop C dJ5_append_66267_36 rfl ?_
  refine bv_goto C dJ5_append_66267_37 (tgt := 52) (by decide) ?_
  refine bv_aload_n C 2 dJ5_append_66267_52 rfl ?_
  refine bv_iload C 0 dJ5_append_66267_53 rfl ?_
  refine bv_put C (w1 := [(sb, .inr (1, [.ref c, .int 0, .int ml, .int (nI (k + z))])), (c, .inl (cB, (sb_cap (k + z) m), .inl f2))]) (T := TJ4) (n := 4) (C9 := RJ4) (ty0 := tyJ4) iJ4 tyJ4_ok nmJ4 0 rfl rfl 3 (by decide) (List.mem_of_getElem? (i := 1) rfl) rfl rfl rfl rfl rfl (Nat.le_of_ble_eq_true rfl) rfl dJ5_append_66267_55 ?_
  refine bv_aload_n C 2 dJ5_append_66267_58 rfl ?_
  exact bv_aret C hE (Or.inl ⟨_, rfl⟩) (by omega) (by omega) ⟨c, f2, rfl, rfl, g4 hf1, sb_latPut hL (fun j hj => by rw [g2 j hj]; exact hk1 j (by omega)) g3⟩ dJ5_append_66267_59

theorem nI_J4_append_f7089 : NameIn yJ4_append_f7089 1 := ⟨by decide +kernel, by decide +kernel, by decide +kernel⟩
set_option maxRecDepth 100000 in
set_option maxHeartbeats 4000000 in
theorem aJ4_appendL {l : Launch} {D : va_G} {cB : ClassId} {sb vb m k z mc ms tO tT : Nat} {ml : Int32} {f : Nat → Int32} {v : Int64} {t s : Nat → Nat} (hkm : k ≤ m) (hm : m ≤ 65536) (hq : k + z ≤ 30000) (hf : sb_Fit f) (hL : sb_Lat t k f) (hd : isDec v z s) (hr : sb_Room (k + z) m mc ms) : aMet l yJ4_append_f7089 wsJ4_append_f7089 { frames := 5, cells := mc, slots := ms, locals := 128 } D vwCl [(cB, .byte)] (cD tO tT) [sb, vb] [.ref sb, .long v] [(sb, .inr (1, [.ref vb, .int 0, .int ml, .int (nI k)])), (vb, .inl (cB, m, .inl f))] mc ms (fun r u => ∃ (c : Nat) (f' : Nat → Int32), r = some (.ref sb) ∧ u = [(sb, .inr (1, [.ref c, .int 0, .int ml, .int (nI (k + z))])), (c, .inl (cB, sb_cap (k + z) m, .inl f'))] ∧ sb_Fit f' ∧ sb_Lat (sb_cat t k s) (k + z) f') := by
  refine aMet.of (cc := cJ4_append_f7089) (nL := 3) (ret := (some (.object "java/lang/StringBuilder"))) (own := RJ4) (lv := [(0, .ref sb), (1, .long v)]) (by decide +kernel) rfl rfl cD_ok (Nat.le_of_ble_eq_true rfl) rfl (fun X C hE hI9 => ?_)
  refine bv_aload_n C 0 dJ4_append_f7089_0 rfl ?_
  refine bv_lload_n C 1 dJ4_append_f7089_1 rfl ?_
  refine bv_aSU C (As := [.long v]) (st := []) (wc := [(sb, .inr (1, [.ref vb, .int 0, .int ml, .int (nI k)])), (vb, .inl (cB, m, .inl f))]) (wr := []) (isC := [0, 1]) (isR := []) (fun l9 => aJ5_appendL hkm hm hq hf hL hd hr) ⟨rfl, rfl, rfl, rfl, by decide⟩ rfl (fun _ h => h) (NTo.of (wc := [(sb, .inr (1, [.ref vb, .int 0, .int ml, .int (nI k)])), (vb, .inl (cB, m, .inl f))]) cD_ok (fun _ _ h => h) [0, 1] rfl rfl) cD_ok gJ4_append_f7089_J5_append_66267_s56 0 rfl rfl rfl ⟨by decide +kernel, (show _ = some 1 from (by decide +kernel))⟩ ⟨rfl, rfl, (Nat.le_of_ble_eq_true rfl), (Nat.le_of_ble_eq_true rfl), (by show 0 + mc ≤ mc; omega), (by show 0 + ms ≤ ms; omega)⟩ dJ4_append_f7089_2 (Nat.le_of_ble_eq_true rfl) rfl (fun rv9 w9 hp9 => ?_)
  obtain ⟨c, f1, rfl, rfl, hf1, hL1⟩ := hp9
  refine bv_w (w1 := [(sb, .inr (1, [.ref c, .int 0, .int ml, .int (nI (k + z))])), (c, .inl (cB, (sb_cap (k + z) m), .inl f1))]) [0, 1] rfl rfl ?_
  refine bv_pop C dJ4_append_f7089_5 rfl ?_
  refine bv_aload_n C 0 dJ4_append_f7089_6 rfl ?_
  exact bv_aret C hE (Or.inl ⟨_, rfl⟩) (by omega) (by omega) ⟨c, f1, rfl, rfl, hf1, hL1⟩ dJ4_append_f7089_7

theorem nI_J5_init_d00df : NameIn yJ5_init_d00df 1 := ⟨by decide +kernel, by decide +kernel, by decide +kernel⟩
set_option maxRecDepth 100000 in
set_option maxHeartbeats 4000000 in
theorem aJ5_init {l : Launch} {D : va_G} {cB : ClassId} {sb : Nat}  : aMet l yJ5_init_d00df wsJ5_init_d00df { frames := 1, cells := 1, slots := 16, locals := 23 } D vwCl [(cB, .byte)] cS [sb] [.ref sb, .int 16] [(sb, .inr (1, [.null, .int 0, .int 0, .int 0]))] 1 16 (fun r u => ∃ c : Nat, r = none ∧ u = [(sb, .inr (1, [.ref c, .int 0, .int 0, .int 0])), (c, .inl (cB, 16, .inl (fun _ => 0)))]) := by
  have iJ4 : ∀ w ∈ wsJ40, w ∈ wsJ5_init_d00df := fun _ h => List.mem_cons_of_mem _ (List.mem_append_right _ h)
  refine aMet.of (cc := cJ5_init_d00df) (nL := 2) (ret := none) (own := RJ5) (lv := [(0, .ref sb), (1, .int 16)]) (by decide +kernel) rfl rfl cS_ok (Nat.le_of_ble_eq_true rfl) rfl (fun X C hE hI9 => ?_)
  have hI : I2 X := hI9 rfl
  refine bv_aload_n C 0 dJ5_init_d00df_0 rfl ?_
  refine bv_objInit C (List.mem_of_getElem? (i := 1) rfl) (List.mem_of_getElem? (i := 2) rfl) (List.mem_of_getElem? (i := 3) rfl) (Nat.le_of_ble_eq_true rfl) (Nat.le_of_ble_eq_true rfl) dJ5_init_d00df_1 ?_
  refine bv_gets C (fun _ _ h => h) (List.mem_of_getElem? (i := 4) rfl) rfl dJ5_init_d00df_4 ?_
  refine bv_if_eq_f C 25 dJ5_init_d00df_7 (by decide) (by decide) ?_
  refine bv_aload_n C 0 dJ5_init_d00df_10 rfl ?_
  refine bv_iload_n C 1 dJ5_init_d00df_11 rfl ?_
  refine bv_newa C (atype := .byte) (ty := .byte) (cA := cB) rfl (List.mem_of_getElem? (i := 5) rfl) 0 rfl (a0 := (16, .inl (fun _ => 0))) (fun _ => rfl) (by decide) (by decide) (by decide) (Nat.le_refl _) (Nat.le_refl _) (fun _ h => h) dJ5_init_d00df_12 (fun c => ?_)
  refine bv_eqw (w1 := [(sb, .inr (1, [.null, .int 0, .int 0, .int 0])), (c, .inl (cB, 16, .inl (fun _ => 0)))]) rfl ?_
  refine bv_put C (w1 := [(sb, .inr (1, [.ref c, .int 0, .int 0, .int 0])), (c, .inl (cB, 16, .inl (fun _ => 0)))]) (T := TJ4) (n := 4) (C9 := RJ4) (ty0 := tyJ4) iJ4 tyJ4_ok nmJ4 0 rfl rfl 0 (by decide) (List.mem_of_getElem? (i := 6) rfl) rfl rfl rfl rfl rfl (Nat.le_of_ble_eq_true rfl) rfl dJ5_init_d00df_14 ?_
  refine bv_aload_n C 0 dJ5_init_d00df_17 rfl ?_
  refine bv_iconst C dJ5_init_d00df_18 (v := 0) (by decide) ?_
  refine bv_put C (w1 := [(sb, .inr (1, [.ref c, .int 0, .int 0, .int 0])), (c, .inl (cB, 16, .inl (fun _ => 0)))]) (T := TJ4) (n := 4) (C9 := RJ4) (ty0 := tyJ4) iJ4 tyJ4_ok nmJ4 0 rfl rfl 1 (by decide) (List.mem_of_getElem? (i := 7) rfl) rfl rfl rfl rfl rfl (Nat.le_of_ble_eq_true rfl) rfl dJ5_init_d00df_19 ?_
  refine bv_goto C dJ5_init_d00df_22 (tgt := 38) (by decide) ?_
  exact bv_vret C hE (Nat.le_refl _) (Nat.le_refl _) ⟨c, rfl, rfl⟩ dJ5_init_d00df_38

theorem nI_J4_init_da8c8 : NameIn yJ4_init_da8c8 0 := ⟨by decide +kernel, by decide +kernel, by decide +kernel⟩
set_option maxRecDepth 100000 in
set_option maxHeartbeats 4000000 in
theorem aJ4_init {l : Launch} {D : va_G} {cB : ClassId} {sb : Nat}  : aMet l yJ4_init_da8c8 wsJ4_init_da8c8 { frames := 2, cells := 1, slots := 16, locals := 44 } D vwCl [(cB, .byte)] cS [sb] [.ref sb] [(sb, .inr (1, [.null, .int 0, .int 0, .int 0]))] 1 16 (fun r u => ∃ c : Nat, r = none ∧ u = [(sb, .inr (1, [.ref c, .int 0, .int 0, .int 0])), (c, .inl (cB, 16, .inl (fun _ => 0)))]) := by
  refine aMet.of (cc := cJ4_init_da8c8) (nL := 1) (ret := none) (own := RJ4) (lv := [(0, .ref sb)]) (by decide +kernel) rfl rfl cS_ok (Nat.le_of_ble_eq_true rfl) rfl (fun X C hE hI9 => ?_)
  have hI : I2 X := hI9 rfl
  refine bv_aload_n C 0 dJ4_init_da8c8_0 rfl ?_
  refine bv_bipush C dJ4_init_da8c8_1 (v := 16) (by decide) ?_
  refine bv_aI C (As := [.int 16]) (st := []) (wc := [(sb, .inr (1, [.null, .int 0, .int 0, .int 0]))]) (wr := []) (isC := [0]) (isR := []) (fun l9 => aJ5_init) ⟨rfl, rfl, rfl, rfl, by decide⟩ rfl (fun _ h => h) (NTo.of (wc := [(sb, .inr (1, [.null, .int 0, .int 0, .int 0]))]) cS_ok (fun _ _ h => h) [0] rfl rfl) cS_ok gJ4_init_da8c8_J5_init_d00df (List.mem_of_getElem? (i := 3) rfl) (List.mem_of_getElem? (i := 1) rfl) (List.mem_of_getElem? (i := 2) rfl) rfl rfl nI_J5_init_d00df ⟨rfl, rfl, (Nat.le_of_ble_eq_true rfl), (Nat.le_of_ble_eq_true rfl), (Nat.le_of_ble_eq_true rfl), (Nat.le_of_ble_eq_true rfl)⟩ dJ4_init_da8c8_3 (Nat.le_of_ble_eq_true rfl) rfl (fun rv9 w9 hp9 => ?_)
  obtain ⟨c, rfl, rfl⟩ := hp9
  refine bv_w (w1 := [(sb, .inr (1, [.ref c, .int 0, .int 0, .int 0])), (c, .inl (cB, 16, .inl (fun _ => 0)))]) [0, 1] rfl rfl ?_
  exact bv_vret C hE (Nat.le_refl _) (Nat.le_refl _) ⟨c, rfl, rfl⟩ dJ4_init_da8c8_6

