def qV (v : Value) : (Nat → Prop) → State → Prop := fun A U => va_Z "jdk/internal/util/Preconditions" "SIOOBE_FORMATTER" "Ljava/util/function/BiFunction;" v A U U.heap
theorem qV_ok {v : Value} : NOK (qV v) := ⟨fun A U g mk ar h => va_Z.moved (u := U) (U := U.calling g mk ar) (Vm.Alike.refl U.vm) h, fun A B s U h hW hk hB => ((va_Z.moved hW.alike h).kept hk).narrow hB⟩
def isQ (v : Value) : Prop := v = .null ∨ ∃ x, v = .ref x
abbrev cV (v : Value) (a b n : Nat) (f : Nat → Int32) : (Nat → Prop) → State → Prop := fun A U => sN a b n f A U ∧ qV v A U
theorem cV_ok {v : Value} {a b n : Nat} {f : Nat → Int32} : NOK (cV v a b n f) := NOK.and sN_ok qV_ok
def chB (x : Int32) : Int32 := ((x &&& 255).toUInt32 % 65536).toInt32
theorem nI_J0_checkIndex_df160 : NameIn yJ0_checkIndex_df160 2 := ⟨by decide +kernel, by decide +kernel, by decide +kernel⟩
set_option maxRecDepth 100000 in
set_option maxHeartbeats 4000000 in
theorem aJ0_checkIndex {l : Launch} {D : va_G} {v : Value} {i n : Nat} {tys : List (ClassId × FieldType)} (hv : isQ v) (h : i < n) (hn : n < 2 ^ 31) : aMet l yJ0_checkIndex_df160 wsJ0_checkIndex_df160 { frames := 1, cells := 0, slots := 0, locals := 22 } D vwCl tys (qV v) [] [.int (nI i), .int (nI n)] [] 0 0 (fun r u => r = none ∧ u = []) := by
  refine aMet.of (cc := cJ0_checkIndex_df160) (nL := 2) (ret := none) (own := RJ0) (lv := [(0, .int (nI i)), (1, .int (nI n))]) (by decide +kernel) rfl rfl qV_ok (Nat.le_of_ble_eq_true rfl) rfl (fun X C hE hI9 => ?_)
  refine bv_iload_n C 0 dJ0_checkIndex_df160_0 rfl ?_
  refine bv_iload_n C 1 dJ0_checkIndex_df160_1 rfl ?_
  rcases hv with rfl | ⟨x, rfl⟩
  · refine bv_gets C (fun _ _ h => h) (List.mem_of_getElem? (i := 1) rfl) rfl dJ0_checkIndex_df160_2 ?_
    refine bv_pS C (As := [.int (nI i), .int (nI n), .null]) (st := []) (rvc := some (.int (nI i))) (fun l9 => kJ3_checkIndexN h hn) gJ0_checkIndex_df160_J3_checkIndex_8e157 rfl nI_J3_checkIndex_8e157 ⟨rfl, rfl, (Nat.le_of_ble_eq_true rfl), (Nat.le_of_ble_eq_true rfl), (Nat.le_of_ble_eq_true rfl), (Nat.le_of_ble_eq_true rfl)⟩ dJ0_checkIndex_df160_5 (Nat.le_of_ble_eq_true rfl) rfl ?_
    refine bv_pop C dJ0_checkIndex_df160_8 rfl ?_
    exact bv_vret C hE (Nat.le_of_ble_eq_true rfl) (Nat.le_of_ble_eq_true rfl) ⟨rfl, rfl⟩ dJ0_checkIndex_df160_9
  · refine bv_gets C (fun _ _ h => h) (List.mem_of_getElem? (i := 1) rfl) rfl dJ0_checkIndex_df160_2 ?_
    refine bv_pS C (As := [.int (nI i), .int (nI n), .ref x]) (st := []) (rvc := some (.int (nI i))) (fun l9 => kJ3_checkIndexR h hn) gJ0_checkIndex_df160_J3_checkIndex_8e157 rfl nI_J3_checkIndex_8e157 ⟨rfl, rfl, (Nat.le_of_ble_eq_true rfl), (Nat.le_of_ble_eq_true rfl), (Nat.le_of_ble_eq_true rfl), (Nat.le_of_ble_eq_true rfl)⟩ dJ0_checkIndex_df160_5 (Nat.le_of_ble_eq_true rfl) rfl ?_
    refine bv_pop C dJ0_checkIndex_df160_8 rfl ?_
    exact bv_vret C hE (Nat.le_of_ble_eq_true rfl) (Nat.le_of_ble_eq_true rfl) ⟨rfl, rfl⟩ dJ0_checkIndex_df160_9

theorem kJ0_checkIndex {l : Launch} {D : va_G} {v : Value} {i n : Nat} {tys : List (ClassId × FieldType)} (hv : isQ v) (h : i < n) (hn : n < 2 ^ 31) : kMet l yJ0_checkIndex_df160 wsJ0_checkIndex_df160 { frames := 1, cells := 0, slots := 0, locals := 22 } D vwCl tys (qV v) [] [.int (nI i), .int (nI n)] [] (none) [] := aMet.k (aJ0_checkIndex hv h hn) rfl List.nodup_nil
theorem nI_J1_charAt_3b067 : NameIn yJ1_charAt_3b067 2 := ⟨by decide +kernel, by decide +kernel, by decide +kernel⟩
set_option maxRecDepth 100000 in
set_option maxHeartbeats 4000000 in
theorem aJ1_charAt {l : Launch} {D : va_G} {v : Value} {a b n i : Nat} {g : Nat → Int32} {tys : List (ClassId × FieldType)} (hv : isQ v) (h : i < n) (hn : n < 2 ^ 31) : aMet l yJ1_charAt_3b067 wsJ1_charAt_3b067 { frames := 2, cells := 0, slots := 0, locals := 43 } D vwCl tys (cV v a b n g) [] [.ref b, .int (nI i)] [] 0 0 (fun r u => r = some (.int (chB (g i))) ∧ u = []) := by
  refine aMet.of (cc := cJ1_charAt_3b067) (nL := 2) (ret := (some .char)) (own := RJ1) (lv := [(0, .ref b), (1, .int (nI i))]) (by decide +kernel) rfl rfl cV_ok (Nat.le_of_ble_eq_true rfl) rfl (fun X C hE hI9 => ?_)
  refine bv_iload_n C 1 dJ1_charAt_3b067_0 rfl ?_
  refine bv_aload_n C 0 dJ1_charAt_3b067_1 rfl ?_
  refine bv_tlen C (v := nI n) (fun _ _ h => h.1.2.2.2.2) rfl dJ1_charAt_3b067_2 ?_
  refine bv_kS C (As := [.int (nI i), .int (nI n)]) (st := []) (wc := []) (wr := []) (isC := []) (isR := []) (wc' := []) (rvc := none) (fun l9 => kJ0_checkIndex hv h hn) rfl ⟨rfl, rfl, rfl, rfl, by decide⟩ rfl (fun _ h => h) (NTo.of (wc := []) cV_ok (fun _ _ h => h.2) [] rfl rfl) qV_ok gJ1_charAt_3b067_J0_checkIndex_df160 rfl nI_J0_checkIndex_df160 ⟨rfl, rfl, (Nat.le_of_ble_eq_true rfl), (Nat.le_of_ble_eq_true rfl), (Nat.le_of_ble_eq_true rfl), (Nat.le_of_ble_eq_true rfl)⟩ dJ1_charAt_3b067_3 (Nat.le_of_ble_eq_true rfl) rfl ?_
  refine bv_eqw (w1 := []) rfl ?_
  refine bv_aload_n C 0 dJ1_charAt_3b067_6 rfl ?_
  refine bv_iload_n C 1 dJ1_charAt_3b067_7 rfl ?_
  refine bv_tb C (v := .int (g i)) (fun _ _ h => h.1.2.2.2.2) (vp_in_nI h (by omega)) (by rw [nI_clamp (by omega)]) dJ1_charAt_3b067_8 ?_
  refine bv_sipush C dJ1_charAt_3b067_9 (v := 255) (by decide) ?_
  refine bv_iand C dJ1_charAt_3b067_12 (v := (g i &&& 255)) rfl ?_
  refine bv_i2c C dJ1_charAt_3b067_13 (v := (chB (g i))) rfl ?_
  exact bv_zret C hE (pk_nc _) (Nat.le_of_ble_eq_true rfl) (Nat.le_of_ble_eq_true rfl) ⟨rfl, rfl⟩ dJ1_charAt_3b067_14

theorem kJ1_charAt {l : Launch} {D : va_G} {v : Value} {a b n i : Nat} {g : Nat → Int32} {tys : List (ClassId × FieldType)} (hv : isQ v) (h : i < n) (hn : n < 2 ^ 31) : kMet l yJ1_charAt_3b067 wsJ1_charAt_3b067 { frames := 2, cells := 0, slots := 0, locals := 43 } D vwCl tys (cV v a b n g) [] [.ref b, .int (nI i)] [] (some (.int (chB (g i)))) [] := aMet.k (aJ1_charAt hv h hn) rfl List.nodup_nil
theorem nI_J0_isLatin1_aae02 : NameIn yJ0_isLatin1_aae02 0 := ⟨by decide +kernel, by decide +kernel, by decide +kernel⟩
set_option maxRecDepth 100000 in
set_option maxHeartbeats 4000000 in
theorem aJ0_isLatin1 {l : Launch} {D : va_G} {a b n : Nat} {g : Nat → Int32} {tys : List (ClassId × FieldType)}  : aMet l yJ0_isLatin1_aae02 wsJ0_isLatin1_aae02 { frames := 0, cells := 0, slots := 0, locals := 0 } D vwCl tys (sN a b n g) [] [.ref a] [] 0 0 (fun r u => r = some (.int 1) ∧ u = []) := by
  refine aMet.of (cc := cJ0_isLatin1_aae02) (nL := 1) (ret := (some .boolean)) (own := RJ0) (lv := [(0, .ref a)]) (by decide +kernel) rfl rfl sN_ok (Nat.le_of_ble_eq_true rfl) rfl (fun X C hE hI9 => ?_)
  refine bv_gets C (fun _ _ h => h.1) (List.mem_of_getElem? (i := 1) rfl) rfl dJ0_isLatin1_aae02_0 ?_
  refine bv_if_eq_f C 17 dJ0_isLatin1_aae02_3 (by decide) (by decide) ?_
  refine bv_aload_n C 0 dJ0_isLatin1_aae02_6 rfl ?_
  refine bv_getr C (fun _ _ h => h.2.2.1) (List.mem_of_getElem? (i := 2) rfl) rfl dJ0_isLatin1_aae02_7 ?_
  refine bv_if_ne_f C 17 dJ0_isLatin1_aae02_10 (by decide) rfl ?_
  refine bv_iconst C dJ0_isLatin1_aae02_13 (v := 1) (by decide) ?_
  refine bv_goto C dJ0_isLatin1_aae02_14 (tgt := 18) (by decide) ?_
  exact bv_zret C hE rfl (Nat.le_of_ble_eq_true rfl) (Nat.le_of_ble_eq_true rfl) ⟨rfl, rfl⟩ dJ0_isLatin1_aae02_18

theorem kJ0_isLatin1 {l : Launch} {D : va_G} {a b n : Nat} {g : Nat → Int32} {tys : List (ClassId × FieldType)}  : kMet l yJ0_isLatin1_aae02 wsJ0_isLatin1_aae02 { frames := 0, cells := 0, slots := 0, locals := 0 } D vwCl tys (sN a b n g) [] [.ref a] [] (some (.int 1)) [] := aMet.k (aJ0_isLatin1 ) rfl List.nodup_nil
theorem nI_J0_charAt_5068e : NameIn yJ0_charAt_5068e 1 := ⟨by decide +kernel, by decide +kernel, by decide +kernel⟩
set_option maxRecDepth 100000 in
set_option maxHeartbeats 4000000 in
theorem aJ0_charAt {l : Launch} {D : va_G} {v : Value} {a b n i : Nat} {g : Nat → Int32} {tys : List (ClassId × FieldType)} (hv : isQ v) (h : i < n) (hn : n < 2 ^ 31) : aMet l yJ0_charAt_5068e wsJ0_charAt_5068e { frames := 3, cells := 0, slots := 0, locals := 64 } D vwCl tys (cV v a b n g) [] [.ref a, .int (nI i)] [] 0 0 (fun r u => r = some (.int (chB (g i))) ∧ u = []) := by
  refine aMet.of (cc := cJ0_charAt_5068e) (nL := 2) (ret := (some .char)) (own := RJ0) (lv := [(0, .ref a), (1, .int (nI i))]) (by decide +kernel) rfl rfl cV_ok (Nat.le_of_ble_eq_true rfl) rfl (fun X C hE hI9 => ?_)
  refine bv_aload_n C 0 dJ0_charAt_5068e_0 rfl ?_
  refine bv_kVr C (As := []) (st := []) (wc := []) (wr := []) (isC := []) (isR := []) (wc' := []) (rvc := some (.int 1)) (fun l9 => kJ0_isLatin1) rfl ⟨rfl, rfl, rfl, rfl, by decide⟩ rfl (fun _ h => h) (NTo.of (wc := []) cV_ok (fun _ _ h => h.1) [] rfl rfl) sN_ok gJ0_charAt_5068e_J0_isLatin1_aae02 (fun _ _ h => h.1.2.1) rfl nI_J0_isLatin1_aae02 ⟨rfl, rfl, (Nat.le_of_ble_eq_true rfl), (Nat.le_of_ble_eq_true rfl), (Nat.le_of_ble_eq_true rfl), (Nat.le_of_ble_eq_true rfl)⟩ dJ0_charAt_5068e_1 (Nat.le_of_ble_eq_true rfl) rfl ?_
  refine bv_eqw (w1 := []) rfl ?_
  refine bv_if_eq_f C 16 dJ0_charAt_5068e_4 (by decide) (by decide) ?_
  refine bv_aload_n C 0 dJ0_charAt_5068e_7 rfl ?_
  refine bv_getr C (fun _ _ h => h.1.2.2.2.1) (List.mem_of_getElem? (i := 1) rfl) rfl dJ0_charAt_5068e_8 ?_
  refine bv_iload_n C 1 dJ0_charAt_5068e_11 rfl ?_
  refine bv_kS C (As := [.ref b, .int (nI i)]) (st := []) (wc := []) (wr := []) (isC := []) (isR := []) (wc' := []) (rvc := some (.int (chB (g i)))) (fun l9 => kJ1_charAt hv h hn) rfl ⟨rfl, rfl, rfl, rfl, by decide⟩ rfl (fun _ h => h) (NTo.of (wc := []) cV_ok (fun _ _ h => h) [] rfl rfl) cV_ok gJ0_charAt_5068e_J1_charAt_3b067 rfl nI_J1_charAt_3b067 ⟨rfl, rfl, (Nat.le_of_ble_eq_true rfl), (Nat.le_of_ble_eq_true rfl), (Nat.le_of_ble_eq_true rfl), (Nat.le_of_ble_eq_true rfl)⟩ dJ0_charAt_5068e_12 (Nat.le_of_ble_eq_true rfl) rfl ?_
  refine bv_eqw (w1 := []) rfl ?_
  exact bv_zret C hE (pk_nc _) (Nat.le_of_ble_eq_true rfl) (Nat.le_of_ble_eq_true rfl) ⟨rfl, rfl⟩ dJ0_charAt_5068e_15

theorem kJ0_charAt {l : Launch} {D : va_G} {v : Value} {a b n i : Nat} {g : Nat → Int32} {tys : List (ClassId × FieldType)} (hv : isQ v) (h : i < n) (hn : n < 2 ^ 31) : kMet l yJ0_charAt_5068e wsJ0_charAt_5068e { frames := 3, cells := 0, slots := 0, locals := 64 } D vwCl tys (cV v a b n g) [] [.ref a, .int (nI i)] [] (some (.int (chB (g i)))) [] := aMet.k (aJ0_charAt hv h hn) rfl List.nodup_nil
theorem kJ0_charAtI {l : Launch} {D : va_G} {v : Value} {a b n : Nat} {g : Nat → Int32} {tys : List (ClassId × FieldType)} (hv : isQ v) (hn : n < 2 ^ 31) {i : Int32} (h : inb i n = true) : kMet l yJ0_charAt_5068e wsJ0_charAt_5068e { frames := 3, cells := 0, slots := 0, locals := 64 } D vwCl tys (cV v a b n g) [] [.ref a, .int i] [] (some (.int (chB (g i.toNatClampNeg)))) [] := by
  have h0 : inb i n = true := h
  simp only [inb, Bool.and_eq_true, decide_eq_true_eq] at h
  obtain ⟨k, h1, rfl⟩ := nI_of h.1
  rw [nI_clamp h1] at h ⊢
  exact kJ0_charAt hv h.2 hn
section VCH
variable {ρ : Type} {X : CX} {res : ρ} {o : Option ρ} {w w' : va_W} {pc : Nat} {lv : List (Nat × Value)} {st stk : List Value} {cc : ByteArray} {nL : Nat} {ret : Option FieldType} {ws : List Cond} {own : String} {rm : Room} {D : va_G} {tys : List (ClassId × FieldType)} {al : List Nat} {N : (Nat → Prop) → State → Prop} {rv : Option Value}
theorem v_charAt (C : Ok X cc nL ret ws own rm D vwCl tys al N rv w') {index a b n : Nat} {g : Nat → Int32} {v : Value} {i : Int32} (hv : isQ v) (hn : n < 2 ^ 31) (hNi : ∀ A U, N A U → cV v a b n g A U) (hG : GoodIn ws (wsV own index yJ0_charAt_5068e.cls yJ0_charAt_5068e wsJ0_charAt_5068e)) (hrm : RoomIn { frames := 3, cells := 0, slots := 0, locals := 64 } rm 2) (hdg : decode cc pc = .ok (.invokevirtual index, 3)) (hst : (st.map fun v => v.category).sum ≤ 8)
    (k : VF X res o w (pc + 3) lv (.int (chB (g i.toNatClampNeg)) :: st)) : VF X res (ck (inb i n) o) w pc lv (.int i :: .ref a :: st) := by
  intro hf
  exact v_callR (As := [.int i]) (st := st) C (fun l => kJ0_charAtI hv hn (ck_some hf).1) hNi cV_ok (fun A U h => (hNi A U h).1.2.1) hG rfl nI_J0_charAt_5068e hrm hdg hst rfl k (ck_some hf).2
theorem v_strLen (C : Ok X cc nL ret ws own rm D vwCl tys al N rv w') {index a b n : Nat} {g : Nat → Int32} (hNi : ∀ A U, N A U → sN a b n g A U) (hG : GoodIn ws (wsV own index yJ0_length_8abf5.cls yJ0_length_8abf5 wsJ0_length_8abf5)) (hrm : RoomIn { frames := 1, cells := 0, slots := 0, locals := 20 } rm 1) (hdg : decode cc pc = .ok (.invokevirtual index, 3)) (hst : (st.map fun v => v.category).sum ≤ 8)
    (k : VF X res o w (pc + 3) lv (.int (nI n) :: st)) : VF X res o w pc lv (.ref a :: st) :=
  v_callR (As := []) (st := st) C (fun l => kJ0_length) hNi sN_ok (fun A U h => (hNi A U h).2.1) hG rfl nI_J0_length_8abf5 hrm hdg hst rfl k
end VCH
