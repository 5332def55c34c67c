/-! STRINGS: what is known of a string that nobody writes; of the JDK's statics. -/
def rS (a b n : Nat) (f : Nat → Int32) : (Nat → Prop) → State → Prop := fun A U => va_O "java/lang/String" a A U U.heap ∧ va_OF "java/lang/String" "coder" "B" (.int 0) a A U U.heap ∧ va_OF "java/lang/String" "value" "[B" (.ref b) a A U U.heap ∧ va_T .byte b n (fun j => .int (f j)) A U U.heap
def cS : (Nat → Prop) → State → Prop := fun A U => va_Z "java/lang/String" "COMPACT_STRINGS" "Z" (.int 1) A U U.heap
def qS : (Nat → Prop) → State → Prop := fun A U => va_Zq "jdk/internal/util/Preconditions" "SIOOBE_FORMATTER" "Ljava/util/function/BiFunction;" A U U.heap
def dgO (j : Nat) : Int32 := nI (48 + j % 10)
def dgT (j : Nat) : Int32 := nI (48 + j / 10)
def dN (tO tT : Nat) : (Nat → Prop) → State → Prop := fun A U => va_Z "java/lang/Integer" "DigitOnes" "[B" (.ref tO) A U U.heap ∧ va_T .byte tO 100 (fun j => .int (dgO j)) A U U.heap ∧ va_Z "java/lang/Integer" "DigitTens" "[B" (.ref tT) A U U.heap ∧ va_T .byte tT 100 (fun j => .int (dgT j)) A U U.heap
theorem rS_ok {a b n : Nat} {f : Nat → Int32} : NOK (rS a b n f) :=
  ⟨fun A U g mk ar h => ⟨va_O.moved (u := U) (U := U.calling g mk ar) (Vm.Alike.refl U.vm) h.1, va_OF.moved (u := U) (U := U.calling g mk ar) (Vm.Alike.refl U.vm) h.2.1, va_OF.moved (u := U) (U := U.calling g mk ar) (Vm.Alike.refl U.vm) h.2.2.1, va_T.moved (u := U) (U := U.calling g mk ar) (Vm.Alike.refl U.vm) h.2.2.2⟩,
   fun A B s U h hW hk hB => ⟨((va_O.moved hW.alike h.1).kept hk).narrow hB, ((va_OF.moved hW.alike h.2.1).kept hk).narrow hB, ((va_OF.moved hW.alike h.2.2.1).kept hk).narrow hB, ((va_T.moved hW.alike h.2.2.2).kept hk).narrow hB⟩⟩
theorem cS_ok : NOK cS := ⟨fun A U g mk ar h => va_Z.moved (u := U) (U := U.calling g mk ar) (Vm.Alike.refl U.vm) h, fun A B s U h hW hk hB => ((va_Z.moved hW.alike h).kept hk).narrow hB⟩
theorem qS_ok : NOK qS := ⟨fun A U g mk ar h => va_Zq.moved (u := U) (U := U.calling g mk ar) (Vm.Alike.refl U.vm) h, fun A B s U h hW hk hB => ((va_Zq.moved hW.alike h).kept hk).narrow hB⟩
theorem dN_ok {tO tT : Nat} : NOK (dN tO tT) :=
  ⟨fun A U g mk ar h => ⟨va_Z.moved (u := U) (U := U.calling g mk ar) (Vm.Alike.refl U.vm) h.1, va_T.moved (u := U) (U := U.calling g mk ar) (Vm.Alike.refl U.vm) h.2.1, va_Z.moved (u := U) (U := U.calling g mk ar) (Vm.Alike.refl U.vm) h.2.2.1, va_T.moved (u := U) (U := U.calling g mk ar) (Vm.Alike.refl U.vm) h.2.2.2⟩,
   fun A B s U h hW hk hB => ⟨((va_Z.moved hW.alike h.1).kept hk).narrow hB, ((va_T.moved hW.alike h.2.1).kept hk).narrow hB, ((va_Z.moved hW.alike h.2.2.1).kept hk).narrow hB, ((va_T.moved hW.alike h.2.2.2).kept hk).narrow hB⟩⟩
theorem dN_O {tO tT : Nat} {A : Nat → Prop} {U : State} (h : dN tO tT A U) : va_Z "java/lang/Integer" "DigitOnes" "[B" (.ref tO) A U U.heap := h.1
theorem dN_TO {tO tT : Nat} {A : Nat → Prop} {U : State} (h : dN tO tT A U) : va_T .byte tO 100 (fun j => .int (dgO j)) A U U.heap := h.2.1
theorem dN_T {tO tT : Nat} {A : Nat → Prop} {U : State} (h : dN tO tT A U) : va_Z "java/lang/Integer" "DigitTens" "[B" (.ref tT) A U U.heap := h.2.2.1
theorem dN_TT {tO tT : Nat} {A : Nat → Prop} {U : State} (h : dN tO tT A U) : va_T .byte tT 100 (fun j => .int (dgT j)) A U U.heap := h.2.2.2
/-- a string whose cells stand in the world, told to a callee that doesn't get them -/
theorem NTo.str {ws : List Cond} {D : va_G} {tys : List (ClassId × FieldType)} {N : (Nat → Prop) → State → Prop} {al alc : List Nat} {w : va_W} (hin : ∀ c ∈ wsJ00, c ∈ ws) {a b n : Nat} {cB : ClassId} {f : Nat → Int32} {z1 z2 : Value} (i j t : Nat) (hi : w[i]? = some (a, .inr (0, [.ref b, .int 0, z1, z2]))) (hj : w[j]? = some (b, .inl (cB, n, .inl f))) (ht : tys[t]? = some (cB, .byte)) (ha : a ∉ alc) (hb : b ∉ alc) : NTo ws D vwCl tys N al w (rS a b n f) alc := by
  intro args s U locs hts hK hN hP hD hS hW
  have ha9 : ¬ gA alc U.heap.size a := fun z => z.elim ha (fun y => by have := (hP i _ hi).lt; omega)
  have hb9 : ¬ gA alc U.heap.size b := fun z => z.elim hb (fun y => by have := (hP j _ hj).lt; omega)
  obtain ⟨r, h1, cell, q1, q2, q3, q4⟩ := hP i _ hi
  have hr : r = (RJ0, TJ0, 4) := Option.some.inj (h1.symm.trans (show vwCl[0]? = some (RJ0, TJ0, 4) from rfl))
  subst hr
  obtain ⟨hSl, hfc, kC, hkC, hkind⟩ := hK.1 0 _ (show vwCl[0]? = some (RJ0, TJ0, 4) from rfl)
  have fld : ∀ (k : Nat) (v : Value), k < 4 → vp_V [.ref b, .int 0, z1, z2] k = v → va_OF (TJ0 k).1 (TJ0 k).2.1 (TJ0 k).2.2.1 v a (gA alc U.heap.size) s U.heap := by
    intro k v hk hv
    obtain ⟨cf, kf, fi, fd, hf, hsl⟩ := hSl k hk
    refine ⟨cf, kf, fi, fd, cell, hf, (u_facts hfc hkC (u_lays hts hin hk) hf).1, q1, (by rw [q3]; exact fun h => (by cases h)), ?_, ha9⟩
    rw [hsl, q4 k hk, hv]
  refine ⟨va_O.moved hW.alike ⟨cell, q1, by rw [q3]; rfl, ?_, ha9⟩, va_OF.moved hW.alike (fld 1 _ (by decide) rfl), va_OF.moved hW.alike (fld 0 _ (by decide) rfl), va_T.moved hW.alike ⟨arrV cB n (fun j => .int (f j)), hP j _ hj, (hK.2 t _ ht).1 n _, (fun h => (by cases h)), ?_, ?_, fun k hk => arrV_read _ _ hk, hb9⟩⟩
  · rw [q2]; exact hfc
  · rw [arrV_size]; exact Nat.le_refl _
  · rw [arrV_size]
section VB
variable {ρ : Type} {X : CX} {res : ρ} {o : Option ρ} {w w' : va_W} {pc : Nat} {lv : List (Nat × Value)} {st stk : List Value} {cc : ByteArray} {nL : Nat} {ret : Option FieldType} {ws : List Cond} {own : String} {rm : Room} {D : va_G} {cl : List vw_C} {tys : List (ClassId × FieldType)} {al : List Nat} {N : (Nat → Prop) → State → Prop} {rv : Option Value}
theorem v_tbald (C : Ok X cc nL ret ws own rm D cl tys al N rv w') {t n : Nat} {f : Nat → Int32} {i : Int32} (hz : ∀ (A : Nat → Prop) (U : State), N A U → va_T .byte t n (fun j => .int (f j)) A U U.heap) (hdg : decode cc pc = .ok (.baload, 1))
    (k : VF X res o w (pc + 1) lv (.int (f i.toNatClampNeg) :: st)) : VF X res (ck (inb i n) o) w pc lv (.int i :: .ref t :: st) := by
  obtain ⟨p, l, e, R, s, m, args, below, meth, c, D', cl', tys', al', N', nL', Q⟩ := X
  obtain ⟨hx, hb, hml, hown, hts, hr, hlk, rfl, hK, hnd, hN, hNK, rfl, rfl, rfl, rfl, rfl, rfl, rfl⟩ := C
  intro hf H locs ls hP hS hl
  exact va_tb hx hb (hz _ _ hN) hS (inb_in (ck_some hf).1) rfl hdg (k (ck_some hf).2 H locs ls hP hS hl)
/-- a call on a string that is known besides the world -/
theorem v_callR (C : Ok X cc nL ret ws own rm D cl tys al N rv w') {y : MethodName} {bytes : ByteArray} {maxL index b : Nat} {retc : Option FieldType} {wsc wsc' : List Cond} {rmc : Room} {As : List Value} {v : Value} {Nc : (Nat → Prop) → State → Prop} (hM : ∀ l : Launch, kMet l y wsc rmc D cl tys Nc [] (.ref b :: As) [] (some v) []) (hNi : ∀ A U, N A U → Nc A U) (hNc : NOK Nc) (hro : ∀ (A : Nat → Prop) (U : State), N A U → va_O y.cls b A U U.heap) (hG : GoodIn ws (wsV own index y.cls y wsc)) (hw : wsc = Cond.code y bytes maxL retc :: wsc') (hnm : NameIn y As.length) (hrm : RoomIn rmc rm maxL) (hdg : decode cc pc = .ok (.invokevirtual index, 3)) (hst : (st.map fun v => v.category).sum ≤ 8) (hstk : stk = As.reverse ++ .ref b :: st)
    (k : VF X res o w (pc + 3) lv (v :: st)) : VF X res o w pc lv stk := by
  obtain ⟨p, l, e, R, s, m, args, below, meth, c, D', cl', tys', al', N', nL', Q⟩ := X
  obtain ⟨hx, hb, hml, hown, hts, hr, hlk, rfl, hK, hnd, hN, hNK, rfl, rfl, rfl, rfl, rfl, rfl, rfl⟩ := C
  intro hf H locs ls hP hS hl
  exact k_call (va_runV (C := y.cls) (As := As) (rest := st) ⟨hx, hb, hml, hown, hts⟩ (hM l H.size) (cwV As.length hts hG hw hrm.1 hrm.2.1 ⟨rfl, hnm⟩ ⟨hrm.2.2.1, hrm.2.2.2⟩) ⟨kPre_blind hNc, va_Orecv (hro _ _ hN) hS, fun U hU hW => ⟨rfl, by rw [hU], fun k q hk => by simp at hk, va_K.moved hW.alike hK, hNc.2 _ _ _ _ (hNi _ _ hN) hW (by rw [hU]; exact hS.2.1) (fun q z => z.elim (fun y => by simp at y) (fun y => Or.inr (Nat.le_trans hS.1 y)))⟩⟩ rfl rfl hl.1 hstk (lv_room hst) hdg ⟨Nat.zero_le _, Nat.zero_le _⟩) hS (fun q h => by simp at h) (fun H1 locs1 _ hkp hS1 => k hf H1 locs1 ls (k_keep hP hkp) hS1 hl)
end VB
/-- a contract that makes nothing, out of one that might -/
theorem aMet.k {l : Launch} {y : MethodName} {ws : List Cond} {rm : Room} {D : va_G} {cl : List vw_C} {tys : List (ClassId × FieldType)} {N : (Nat → Prop) → State → Prop} {al : List Nat} {argv : List Value} {w w' : va_W} {rv : Option Value} (h : aMet l y ws rm D cl tys N al argv w 0 0 (fun r u => r = rv ∧ u = w')) (hal : w.map Prod.fst = al) (hnd : al.Nodup) : kMet l y ws rm D cl tys N al argv w rv w' := by
  intro sz
  refine MetFree.mono (h sz) (fun a s hp => ⟨hp.1, hp.2, gD hnd hal⟩) (fun _ _ _ _ _ h => h) (fun a s o t _ hq => ⟨?_, hq.2⟩)
  obtain ⟨⟨r, u, ho, ⟨rfl, rfl⟩, hP, hD⟩, hF⟩ := hq.1
  exact ⟨⟨ho, hP⟩, hF⟩
