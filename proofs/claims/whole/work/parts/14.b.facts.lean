/-! THE CLAIM OUT OF ONE WALK OF THE LAW'S BODY. Your part is whole_start (and what it stands on); all else here is the same for every law, but numbers. -/
def R_law : String := "PartnerWorthLaw"
def lw_P (b : Addr) (xs : List Int32) (args : Array Value) (s : State) : Prop := args = #[.ref b] ∧ s.IntsAt b xs ∧ xs.length ≤ 2560 ∧ (Jvm.Cond.and given_1 narrow_1).before args s = true
def lw_Q (_ : Array Value) (s : State) (o : Outcome) (t : State) : Prop := o = .returned (some (.int 1)) ∧ Framed s o t [] 600000 7302249
def lw_Z (below : List Frame) (a : Array Value) (s : State) : State → Prop := fun t => ∃ o, t.status = .running ∧ Ended t below o ∧ lw_Q a s o t
/-- the law's own end, with 1 on the stack, nothing written that was there before, its room as the claim has it -/
theorem lw_ret {p : Program} {l : Launch} {e : Env} {s : State} {m : MethodId} {below : List Frame} {meth : Method} {c : Code} {b : Nat} (hx : p.tables.exec = Jvm.exec) (hb : c.code = code) (hr : meth.sig.returnType = ret) (hlocks : meth.locks = false) {pc : Nat} {H : Heap} {ls : Array Slot} (hdg : decode code pc = .ok (.ireturn, 1)) : W p l e room_1 s m #[Value.ref b] below meth c H [] 600000 7302249 (lw_Z below #[Value.ref b] s) (F0 m pc ls [.int 1]) := by
  intro T hT X
  obtain ⟨fs, hret, hrun, hended, hW, hframe⟩ := X.leave (v := some (.int 1)) (hlocks := hlocks) (fun h => by rw [hr] at h; cases h)
  have hmeth' : T.vm.method? m = some meth := X.method'
  refine ⟨T.setFrames fs, ?_, .returned (some (.int 1)), hrun, hended, rfl, ⟨_, rfl⟩, hW, hframe⟩
  jvm_step X.here [X.here.top, hx, hb, hdg, hmeth', hr, ret, narrow_b1]
  (try refine ⟨rfl, ?_⟩); (try refine ⟨rfl, ?_⟩)
  first | (intro acts; rw [hret _ acts rfl rfl rfl]) | rw [hret _ _ rfl rfl rfl]
  exact Steps.refl _
/-- what holds at the law's entry: the machine, the code, the tables' words (any of lw_tbl by 'hts w (by decide +kernel)'), the script of L ints xs at the cell b, what the Statement gives of the start (any of its parts by flat_of_before) -/
def lw_At (p : Program) (s : State) (m : MethodId) (meth : Method) (c : Code) (b L : Nat) (xs : Nat → Int32) : Prop :=
  p.tables.exec = Jvm.exec ∧ c.code = code ∧ meth.sig.returnType = ret ∧ c.maxLocals = 4 ∧ s.vm.findClass R_law = some m.cls ∧ (∀ w ∈ lw_tbl, w.before #[Value.ref b] s = true) ∧ va_X b L xs s s.heap ∧ b < s.heap.size ∧ meth.locks = false ∧ (Jvm.Cond.and given_1 narrow_1).before #[Value.ref b] s = true
set_option maxRecDepth 100000 in
set_option maxHeartbeats 4000000 in
theorem lw_kcl {p : Program} {s : State} {m : MethodId} {meth : Method} {c : Code} {b L : Nat} {xs : Nat → Int32} (C0 : lw_At p s m meth c b L xs) (hw : ∀ w ∈ wsL_law, w.before #[Value.ref b] s = true) : ∃ (D : va_G) (cs : Nat → ClassId), va_K D vwCl (xT cs) s := by
  obtain ⟨hx, hb, hr, hml, hown, hts, hX, hbl, hlocks, hgv⟩ := id C0
  obtain ⟨c0, i0, hK0⟩ := u_known (C := RJ0) (T := TJ0) (N := 4) (n := 4) hw inlJ0 (hts (.instantiable RJ0 4) (by decide +kernel))
  obtain ⟨c1, i1, hK1⟩ := u_known (C := RJ4) (T := TJ4) (N := 4) (n := 4) hw inlJ4 (hts (.instantiable RJ4 4) (by decide +kernel))
  obtain ⟨c2, i2, hK2⟩ := u_known (C := RX0) (T := TX0) (N := 7) (n := 7) hw inlX0 (hts (.instantiable RX0 7) (by decide +kernel))
  obtain ⟨c3, i3, hK3⟩ := u_known (C := RX1) (T := TX1) (N := 1) (n := 1) hw inlX1 (hts (.instantiable RX1 1) (by decide +kernel))
  obtain ⟨c4, i4, hK4⟩ := u_known (C := RX2) (T := TX2) (N := 2) (n := 2) hw inlX2 (hts (.instantiable RX2 2) (by decide +kernel))
  obtain ⟨c5, i5, hK5⟩ := u_known (C := RX3) (T := TX3) (N := 2) (n := 2) hw inlX3 (hts (.instantiable RX3 2) (by decide +kernel))
  obtain ⟨c6, i6, hK6⟩ := u_known (C := RX4) (T := TX4) (N := 4) (n := 4) hw inlX4 (hts (.instantiable RX4 4) (by decide +kernel))
  obtain ⟨c7, i7, hK7⟩ := u_known (C := RX5) (T := TX5) (N := 10) (n := 10) hw inlX5 (hts (.instantiable RX5 10) (by decide +kernel))
  obtain ⟨c8, i8, hK8⟩ := u_known (C := RX6) (T := TX6) (N := 16) (n := 16) hw inlX6 (hts (.instantiable RX6 16) (by decide +kernel))
  obtain ⟨dC, dI, hKc⟩ : ∃ (dC : Nat → ClassId) (dI : Nat → Nat → Nat), ∀ (k : Nat) (q : vw_C), vwCl[k]? = some q → u_Kn s q.1 q.2.1 q.2.2 (dC k) (dI k) := by
    refine ⟨fun k => [c0, c1, c2, c3, c4, c5, c6, c7, c8].getD k 0, fun k => [i0, i1, i2, i3, i4, i5, i6, i7, i8].getD k i0, fun k q hq => ?_⟩
    match k, hq with
    | 0, hq => cases hq; exact hK0
    | 1, hq => cases hq; exact hK1
    | 2, hq => cases hq; exact hK2
    | 3, hq => cases hq; exact hK3
    | 4, hq => cases hq; exact hK4
    | 5, hq => cases hq; exact hK5
    | 6, hq => cases hq; exact hK6
    | 7, hq => cases hq; exact hK7
    | 8, hq => cases hq; exact hK8
    | k + 9, hq => simp [vwCl] at hq
  obtain ⟨a0, k0, p0, e0, f0, g0⟩ := Cond.arrayClass_spec (hts (.arrayClass .int) (by decide +kernel))
  obtain ⟨a1, k1, p1, e1, f1, g1⟩ := Cond.arrayClass_spec (hts (.arrayClass .long) (by decide +kernel))
  obtain ⟨a2, k2, p2, e2, f2, g2⟩ := Cond.arrayClass_spec (hts (.arrayClass .byte) (by decide +kernel))
  obtain ⟨p3, a3, k3, -, f3, g3, e3⟩ := Cond.arrayOver_specA (hts (.arrayOver (.array .long)) (by decide +kernel))
  refine ⟨(dC, dI), fun k => [a0, a1, a2, a3].getD k 0, hKc, fun k q hq => ?_⟩
  match k, hq with
  | 0, hq => cases hq; exact ⟨st_arr f0 g0, e0⟩
  | 1, hq => cases hq; exact ⟨st_arr f1 g1, e1⟩
  | 2, hq => cases hq; exact ⟨st_arr f2 g2, e2⟩
  | 3, hq => cases hq; exact ⟨st_arr f3 g3, e3⟩
  | k + 4, hq => simp [xT] at hq
set_option maxRecDepth 100000 in
set_option maxHeartbeats 4000000 in
def sKB : List (List Int32) := [[], [32], [47]]
theorem lw_facts {p : Program} {s : State} {m : MethodId} {meth : Method} {c : Code} {b L : Nat} {xs : Nat → Int32} (hL : L ≤ 2560) (C0 : lw_At p s m meth c b L xs) : ∃ (tF tO tT e0 k0 e1 k1 e2 k2 : Nat) (fv : Value), lwN tF tO tT e0 k0 (fun j => (sKB.getD 0 []).getD j 0) e1 k1 (fun j => (sKB.getD 1 []).getD j 0) e2 k2 (fun j => (sKB.getD 2 []).getD j 0) fv b L xs (gA [] s.heap.size) s ∧ isQ fv := by
  obtain ⟨hx, hb, hr, hml, hown, hts, hX, hbl, hlocks, hgv⟩ := id C0
  have hn := flat_of_before _ hgv
  have hA : ∀ a : Nat, a < s.heap.size → ¬ gA [] s.heap.size a := fun a h z => z.elim (fun y => absurd y List.not_mem_nil) (fun y => Nat.not_le.mpr h y)
  obtain ⟨tF, qF, TF⟩ := va_Tof (f := fun j => .int (xfac j)) (N := 10) (by decide) (hn (.arrayOf (.static "PartnerWorth" "FACTORIALS" "[I") .int) (by decide +kernel)) (va_eqt (hn (.eq (.length (.static "PartnerWorth" "FACTORIALS" "[I")) (.int 10)) (by decide +kernel))) (fun j hj => va_eqt (lw_dF hgv j hj)) hA
  obtain ⟨tO, qO, TO⟩ := va_Tof (f := fun j => .int (dgO j)) (N := 100) (by decide) (hn (.arrayOf (.static "java/lang/Integer" "DigitOnes" "[B") .byte) (by decide +kernel)) (va_eqt (hn (.eq (.length (.static "java/lang/Integer" "DigitOnes" "[B")) (.int 100)) (by decide +kernel))) (fun j hj => va_eqt (lw_dO hgv j hj)) hA
  obtain ⟨tT, qT, TT⟩ := va_Tof (f := fun j => .int (dgT j)) (N := 100) (by decide) (hn (.arrayOf (.static "java/lang/Integer" "DigitTens" "[B") .byte) (by decide +kernel)) (va_eqt (hn (.eq (.length (.static "java/lang/Integer" "DigitTens" "[B")) (.int 100)) (by decide +kernel))) (fun j hj => va_eqt (lw_dT hgv j hj)) hA
  have ZF := va_Zof (hts (.laysStatic "PartnerWorth" "FACTORIALS" "[I") (by decide +kernel)) (hts (.initialized "PartnerWorth") (by decide +kernel)) qF hA
  have ZO := va_Zof (hts (.laysStatic "java/lang/Integer" "DigitOnes" "[B") (by decide +kernel)) (hts (.initialized "java/lang/Integer") (by decide +kernel)) qO hA
  have ZT := va_Zof (hts (.laysStatic "java/lang/Integer" "DigitTens" "[B") (by decide +kernel)) (hts (.initialized "java/lang/Integer") (by decide +kernel)) qT hA
  have ZC := va_Zof (hts (.laysStatic "java/lang/String" "COMPACT_STRINGS" "Z") (by decide +kernel)) (hts (.initialized "java/lang/String") (by decide +kernel)) (va_eqt (hn (.eq (.static "java/lang/String" "COMPACT_STRINGS" "Z") (.int 1)) (by decide +kernel))) hA
  have ZQ := va_Zqof (hts (.laysStatic "jdk/internal/util/Preconditions" "SIOOBE_FORMATTER" "Ljava/util/function/BiFunction;") (by decide +kernel)) (hts (.initialized "jdk/internal/util/Preconditions") (by decide +kernel)) (hn (.isRef (.static "jdk/internal/util/Preconditions" "SIOOBE_FORMATTER" "Ljava/util/function/BiFunction;")) (by decide +kernel)) hA
  obtain ⟨fv, ZV, hfv⟩ : ∃ fv, va_Z "jdk/internal/util/Preconditions" "SIOOBE_FORMATTER" "Ljava/util/function/BiFunction;" fv (gA [] s.heap.size) s s.heap ∧ isQ fv := by
    rcases ZQ with h | ⟨t, h⟩
    · exact ⟨_, h, Or.inl rfl⟩
    · exact ⟨_, h, Or.inr ⟨t, rfl⟩⟩
  obtain ⟨adK, adV, ⟨hS, -⟩, hev⟩ := vk_Sof (args := #[Value.ref b]) (s := s) (N := 3) (tm := fun i => .string "PartnerWorthModel" ([34, 292, 297].getD i 0)) (len := [0, 1, 1]) (byt := sKB) (A := gA [] s.heap.size)
    (fun i hi => by match i, hi with | 0, _ => decide | 1, _ => decide | 2, _ => decide)
    (fun i hi => by match i, hi with
      | 0, _ => exact hn (.exactly (.string "PartnerWorthModel" 34) "java/lang/String") (by decide +kernel)
      | 1, _ => exact hn (.exactly (.string "PartnerWorthModel" 292) "java/lang/String") (by decide +kernel)
      | 2, _ => exact hn (.exactly (.string "PartnerWorthModel" 297) "java/lang/String") (by decide +kernel))
    (fun i hi => by match i, hi with
      | 0, _ => exact hn (.eq (.field (.string "PartnerWorthModel" 34) "java/lang/String" "coder" "B") (.int 0)) (by decide +kernel)
      | 1, _ => exact hn (.eq (.field (.string "PartnerWorthModel" 292) "java/lang/String" "coder" "B") (.int 0)) (by decide +kernel)
      | 2, _ => exact hn (.eq (.field (.string "PartnerWorthModel" 297) "java/lang/String" "coder" "B") (.int 0)) (by decide +kernel))
    (fun i hi => by match i, hi with
      | 0, _ => exact hn (.arrayOf (.field (.string "PartnerWorthModel" 34) "java/lang/String" "value" "[B") .byte) (by decide +kernel)
      | 1, _ => exact hn (.arrayOf (.field (.string "PartnerWorthModel" 292) "java/lang/String" "value" "[B") .byte) (by decide +kernel)
      | 2, _ => exact hn (.arrayOf (.field (.string "PartnerWorthModel" 297) "java/lang/String" "value" "[B") .byte) (by decide +kernel))
    (fun i hi => by match i, hi with
      | 0, _ => exact hn (.eq (.length (.field (.string "PartnerWorthModel" 34) "java/lang/String" "value" "[B")) (.int 0)) (by decide +kernel)
      | 1, _ => exact hn (.eq (.length (.field (.string "PartnerWorthModel" 292) "java/lang/String" "value" "[B")) (.int 1)) (by decide +kernel)
      | 2, _ => exact hn (.eq (.length (.field (.string "PartnerWorthModel" 297) "java/lang/String" "value" "[B")) (.int 1)) (by decide +kernel))
    (fun i hi j hj => by match i, hi, hj with
      | 0, _, hj => exact absurd hj (Nat.not_lt_zero _)
      | 1, _, hj =>
        obtain rfl : j = 0 := Nat.lt_one_iff.mp hj
        exact hn (.eq (.elem (.field (.string "PartnerWorthModel" 292) "java/lang/String" "value" "[B") (.int 0)) (.int 32)) (by decide +kernel)
      | 2, _, hj =>
        obtain rfl : j = 0 := Nat.lt_one_iff.mp hj
        exact hn (.eq (.elem (.field (.string "PartnerWorthModel" 297) "java/lang/String" "value" "[B") (.int 0)) (.int 47)) (by decide +kernel))
    (fun i j hi hj hij => by
      have n1 := hn (.not (.eq (.string "PartnerWorthModel" 34) (.string "PartnerWorthModel" 292))) (by decide +kernel)
      have n2 := hn (.not (.eq (.string "PartnerWorthModel" 34) (.string "PartnerWorthModel" 297))) (by decide +kernel)
      have n3 := hn (.not (.eq (.string "PartnerWorthModel" 292) (.string "PartnerWorthModel" 297))) (by decide +kernel)
      match i, j, hi, hj, hij with
      | 0, 0, _, _, h => exact absurd rfl h
      | 1, 1, _, _, h => exact absurd rfl h
      | 2, 2, _, _, h => exact absurd rfl h
      | 0, 1, _, _, _ => exact Or.inl n1
      | 0, 2, _, _, _ => exact Or.inl n2
      | 1, 2, _, _, _ => exact Or.inl n3
      | 1, 0, _, _, _ => exact Or.inr n1
      | 2, 0, _, _, _ => exact Or.inr n2
      | 2, 1, _, _, _ => exact Or.inr n3) hA
  have hT : va_T .int b L (fun j => .int (xs j)) (gA [] s.heap.size) s s.heap := by
    obtain ⟨scr, h1, h2, h3, h4, h5⟩ := hX
    exact ⟨scr, h1, h2, h3, by omega, by rw [h4], h5, hA b hbl⟩
  refine ⟨tF, tO, tT, adK 0, adV 0, adK 1, adV 1, adK 2, adV 2, fv, ⟨⟨⟨ZF, TF, va_Nw.of rfl (hts _ (by decide +kernel)), va_Nw.of rfl (hts _ (by decide +kernel)), va_Nw.of rfl (hts _ (by decide +kernel)), va_Nw.of rfl (hts _ (by decide +kernel))⟩, va_AOA.of (hts (.arrayOver (.array .long)) (by decide +kernel)), va_Nw.of rfl (hts _ (by decide +kernel)), va_Nw.of rfl (hts _ (by decide +kernel)), va_Nw.of rfl (hts _ (by decide +kernel)), va_Nw.of rfl (hts _ (by decide +kernel)), va_Nw.of rfl (hts _ (by decide +kernel))⟩, ⟨ZC, va_Nw.of rfl (hts _ (by decide +kernel)), ⟨ZO, TO, ZT, TT⟩, vk_R.of (hts (.stringRef "PartnerWorthModel" 34 "") (by decide +kernel)) (hev 0 (by decide)), hS 0 (by decide), vk_R.of (hts (.stringRef "PartnerWorthModel" 292 " ") (by decide +kernel)) (hev 1 (by decide)), hS 1 (by decide), vk_R.of (hts (.stringRef "PartnerWorthModel" 297 "/") (by decide +kernel)) (hev 2 (by decide)), hS 2 (by decide)⟩, ZV, hT⟩, hfv⟩
