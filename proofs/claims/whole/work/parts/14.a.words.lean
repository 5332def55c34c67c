theorem st_arr {s : State} {cA : ClassId} {k : Class} {comp : ClassId} {ty : FieldType} (h2 : s.vm.classes[cA]? = some k) (h3 : k.kind = .array comp ty) : ArrOfT s cA ty := fun n z => ⟨fun k h => (by cases h), _, h2, comp, h3⟩
theorem lw_sel6 {y : MethodName} {C : String} {n : Nat} {s : State} {args : Array Value} (hy : y.cls ≠ "java/lang/invoke/MethodHandle" ∧ y.cls ≠ "java/lang/invoke/VarHandle") (hins : (Cond.instantiable C n).before args s = true) (hpriv : (Cond.privateMethod y).before args s = true) (hinst : (Cond.instanceMethod y).before args s = true) (hsame : (Cond.sameMethod y.cls y.cls y.name y.desc).before args s = true) : (Cond.selects C y y).before args s = true := by
  obtain ⟨c, k, hc, -⟩ := Cond.instantiable_spec hins
  obtain ⟨mk, methM, hnamed, hmethM, -, -⟩ := Cond.instanceMethod_spec hinst
  have hfound : s.methodFound? y.cls y.name y.desc = some mk := State.methodFound?_of_named hnamed hy
  have hfc := findClass_of_methodNamed hnamed
  have hsel : selectMethod {} s.vm c mk = .method mk := selectMethod_private hmethM (Cond.privateMethod_at hpriv mk methM hnamed hmethM)
  simp only [Cond.before, Cond.holds, Cond.value, hfc, hfound, hnamed] at hsame
  simp only [Cond.before, Cond.holds, Cond.value, hc, hfound, hnamed, hsel]
  simpa using hsame
theorem lw_x6_ok {s : State} {args : Array Value} (hts : ∀ w ∈ lw_tbl, w.before args s = true) : ∀ w ∈ lw_x6, w.before args s = true := by
  have k : ∀ y : MethodName, y.cls = "java/lang/AbstractStringBuilder" → Cond.privateMethod y ∈ lw_tbl → Cond.instanceMethod y ∈ lw_tbl → Cond.sameMethod y.cls y.cls y.name y.desc ∈ lw_tbl → (Cond.selects "java/lang/StringBuilder" y y).before args s = true := fun y e h1 h2 h3 => lw_sel6 (n := 4) ⟨by rw [e]; decide, by rw [e]; decide⟩ (hts _ (by decide +kernel)) (hts _ h1) (hts _ h2) (hts _ h3)
  unfold lw_x6
  refine List.forall_mem_cons.mpr ⟨k _ rfl (by decide +kernel) (by decide +kernel) (by decide +kernel), List.forall_mem_cons.mpr ⟨k _ rfl (by decide +kernel) (by decide +kernel) (by decide +kernel), List.forall_mem_cons.mpr ⟨k _ rfl (by decide +kernel) (by decide +kernel) (by decide +kernel), List.forall_mem_cons.mpr ⟨k _ rfl (by decide +kernel) (by decide +kernel) (by decide +kernel), List.forall_mem_cons.mpr ⟨k _ rfl (by decide +kernel) (by decide +kernel) (by decide +kernel), List.forall_mem_cons.mpr ⟨k _ rfl (by decide +kernel) (by decide +kernel) (by decide +kernel), fun _ h => absurd h List.not_mem_nil⟩⟩⟩⟩⟩⟩
set_option maxRecDepth 100000 in
set_option maxHeartbeats 4000000 in
theorem lw_dO {s : State} {args : Array Value} (h : (Jvm.Cond.and given_1 narrow_1).before args s = true) : ∀ j : Nat, j < 100 → (Cond.eq (.elem (.static "java/lang/Integer" "DigitOnes" "[B") (.int (Int32.ofNat j))) (.int (dgO j))).before args s = true := by
  simp only [given_1, narrow_1, Cond.before_and, Bool.and_eq_true] at h
  intro j hj
  match j, hj with
  | 0, _ => exact h.2.1.1.1.2.2.1.1.1
  | 1, _ => exact h.2.1.1.1.2.2.1.1.2
  | 2, _ => exact h.2.1.1.1.2.2.1.2.1
  | 3, _ => exact h.2.1.1.1.2.2.1.2.2
  | 4, _ => exact h.2.1.1.1.2.2.2.1.1
  | 5, _ => exact h.2.1.1.1.2.2.2.1.2
  | 6, _ => exact h.2.1.1.1.2.2.2.2.1
  | 7, _ => exact h.2.1.1.1.2.2.2.2.2
  | 8, _ => exact h.2.1.1.2.1.1.1.1
  | 9, _ => exact h.2.1.1.2.1.1.1.2.1
  | 10, _ => exact h.2.1.1.2.1.1.1.2.2
  | 11, _ => exact h.2.1.1.2.1.1.2.1.1
  | 12, _ => exact h.2.1.1.2.1.1.2.1.2
  | 13, _ => exact h.2.1.1.2.1.1.2.2.1
  | 14, _ => exact h.2.1.1.2.1.1.2.2.2
  | 15, _ => exact h.2.1.1.2.1.2.1.1.1
  | 16, _ => exact h.2.1.1.2.1.2.1.1.2
  | 17, _ => exact h.2.1.1.2.1.2.1.2.1
  | 18, _ => exact h.2.1.1.2.1.2.1.2.2
  | 19, _ => exact h.2.1.1.2.1.2.2.1.1
  | 20, _ => exact h.2.1.1.2.1.2.2.1.2
  | 21, _ => exact h.2.1.1.2.1.2.2.2.1
  | 22, _ => exact h.2.1.1.2.1.2.2.2.2
  | 23, _ => exact h.2.1.1.2.2.1.1.1.1
  | 24, _ => exact h.2.1.1.2.2.1.1.1.2
  | 25, _ => exact h.2.1.1.2.2.1.1.2.1
  | 26, _ => exact h.2.1.1.2.2.1.1.2.2
  | 27, _ => exact h.2.1.1.2.2.1.2.1.1
  | 28, _ => exact h.2.1.1.2.2.1.2.1.2
  | 29, _ => exact h.2.1.1.2.2.1.2.2.1
  | 30, _ => exact h.2.1.1.2.2.1.2.2.2
  | 31, _ => exact h.2.1.1.2.2.2.1.1.1
  | 32, _ => exact h.2.1.1.2.2.2.1.1.2
  | 33, _ => exact h.2.1.1.2.2.2.1.2.1
  | 34, _ => exact h.2.1.1.2.2.2.1.2.2
  | 35, _ => exact h.2.1.1.2.2.2.2.1.1
  | 36, _ => exact h.2.1.1.2.2.2.2.1.2
  | 37, _ => exact h.2.1.1.2.2.2.2.2.1
  | 38, _ => exact h.2.1.1.2.2.2.2.2.2
  | 39, _ => exact h.2.1.2.1.1.1.1.1
  | 40, _ => exact h.2.1.2.1.1.1.1.2.1
  | 41, _ => exact h.2.1.2.1.1.1.1.2.2
  | 42, _ => exact h.2.1.2.1.1.1.2.1.1
  | 43, _ => exact h.2.1.2.1.1.1.2.1.2
  | 44, _ => exact h.2.1.2.1.1.1.2.2.1
  | 45, _ => exact h.2.1.2.1.1.1.2.2.2
  | 46, _ => exact h.2.1.2.1.1.2.1.1.1
  | 47, _ => exact h.2.1.2.1.1.2.1.1.2
  | 48, _ => exact h.2.1.2.1.1.2.1.2.1
  | 49, _ => exact h.2.1.2.1.1.2.1.2.2
  | 50, _ => exact h.2.1.2.1.1.2.2.1.1
  | 51, _ => exact h.2.1.2.1.1.2.2.1.2
  | 52, _ => exact h.2.1.2.1.1.2.2.2.1
  | 53, _ => exact h.2.1.2.1.1.2.2.2.2
  | 54, _ => exact h.2.1.2.1.2.1.1.1.1
  | 55, _ => exact h.2.1.2.1.2.1.1.1.2
  | 56, _ => exact h.2.1.2.1.2.1.1.2.1
  | 57, _ => exact h.2.1.2.1.2.1.1.2.2
  | 58, _ => exact h.2.1.2.1.2.1.2.1.1
  | 59, _ => exact h.2.1.2.1.2.1.2.1.2
  | 60, _ => exact h.2.1.2.1.2.1.2.2.1
  | 61, _ => exact h.2.1.2.1.2.1.2.2.2
  | 62, _ => exact h.2.1.2.1.2.2.1.1.1
  | 63, _ => exact h.2.1.2.1.2.2.1.1.2
  | 64, _ => exact h.2.1.2.1.2.2.1.2.1
  | 65, _ => exact h.2.1.2.1.2.2.1.2.2
  | 66, _ => exact h.2.1.2.1.2.2.2.1.1
  | 67, _ => exact h.2.1.2.1.2.2.2.1.2
  | 68, _ => exact h.2.1.2.1.2.2.2.2.1
  | 69, _ => exact h.2.1.2.1.2.2.2.2.2
  | 70, _ => exact h.2.1.2.2.1.1.1.1
  | 71, _ => exact h.2.1.2.2.1.1.1.2.1
  | 72, _ => exact h.2.1.2.2.1.1.1.2.2
  | 73, _ => exact h.2.1.2.2.1.1.2.1.1
  | 74, _ => exact h.2.1.2.2.1.1.2.1.2
  | 75, _ => exact h.2.1.2.2.1.1.2.2.1
  | 76, _ => exact h.2.1.2.2.1.1.2.2.2
  | 77, _ => exact h.2.1.2.2.1.2.1.1.1
  | 78, _ => exact h.2.1.2.2.1.2.1.1.2
  | 79, _ => exact h.2.1.2.2.1.2.1.2.1
  | 80, _ => exact h.2.1.2.2.1.2.1.2.2
  | 81, _ => exact h.2.1.2.2.1.2.2.1.1
  | 82, _ => exact h.2.1.2.2.1.2.2.1.2
  | 83, _ => exact h.2.1.2.2.1.2.2.2.1
  | 84, _ => exact h.2.1.2.2.1.2.2.2.2
  | 85, _ => exact h.2.1.2.2.2.1.1.1.1
  | 86, _ => exact h.2.1.2.2.2.1.1.1.2
  | 87, _ => exact h.2.1.2.2.2.1.1.2.1
  | 88, _ => exact h.2.1.2.2.2.1.1.2.2
  | 89, _ => exact h.2.1.2.2.2.1.2.1.1
  | 90, _ => exact h.2.1.2.2.2.1.2.1.2
  | 91, _ => exact h.2.1.2.2.2.1.2.2.1
  | 92, _ => exact h.2.1.2.2.2.1.2.2.2
  | 93, _ => exact h.2.1.2.2.2.2.1.1.1
  | 94, _ => exact h.2.1.2.2.2.2.1.1.2
  | 95, _ => exact h.2.1.2.2.2.2.1.2.1
  | 96, _ => exact h.2.1.2.2.2.2.1.2.2
  | 97, _ => exact h.2.1.2.2.2.2.2.1.1
  | 98, _ => exact h.2.1.2.2.2.2.2.1.2
  | 99, _ => exact h.2.1.2.2.2.2.2.2.1
  | j + 100, hj => exact absurd hj (by omega)
set_option maxRecDepth 100000 in
set_option maxHeartbeats 4000000 in
theorem lw_dT {s : State} {args : Array Value} (h : (Jvm.Cond.and given_1 narrow_1).before args s = true) : ∀ j : Nat, j < 100 → (Cond.eq (.elem (.static "java/lang/Integer" "DigitTens" "[B") (.int (Int32.ofNat j))) (.int (dgT j))).before args s = true := by
  simp only [given_1, narrow_1, Cond.before_and, Bool.and_eq_true] at h
  intro j hj
  match j, hj with
  | 0, _ => exact h.2.2.1.1.1.1.1.2.2
  | 1, _ => exact h.2.2.1.1.1.1.2.1.1
  | 2, _ => exact h.2.2.1.1.1.1.2.1.2
  | 3, _ => exact h.2.2.1.1.1.1.2.2.1
  | 4, _ => exact h.2.2.1.1.1.1.2.2.2
  | 5, _ => exact h.2.2.1.1.1.2.1.1.1
  | 6, _ => exact h.2.2.1.1.1.2.1.1.2
  | 7, _ => exact h.2.2.1.1.1.2.1.2.1
  | 8, _ => exact h.2.2.1.1.1.2.1.2.2
  | 9, _ => exact h.2.2.1.1.1.2.2.1.1
  | 10, _ => exact h.2.2.1.1.1.2.2.1.2
  | 11, _ => exact h.2.2.1.1.1.2.2.2.1
  | 12, _ => exact h.2.2.1.1.1.2.2.2.2
  | 13, _ => exact h.2.2.1.1.2.1.1.1.1
  | 14, _ => exact h.2.2.1.1.2.1.1.1.2
  | 15, _ => exact h.2.2.1.1.2.1.1.2.1
  | 16, _ => exact h.2.2.1.1.2.1.1.2.2
  | 17, _ => exact h.2.2.1.1.2.1.2.1.1
  | 18, _ => exact h.2.2.1.1.2.1.2.1.2
  | 19, _ => exact h.2.2.1.1.2.1.2.2.1
  | 20, _ => exact h.2.2.1.1.2.1.2.2.2
  | 21, _ => exact h.2.2.1.1.2.2.1.1.1
  | 22, _ => exact h.2.2.1.1.2.2.1.1.2
  | 23, _ => exact h.2.2.1.1.2.2.1.2.1
  | 24, _ => exact h.2.2.1.1.2.2.1.2.2
  | 25, _ => exact h.2.2.1.1.2.2.2.1.1
  | 26, _ => exact h.2.2.1.1.2.2.2.1.2
  | 27, _ => exact h.2.2.1.1.2.2.2.2.1
  | 28, _ => exact h.2.2.1.1.2.2.2.2.2
  | 29, _ => exact h.2.2.1.2.1.1.1.1
  | 30, _ => exact h.2.2.1.2.1.1.1.2.1
  | 31, _ => exact h.2.2.1.2.1.1.1.2.2
  | 32, _ => exact h.2.2.1.2.1.1.2.1.1
  | 33, _ => exact h.2.2.1.2.1.1.2.1.2
  | 34, _ => exact h.2.2.1.2.1.1.2.2.1
  | 35, _ => exact h.2.2.1.2.1.1.2.2.2
  | 36, _ => exact h.2.2.1.2.1.2.1.1.1
  | 37, _ => exact h.2.2.1.2.1.2.1.1.2
  | 38, _ => exact h.2.2.1.2.1.2.1.2.1
  | 39, _ => exact h.2.2.1.2.1.2.1.2.2
  | 40, _ => exact h.2.2.1.2.1.2.2.1.1
  | 41, _ => exact h.2.2.1.2.1.2.2.1.2
  | 42, _ => exact h.2.2.1.2.1.2.2.2.1
  | 43, _ => exact h.2.2.1.2.1.2.2.2.2
  | 44, _ => exact h.2.2.1.2.2.1.1.1.1
  | 45, _ => exact h.2.2.1.2.2.1.1.1.2
  | 46, _ => exact h.2.2.1.2.2.1.1.2.1
  | 47, _ => exact h.2.2.1.2.2.1.1.2.2
  | 48, _ => exact h.2.2.1.2.2.1.2.1.1
  | 49, _ => exact h.2.2.1.2.2.1.2.1.2
  | 50, _ => exact h.2.2.1.2.2.1.2.2.1
  | 51, _ => exact h.2.2.1.2.2.1.2.2.2
  | 52, _ => exact h.2.2.1.2.2.2.1.1.1
  | 53, _ => exact h.2.2.1.2.2.2.1.1.2
  | 54, _ => exact h.2.2.1.2.2.2.1.2.1
  | 55, _ => exact h.2.2.1.2.2.2.1.2.2
  | 56, _ => exact h.2.2.1.2.2.2.2.1.1
  | 57, _ => exact h.2.2.1.2.2.2.2.1.2
  | 58, _ => exact h.2.2.1.2.2.2.2.2.1
  | 59, _ => exact h.2.2.1.2.2.2.2.2.2
  | 60, _ => exact h.2.2.2.1.1.1.1.1
  | 61, _ => exact h.2.2.2.1.1.1.1.2.1
  | 62, _ => exact h.2.2.2.1.1.1.1.2.2
  | 63, _ => exact h.2.2.2.1.1.1.2.1.1
  | 64, _ => exact h.2.2.2.1.1.1.2.1.2
  | 65, _ => exact h.2.2.2.1.1.1.2.2.1
  | 66, _ => exact h.2.2.2.1.1.1.2.2.2
  | 67, _ => exact h.2.2.2.1.1.2.1.1.1
  | 68, _ => exact h.2.2.2.1.1.2.1.1.2
  | 69, _ => exact h.2.2.2.1.1.2.1.2.1
  | 70, _ => exact h.2.2.2.1.1.2.1.2.2
  | 71, _ => exact h.2.2.2.1.1.2.2.1.1
  | 72, _ => exact h.2.2.2.1.1.2.2.1.2
  | 73, _ => exact h.2.2.2.1.1.2.2.2.1
  | 74, _ => exact h.2.2.2.1.1.2.2.2.2
  | 75, _ => exact h.2.2.2.1.2.1.1.1.1
  | 76, _ => exact h.2.2.2.1.2.1.1.1.2
  | 77, _ => exact h.2.2.2.1.2.1.1.2.1
  | 78, _ => exact h.2.2.2.1.2.1.1.2.2
  | 79, _ => exact h.2.2.2.1.2.1.2.1.1
  | 80, _ => exact h.2.2.2.1.2.1.2.1.2
  | 81, _ => exact h.2.2.2.1.2.1.2.2.1
  | 82, _ => exact h.2.2.2.1.2.1.2.2.2
  | 83, _ => exact h.2.2.2.1.2.2.1.1.1
  | 84, _ => exact h.2.2.2.1.2.2.1.1.2
  | 85, _ => exact h.2.2.2.1.2.2.1.2.1
  | 86, _ => exact h.2.2.2.1.2.2.1.2.2
  | 87, _ => exact h.2.2.2.1.2.2.2.1.1
  | 88, _ => exact h.2.2.2.1.2.2.2.1.2
  | 89, _ => exact h.2.2.2.1.2.2.2.2.1
  | 90, _ => exact h.2.2.2.1.2.2.2.2.2
  | 91, _ => exact h.2.2.2.2.1.1.1.1.1
  | 92, _ => exact h.2.2.2.2.1.1.1.1.2
  | 93, _ => exact h.2.2.2.2.1.1.1.2.1
  | 94, _ => exact h.2.2.2.2.1.1.1.2.2
  | 95, _ => exact h.2.2.2.2.1.1.2.1.1
  | 96, _ => exact h.2.2.2.2.1.1.2.1.2
  | 97, _ => exact h.2.2.2.2.1.1.2.2.1
  | 98, _ => exact h.2.2.2.2.1.1.2.2.2
  | 99, _ => exact h.2.2.2.2.1.2.1.1.1
  | j + 100, hj => exact absurd hj (by omega)
set_option maxRecDepth 100000 in
set_option maxHeartbeats 4000000 in
theorem lw_dF {s : State} {args : Array Value} (h : (Jvm.Cond.and given_1 narrow_1).before args s = true) : ∀ j : Nat, j < 10 → (Cond.eq (.elem (.static "PartnerWorth" "FACTORIALS" "[I") (.int (Int32.ofNat j))) (.int (xfac j))).before args s = true := by
  simp only [given_1, narrow_1, Cond.before_and, Bool.and_eq_true] at h
  intro j hj
  match j, hj with
  | 0, _ => exact h.2.1.1.1.1.1.2.2.1
  | 1, _ => exact h.2.1.1.1.1.1.2.2.2
  | 2, _ => exact h.2.1.1.1.1.2.1.1.1
  | 3, _ => exact h.2.1.1.1.1.2.1.1.2
  | 4, _ => exact h.2.1.1.1.1.2.1.2.1
  | 5, _ => exact h.2.1.1.1.1.2.1.2.2
  | 6, _ => exact h.2.1.1.1.1.2.2.1.1
  | 7, _ => exact h.2.1.1.1.1.2.2.1.2
  | 8, _ => exact h.2.1.1.1.1.2.2.2.1
  | 9, _ => exact h.2.1.1.1.1.2.2.2.2
  | j + 10, hj => exact absurd hj (by omega)
