/-! A LAYER OVER THE KIT: a method is walked in step with a pure function of it. V: the machine at a symbolic state; VF: the same, while the pure function still has 'o' to do. -/
def bI : Bool → Int32
  | true => 1
  | false => 0
def nm {α ρ : Type} (v : α) (K : α → Option ρ) : Option ρ := K v
def ck {ρ : Type} (b : Bool) (o : Option ρ) : Option ρ := match b with
  | true => o
  | false => none
def jn {β ρ : Type} (K : β → Option ρ) (F : (β → Option ρ) → Option ρ) : Option ρ := F K
def inb (i : Int32) (n : Nat) : Bool := decide (¬ i < 0) && decide (i.toNatClampNeg < n)
theorem inb_in {i : Int32} {n : Nat} (h : inb i n = true) : vp_in i n := by
  simp only [inb, Bool.and_eq_true, decide_eq_true_eq] at h
  intro q
  rcases q with q | q
  · exact h.1 q
  · omega
theorem inb_lt {i : Int32} {n : Nat} (h : inb i n = true) : i.toNatClampNeg < n := by
  simp only [inb, Bool.and_eq_true, decide_eq_true_eq] at h
  exact h.2
theorem ck_some {ρ : Type} {b : Bool} {o : Option ρ} {r : ρ} (h : ck b o = some r) : b = true ∧ o = some r := by
  cases b with
  | true => exact ⟨rfl, h⟩
  | false => cases h
def iMax (x y : Int32) : Int32 := if x < y then y else x
def iMin (x y : Int32) : Int32 := if y < x then y else x
def lMax (x y : Int64) : Int64 := if y < x then x else y
def lAbs (x : Int64) : Int64 := if 0 < x then x else -x
def gA (al : List Nat) (sz : Nat) : Nat → Prop := fun a => a ∈ al ∨ sz ≤ a
theorem gA_big {al : List Nat} {sz q : Nat} (h : sz ≤ q) : gA al sz q := Or.inr h
theorem gA_le {al : List Nat} {sz sz' q : Nat} (h : sz ≤ sz') (h1 : gA al sz' q) : gA al sz q := h1.elim Or.inl (fun z => Or.inr (Nat.le_trans h z))
theorem gD {al : List Nat} {sz : Nat} {w : va_W} (hn : al.Nodup) (h : w.map Prod.fst = al) : va_D (gA al sz) w := by
  subst h
  refine ⟨fun i j p q hi hj he => ?_, fun k q hk => Or.inl (List.mem_map.mpr ⟨q, List.mem_of_getElem? hk, rfl⟩)⟩
  have h1 : (w.map Prod.fst)[i]? = some p.1 := by rw [List.getElem?_map, hi]; rfl
  have h2 : (w.map Prod.fst)[j]? = some p.1 := by rw [List.getElem?_map, hj, he]; rfl
  have hl : i < (w.map Prod.fst).length := (List.getElem?_eq_some_iff.mp h1).1
  exact (List.getElem?_inj hl hn).mp (h1.trans h2.symm)
def NOK (N : (Nat → Prop) → State → Prop) : Prop := (∀ (A : Nat → Prop) (U : State) (g : JFrame) (mk : MethodId) (a : Array Value), N A U → N A (U.calling g mk a)) ∧ ∀ (A B : Nat → Prop) (s U : State), N A s → s.WarmedH U.vm → (∀ q : Nat, q < s.heap.size → ¬ A q → U.heap[q]? = s.heap[q]?) → (∀ q : Nat, B q → A q) → N B U
def NT : (Nat → Prop) → State → Prop := fun _ _ => True
theorem NT_ok : NOK NT := ⟨fun _ _ _ _ _ _ => trivial, fun _ _ _ _ _ _ _ _ => trivial⟩
def kPre (D : va_G) (cl : List vw_C) (tys : List (ClassId × FieldType)) (N : (Nat → Prop) → State → Prop) (al : List Nat) (sz : Nat) (w : va_W) : State → Prop := fun U => U.heap.size = sz ∧ va_P D cl w U.heap ∧ va_K D cl tys U ∧ N (gA al sz) U
def kQ (D : va_G) (cl : List vw_C) (A : Nat → Prop) (rv : Option Value) (w' : va_W) : Array Value → State → Outcome → State → Prop := fun _ st o t => (o = .returned rv ∧ va_P D cl w' t.heap) ∧ va_F A st t
/-- the contract of a method that makes nothing: with these arguments, over this world, it answers rv and leaves the world w' -/
def kMet (l : Launch) (y : MethodName) (ws : List Cond) (rm : Room) (D : va_G) (cl : List vw_C) (tys : List (ClassId × FieldType)) (N : (Nat → Prop) → State → Prop) (al : List Nat) (argv : List Value) (w : va_W) (rv : Option Value) (w' : va_W) : Prop :=
  ∀ sz : Nat, Met l y ws rm (va_Pc argv (kPre D cl tys N al sz w)) (kQ D cl (gA al sz) rv w') 0 0 (gA al sz)
/-- the contract of a method that touches no cell -/
def pMet (l : Launch) (y : MethodName) (ws : List Cond) (rm : Room) (argv : List Value) (rv : Option Value) : Prop := ∀ D : va_G, kMet l y ws rm D [] [] NT [] argv [] rv []
abbrev CX : Type := Program × Launch × Env × Room × State × MethodId × Array Value × List Frame × Method × Code × va_G × List vw_C × List (ClassId × FieldType) × List Nat × ((Nat → Prop) → State → Prop) × Nat × (State → Prop)
def V (X : CX) (w : va_W) (pc : Nat) (lv : List (Nat × Value)) (st : List Value) : Prop :=
  match X with
  | (p, l, e, R, s, m, args, below, meth, c, D, cl, _, al, _, nL, Q) =>
    ∀ (H : Heap) (locs : List Loc) (ls : Array Slot), va_P D cl w H → va_S (gA al s.heap.size) s.heap H locs → lv_has ls nL lv → W p l e R s m args below meth c H locs 0 0 Q (F0 m pc ls st)
def Ok (X : CX) (cc : ByteArray) (nL : Nat) (ret : Option FieldType) (ws : List Cond) (own : String) (rm : Room) (D : va_G) (cl : List vw_C) (tys : List (ClassId × FieldType)) (al : List Nat) (N : (Nat → Prop) → State → Prop) (rv : Option Value) (w' : va_W) : Prop :=
  match X with
  | (p, _, _, R, s, m, args, below, meth, c, D', cl', tys', al', N', nL', Q) =>
    p.tables.exec = Jvm.exec ∧ c.code = cc ∧ c.maxLocals = nL ∧ s.vm.findClass own = some m.cls ∧ (∀ w ∈ ws, w.before args s = true) ∧ meth.sig.returnType = ret ∧ meth.locks = false ∧ R = rm ∧ va_K D cl tys s ∧ al.Nodup ∧ N (gA al s.heap.size) s ∧ NOK N ∧ D' = D ∧ cl' = cl ∧ tys' = tys ∧ al' = al ∧ N' = N ∧ nL' = nL ∧ Q = MQ below (kQ D cl (gA al s.heap.size) rv w') args s 0 0 (gA al s.heap.size)
theorem kPre_blind {D : va_G} {cl : List vw_C} {tys : List (ClassId × FieldType)} {N : (Nat → Prop) → State → Prop} {al : List Nat} {sz : Nat} {w : va_W} {argv : List Value} (hN : NOK N) : FrameBlind (va_Pc argv (kPre D cl tys N al sz w)) := by
  intro a U g mk h
  obtain ⟨h0, h1, h2, h3, h4⟩ := h
  exact ⟨h0, h1, h2, va_K.moved (u := U) (U := U.calling g mk a) (Vm.Alike.refl U.vm) h3, hN.1 _ _ _ _ _ h4⟩
theorem kMet.of {l : Launch} {y : MethodName} {ws ws' : List Cond} {rm : Room} {D : va_G} {cl : List vw_C} {tys : List (ClassId × FieldType)} {N : (Nat → Prop) → State → Prop} {al : List Nat} {argv : List Value} {w : va_W} {rv : Option Value} {w' : va_W} {cc : ByteArray} {nL : Nat} {ret : Option FieldType} {own : String} {lv : List (Nat × Value)}
    (hy : plainName y.cls = true) (hw : ws = Cond.code y cc nL ret :: ws') (hown : y.cls = own) (hNK : NOK N) (hnd : al.Nodup) (hlen : (lg_sl argv).length ≤ nL) (hlv : lv_args 0 argv = lv)
    (body : ∀ X : CX, Ok X cc nL ret ws own rm D cl tys al N rv w' → V X w 0 lv []) : kMet l y ws rm D cl tys N al argv w rv w' := by
  intro sz
  refine Met.ofW (cc := cc) (maxL := nL) (ret := ret) hy hw ?_
  intro p e s m args below meth c s₁ B hml hv
  obtain ⟨rfl, hsz, hP, hK, hN⟩ := hv
  subst hsz
  have K := body (p, l, e, (headSpec ws rm).room, s, m, argv.toArray, below, meth, c, D, cl, tys, al, N, nL, MQ below (kQ D cl (gA al s.heap.size) rv w') argv.toArray s 0 0 (gA al s.heap.size))
    ⟨B.exec, B.bytes, hml, by rw [← hown]; exact findClass_of_methodNamed B.named, atoms_spec (ws := ws) B.pre, B.returns, B.notSynchronized, rfl, hK, hnd, hN, hNK, rfl, rfl, rfl, rfl, rfl, rfl, rfl⟩
    s.heap [] _ hP va_S.rf (hlv ▸ lv_entry argv (n := nL) hlen)
  rw [lg_entry_eq]
  exact K
def VF {ρ : Type} (X : CX) (res : ρ) (o : Option ρ) (w : va_W) (pc : Nat) (lv : List (Nat × Value)) (st : List Value) : Prop := o = some res → V X w pc lv st
theorem VF.of {ρ : Type} {X : CX} {res : ρ} {o : Option ρ} {w : va_W} {pc : Nat} {lv : List (Nat × Value)} {st : List Value} (hf : o = some res) (h : VF X res o w pc lv st) : V X w pc lv st := h hf
section VV
variable {ρ : Type} {X : CX} {res : ρ} {o : Option ρ} {w w' w1 : va_W} {pc : Nat} {lv lv' : List (Nat × Value)} {st : List Value} {cc : ByteArray} {nL : Nat} {ret : Option FieldType} {ws : List Cond} {own : String} {rm : Room} {D : va_G} {cl : List vw_C} {tys : List (ClassId × FieldType)} {al : List Nat} {N : (Nat → Prop) → State → Prop} {rv : Option Value}
theorem v_iconst (C : Ok X cc nL ret ws own rm D cl tys al N rv w') {n : Int} {v : Int32} (hdg : decode cc pc = .ok (.iconst n, 1)) (hv : Int32.ofInt n = v)
    (k : VF X res o w (pc + 1) lv (.int v :: st)) : VF X res o w pc lv st := by
  obtain ⟨p, l, e, R, s, m, args, below, meth, c, D', cl', tys', al', N', nL', Q⟩ := X
  obtain ⟨hx, hb, hml, hown, hts, hr, hlk, rfl, hK, hnd, hN, hNK, rfl, rfl, rfl, rfl, rfl, rfl, rfl⟩ := C
  intro hf H locs ls hP hS hl
  exact lv_iconst hx hb hdg hv (k hf H locs ls hP hS hl)
theorem v_bipush (C : Ok X cc nL ret ws own rm D cl tys al N rv w') {n : Int} {v : Int32} (hdg : decode cc pc = .ok (.bipush n, 2)) (hv : (Int8.ofInt n).toInt32 = v)
    (k : VF X res o w (pc + 2) lv (.int v :: st)) : VF X res o w pc lv st := by
  obtain ⟨p, l, e, R, s, m, args, below, meth, c, D', cl', tys', al', N', nL', Q⟩ := X
  obtain ⟨hx, hb, hml, hown, hts, hr, hlk, rfl, hK, hnd, hN, hNK, rfl, rfl, rfl, rfl, rfl, rfl, rfl⟩ := C
  intro hf H locs ls hP hS hl
  exact lv_bipush hx hb hdg hv (k hf H locs ls hP hS hl)
theorem v_sipush (C : Ok X cc nL ret ws own rm D cl tys al N rv w') {n : Int} {v : Int32} (hdg : decode cc pc = .ok (.sipush n, 3)) (hv : (Int16.ofInt n).toInt32 = v)
    (k : VF X res o w (pc + 3) lv (.int v :: st)) : VF X res o w pc lv st := by
  obtain ⟨p, l, e, R, s, m, args, below, meth, c, D', cl', tys', al', N', nL', Q⟩ := X
  obtain ⟨hx, hb, hml, hown, hts, hr, hlk, rfl, hK, hnd, hN, hNK, rfl, rfl, rfl, rfl, rfl, rfl, rfl⟩ := C
  intro hf H locs ls hP hS hl
  exact lv_sipush hx hb hdg hv (k hf H locs ls hP hS hl)
theorem v_lconst (C : Ok X cc nL ret ws own rm D cl tys al N rv w') {n : Fin 2} {v : Int64} (hdg : decode cc pc = .ok (.lconst n, 1)) (hv : Int64.ofNat (n : Nat) = v)
    (k : VF X res o w (pc + 1) lv (.long v :: st)) : VF X res o w pc lv st := by
  obtain ⟨p, l, e, R, s, m, args, below, meth, c, D', cl', tys', al', N', nL', Q⟩ := X
  obtain ⟨hx, hb, hml, hown, hts, hr, hlk, rfl, hK, hnd, hN, hNK, rfl, rfl, rfl, rfl, rfl, rfl, rfl⟩ := C
  intro hf H locs ls hP hS hl
  exact lv_lconst hx hb hdg hv (k hf H locs ls hP hS hl)
theorem v_ldc (C : Ok X cc nL ret ws own rm D cl tys al N rv w') {index : Nat} {v : Int32} (hc : Jvm.Cond.constant own index v ∈ ws) (hdg : decode cc pc = .ok (.ldc index, 2))
    (k : VF X res o w (pc + 2) lv (.int v :: st)) : VF X res o w pc lv st := by
  obtain ⟨p, l, e, R, s, m, args, below, meth, c, D', cl', tys', al', N', nL', Q⟩ := X
  obtain ⟨hx, hb, hml, hown, hts, hr, hlk, rfl, hK, hnd, hN, hNK, rfl, rfl, rfl, rfl, rfl, rfl, rfl⟩ := C
  intro hf H locs ls hP hS hl
  exact lv_ldc hx hb hown (hts _ hc) hdg (k hf H locs ls hP hS hl)
theorem v_ldcw (C : Ok X cc nL ret ws own rm D cl tys al N rv w') {index : Nat} {v : Int32} (hc : Jvm.Cond.constant own index v ∈ ws) (hdg : decode cc pc = .ok (.ldc_w index, 3))
    (k : VF X res o w (pc + 3) lv (.int v :: st)) : VF X res o w pc lv st := by
  obtain ⟨p, l, e, R, s, m, args, below, meth, c, D', cl', tys', al', N', nL', Q⟩ := X
  obtain ⟨hx, hb, hml, hown, hts, hr, hlk, rfl, hK, hnd, hN, hNK, rfl, rfl, rfl, rfl, rfl, rfl, rfl⟩ := C
  intro hf H locs ls hP hS hl
  exact lv_ldcw hx hb hown (hts _ hc) hdg (k hf H locs ls hP hS hl)
theorem v_ldc2 (C : Ok X cc nL ret ws own rm D cl tys al N rv w') {index : Nat} {v : Int64} (hc : Jvm.Cond.constantLong own index v ∈ ws) (hdg : decode cc pc = .ok (.ldc2_w index, 3))
    (k : VF X res o w (pc + 3) lv (.long v :: st)) : VF X res o w pc lv st := by
  obtain ⟨p, l, e, R, s, m, args, below, meth, c, D', cl', tys', al', N', nL', Q⟩ := X
  obtain ⟨hx, hb, hml, hown, hts, hr, hlk, rfl, hK, hnd, hN, hNK, rfl, rfl, rfl, rfl, rfl, rfl, rfl⟩ := C
  intro hf H locs ls hP hS hl
  exact lv_ldc2 hx hb hown (hts _ hc) hdg (k hf H locs ls hP hS hl)
theorem v_iload_n (C : Ok X cc nL ret ws own rm D cl tys al N rv w') {kk : Fin 4} {x : Int32} (j : Nat) (hdg : decode cc pc = .ok (.iload_n kk, 1)) (hk : lv[j]? = some ((kk : Nat), .int x))
    (k : VF X res o w (pc + 1) lv (.int x :: st)) : VF X res o w pc lv st := by
  obtain ⟨p, l, e, R, s, m, args, below, meth, c, D', cl', tys', al', N', nL', Q⟩ := X
  obtain ⟨hx, hb, hml, hown, hts, hr, hlk, rfl, hK, hnd, hN, hNK, rfl, rfl, rfl, rfl, rfl, rfl, rfl⟩ := C
  intro hf H locs ls hP hS hl
  exact lv_iload_n hx hb hdg rfl (lv_at hl j hk) (k hf H locs ls hP hS hl)
theorem v_iload (C : Ok X cc nL ret ws own rm D cl tys al N rv w') {i : Nat} {x : Int32} (j : Nat) (hdg : decode cc pc = .ok (.iload i, 2)) (hk : lv[j]? = some (i, .int x))
    (k : VF X res o w (pc + 2) lv (.int x :: st)) : VF X res o w pc lv st := by
  obtain ⟨p, l, e, R, s, m, args, below, meth, c, D', cl', tys', al', N', nL', Q⟩ := X
  obtain ⟨hx, hb, hml, hown, hts, hr, hlk, rfl, hK, hnd, hN, hNK, rfl, rfl, rfl, rfl, rfl, rfl, rfl⟩ := C
  intro hf H locs ls hP hS hl
  exact lv_iload hx hb hdg (lv_at hl j hk) (k hf H locs ls hP hS hl)
theorem v_lload_n (C : Ok X cc nL ret ws own rm D cl tys al N rv w') {kk : Fin 4} {x : Int64} (j : Nat) (hdg : decode cc pc = .ok (.lload_n kk, 1)) (hk : lv[j]? = some ((kk : Nat), .long x))
    (k : VF X res o w (pc + 1) lv (.long x :: st)) : VF X res o w pc lv st := by
  obtain ⟨p, l, e, R, s, m, args, below, meth, c, D', cl', tys', al', N', nL', Q⟩ := X
  obtain ⟨hx, hb, hml, hown, hts, hr, hlk, rfl, hK, hnd, hN, hNK, rfl, rfl, rfl, rfl, rfl, rfl, rfl⟩ := C
  intro hf H locs ls hP hS hl
  exact lv_lload_n hx hb hdg rfl (lv_at hl j hk) (k hf H locs ls hP hS hl)
theorem v_lload (C : Ok X cc nL ret ws own rm D cl tys al N rv w') {i : Nat} {x : Int64} (j : Nat) (hdg : decode cc pc = .ok (.lload i, 2)) (hk : lv[j]? = some (i, .long x))
    (k : VF X res o w (pc + 2) lv (.long x :: st)) : VF X res o w pc lv st := by
  obtain ⟨p, l, e, R, s, m, args, below, meth, c, D', cl', tys', al', N', nL', Q⟩ := X
  obtain ⟨hx, hb, hml, hown, hts, hr, hlk, rfl, hK, hnd, hN, hNK, rfl, rfl, rfl, rfl, rfl, rfl, rfl⟩ := C
  intro hf H locs ls hP hS hl
  exact lv_lload hx hb hdg (lv_at hl j hk) (k hf H locs ls hP hS hl)
theorem v_aload_n (C : Ok X cc nL ret ws own rm D cl tys al N rv w') {kk : Fin 4} {x : Nat} (j : Nat) (hdg : decode cc pc = .ok (.aload_n kk, 1)) (hk : lv[j]? = some ((kk : Nat), .ref x))
    (k : VF X res o w (pc + 1) lv (.ref x :: st)) : VF X res o w pc lv st := by
  obtain ⟨p, l, e, R, s, m, args, below, meth, c, D', cl', tys', al', N', nL', Q⟩ := X
  obtain ⟨hx, hb, hml, hown, hts, hr, hlk, rfl, hK, hnd, hN, hNK, rfl, rfl, rfl, rfl, rfl, rfl, rfl⟩ := C
  intro hf H locs ls hP hS hl
  exact lv_aload_n hx hb hdg rfl (lv_at hl j hk) (k hf H locs ls hP hS hl)
theorem v_aload (C : Ok X cc nL ret ws own rm D cl tys al N rv w') {i : Nat} {x : Nat} (j : Nat) (hdg : decode cc pc = .ok (.aload i, 2)) (hk : lv[j]? = some (i, .ref x))
    (k : VF X res o w (pc + 2) lv (.ref x :: st)) : VF X res o w pc lv st := by
  obtain ⟨p, l, e, R, s, m, args, below, meth, c, D', cl', tys', al', N', nL', Q⟩ := X
  obtain ⟨hx, hb, hml, hown, hts, hr, hlk, rfl, hK, hnd, hN, hNK, rfl, rfl, rfl, rfl, rfl, rfl, rfl⟩ := C
  intro hf H locs ls hP hS hl
  exact lv_aload hx hb hdg (lv_at hl j hk) (k hf H locs ls hP hS hl)
theorem v_istore_n (C : Ok X cc nL ret ws own rm D cl tys al N rv w') {kk : Fin 4} {i : Nat} {x : Int32} (hdg : decode cc pc = .ok (.istore_n kk, 1)) (hi : (kk : Nat) = i) (hn : i < nL) (hl9 : (i, Value.int x) :: lv.filter (fun q => !(q.1 == i) && !(q.1 + 1 == i && q.2.category == 2)) = lv')
    (k : VF X res o w (pc + 1) lv' st) : VF X res o w pc lv (.int x :: st) := by
  obtain ⟨p, l, e, R, s, m, args, below, meth, c, D', cl', tys', al', N', nL', Q⟩ := X
  obtain ⟨hx, hb, hml, hown, hts, hr, hlk, rfl, hK, hnd, hN, hNK, rfl, rfl, rfl, rfl, rfl, rfl, rfl⟩ := C
  intro hf H locs ls hP hS hl
  exact lv_istore_n hx hb hdg hi hl hn hl9 (fun ls hl => k hf H locs ls hP hS hl)
theorem v_istore_n_nm (C : Ok X cc nL ret ws own rm D cl tys al N rv w') {kk : Fin 4} {i : Nat} {x : Int32} {K : Int32 → Option ρ} {lvf : Int32 → List (Nat × Value)} (hdg : decode cc pc = .ok (.istore_n kk, 1)) (hi : (kk : Nat) = i) (hn : i < nL) (hl9 : ∀ x : Int32, (i, Value.int x) :: lv.filter (fun q => !(q.1 == i) && !(q.1 + 1 == i && q.2.category == 2)) = lvf x)
    (k : ∀ x : Int32, VF X res (K x) w (pc + 1) (lvf x) st) : VF X res (nm x K) w pc lv (.int x :: st) := by
  obtain ⟨p, l, e, R, s, m, args, below, meth, c, D', cl', tys', al', N', nL', Q⟩ := X
  obtain ⟨hx, hb, hml, hown, hts, hr, hlk, rfl, hK, hnd, hN, hNK, rfl, rfl, rfl, rfl, rfl, rfl, rfl⟩ := C
  intro hf H locs ls hP hS hl
  exact lv_istore_n hx hb hdg hi hl hn (hl9 x) (fun ls hl => k x hf H locs ls hP hS hl)
theorem v_istore (C : Ok X cc nL ret ws own rm D cl tys al N rv w') {i : Nat} {x : Int32} (hdg : decode cc pc = .ok (.istore i, 2)) (hn : i < nL) (hl9 : (i, Value.int x) :: lv.filter (fun q => !(q.1 == i) && !(q.1 + 1 == i && q.2.category == 2)) = lv')
    (k : VF X res o w (pc + 2) lv' st) : VF X res o w pc lv (.int x :: st) := by
  obtain ⟨p, l, e, R, s, m, args, below, meth, c, D', cl', tys', al', N', nL', Q⟩ := X
  obtain ⟨hx, hb, hml, hown, hts, hr, hlk, rfl, hK, hnd, hN, hNK, rfl, rfl, rfl, rfl, rfl, rfl, rfl⟩ := C
  intro hf H locs ls hP hS hl
  exact lv_istore hx hb hdg hl hn hl9 (fun ls hl => k hf H locs ls hP hS hl)
theorem v_istore_nm (C : Ok X cc nL ret ws own rm D cl tys al N rv w') {i : Nat} {x : Int32} {K : Int32 → Option ρ} {lvf : Int32 → List (Nat × Value)} (hdg : decode cc pc = .ok (.istore i, 2)) (hn : i < nL) (hl9 : ∀ x : Int32, (i, Value.int x) :: lv.filter (fun q => !(q.1 == i) && !(q.1 + 1 == i && q.2.category == 2)) = lvf x)
    (k : ∀ x : Int32, VF X res (K x) w (pc + 2) (lvf x) st) : VF X res (nm x K) w pc lv (.int x :: st) := by
  obtain ⟨p, l, e, R, s, m, args, below, meth, c, D', cl', tys', al', N', nL', Q⟩ := X
  obtain ⟨hx, hb, hml, hown, hts, hr, hlk, rfl, hK, hnd, hN, hNK, rfl, rfl, rfl, rfl, rfl, rfl, rfl⟩ := C
  intro hf H locs ls hP hS hl
  exact lv_istore hx hb hdg hl hn (hl9 x) (fun ls hl => k x hf H locs ls hP hS hl)
theorem v_lstore_n (C : Ok X cc nL ret ws own rm D cl tys al N rv w') {kk : Fin 4} {i : Nat} {x : Int64} (hdg : decode cc pc = .ok (.lstore_n kk, 1)) (hi : (kk : Nat) = i) (hn : i + 1 < nL) (hl9 : (i, Value.long x) :: lv.filter (fun q => !(q.1 == i) && (!(q.1 == i + 1) && !(q.1 + 1 == i && q.2.category == 2))) = lv')
    (k : VF X res o w (pc + 1) lv' st) : VF X res o w pc lv (.long x :: st) := by
  obtain ⟨p, l, e, R, s, m, args, below, meth, c, D', cl', tys', al', N', nL', Q⟩ := X
  obtain ⟨hx, hb, hml, hown, hts, hr, hlk, rfl, hK, hnd, hN, hNK, rfl, rfl, rfl, rfl, rfl, rfl, rfl⟩ := C
  intro hf H locs ls hP hS hl
  exact lv_lstore_n hx hb hdg hi hl hn hl9 (fun ls hl => k hf H locs ls hP hS hl)
theorem v_lstore_n_nm (C : Ok X cc nL ret ws own rm D cl tys al N rv w') {kk : Fin 4} {i : Nat} {x : Int64} {K : Int64 → Option ρ} {lvf : Int64 → List (Nat × Value)} (hdg : decode cc pc = .ok (.lstore_n kk, 1)) (hi : (kk : Nat) = i) (hn : i + 1 < nL) (hl9 : ∀ x : Int64, (i, Value.long x) :: lv.filter (fun q => !(q.1 == i) && (!(q.1 == i + 1) && !(q.1 + 1 == i && q.2.category == 2))) = lvf x)
    (k : ∀ x : Int64, VF X res (K x) w (pc + 1) (lvf x) st) : VF X res (nm x K) w pc lv (.long x :: st) := by
  obtain ⟨p, l, e, R, s, m, args, below, meth, c, D', cl', tys', al', N', nL', Q⟩ := X
  obtain ⟨hx, hb, hml, hown, hts, hr, hlk, rfl, hK, hnd, hN, hNK, rfl, rfl, rfl, rfl, rfl, rfl, rfl⟩ := C
  intro hf H locs ls hP hS hl
  exact lv_lstore_n hx hb hdg hi hl hn (hl9 x) (fun ls hl => k x hf H locs ls hP hS hl)
theorem v_lstore (C : Ok X cc nL ret ws own rm D cl tys al N rv w') {i : Nat} {x : Int64} (hdg : decode cc pc = .ok (.lstore i, 2)) (hn : i + 1 < nL) (hl9 : (i, Value.long x) :: lv.filter (fun q => !(q.1 == i) && (!(q.1 == i + 1) && !(q.1 + 1 == i && q.2.category == 2))) = lv')
    (k : VF X res o w (pc + 2) lv' st) : VF X res o w pc lv (.long x :: st) := by
  obtain ⟨p, l, e, R, s, m, args, below, meth, c, D', cl', tys', al', N', nL', Q⟩ := X
  obtain ⟨hx, hb, hml, hown, hts, hr, hlk, rfl, hK, hnd, hN, hNK, rfl, rfl, rfl, rfl, rfl, rfl, rfl⟩ := C
  intro hf H locs ls hP hS hl
  exact lv_lstore hx hb hdg hl hn hl9 (fun ls hl => k hf H locs ls hP hS hl)
theorem v_lstore_nm (C : Ok X cc nL ret ws own rm D cl tys al N rv w') {i : Nat} {x : Int64} {K : Int64 → Option ρ} {lvf : Int64 → List (Nat × Value)} (hdg : decode cc pc = .ok (.lstore i, 2)) (hn : i + 1 < nL) (hl9 : ∀ x : Int64, (i, Value.long x) :: lv.filter (fun q => !(q.1 == i) && (!(q.1 == i + 1) && !(q.1 + 1 == i && q.2.category == 2))) = lvf x)
    (k : ∀ x : Int64, VF X res (K x) w (pc + 2) (lvf x) st) : VF X res (nm x K) w pc lv (.long x :: st) := by
  obtain ⟨p, l, e, R, s, m, args, below, meth, c, D', cl', tys', al', N', nL', Q⟩ := X
  obtain ⟨hx, hb, hml, hown, hts, hr, hlk, rfl, hK, hnd, hN, hNK, rfl, rfl, rfl, rfl, rfl, rfl, rfl⟩ := C
  intro hf H locs ls hP hS hl
  exact lv_lstore hx hb hdg hl hn (hl9 x) (fun ls hl => k x hf H locs ls hP hS hl)
theorem v_astore_n (C : Ok X cc nL ret ws own rm D cl tys al N rv w') {kk : Fin 4} {i : Nat} {x : Nat} (hdg : decode cc pc = .ok (.astore_n kk, 1)) (hi : (kk : Nat) = i) (hn : i < nL) (hl9 : (i, Value.ref x) :: lv.filter (fun q => !(q.1 == i) && !(q.1 + 1 == i && q.2.category == 2)) = lv')
    (k : VF X res o w (pc + 1) lv' st) : VF X res o w pc lv (.ref x :: st) := by
  obtain ⟨p, l, e, R, s, m, args, below, meth, c, D', cl', tys', al', N', nL', Q⟩ := X
  obtain ⟨hx, hb, hml, hown, hts, hr, hlk, rfl, hK, hnd, hN, hNK, rfl, rfl, rfl, rfl, rfl, rfl, rfl⟩ := C
  intro hf H locs ls hP hS hl
  exact lv_astore_n hx hb hdg hi hl hn hl9 (fun ls hl => k hf H locs ls hP hS hl)
theorem v_astore (C : Ok X cc nL ret ws own rm D cl tys al N rv w') {i : Nat} {x : Nat} (hdg : decode cc pc = .ok (.astore i, 2)) (hn : i < nL) (hl9 : (i, Value.ref x) :: lv.filter (fun q => !(q.1 == i) && !(q.1 + 1 == i && q.2.category == 2)) = lv')
    (k : VF X res o w (pc + 2) lv' st) : VF X res o w pc lv (.ref x :: st) := by
  obtain ⟨p, l, e, R, s, m, args, below, meth, c, D', cl', tys', al', N', nL', Q⟩ := X
  obtain ⟨hx, hb, hml, hown, hts, hr, hlk, rfl, hK, hnd, hN, hNK, rfl, rfl, rfl, rfl, rfl, rfl, rfl⟩ := C
  intro hf H locs ls hP hS hl
  exact lv_astore hx hb hdg hl hn hl9 (fun ls hl => k hf H locs ls hP hS hl)
theorem v_iinc_nm (C : Ok X cc nL ret ws own rm D cl tys al N rv w') {i : Nat} {n : Int} {x v : Int32} {K : Int32 → Option ρ} {lvf : Int32 → List (Nat × Value)} (j : Nat) (hdg : decode cc pc = .ok (.iinc i n, 3)) (hk : lv[j]? = some (i, .int x)) (hv : x + Int32.ofInt n = v) (hn : i < nL) (hl9 : ∀ x : Int32, (i, Value.int x) :: lv.filter (fun q => !(q.1 == i) && !(q.1 + 1 == i && q.2.category == 2)) = lvf x)
    (k : ∀ x : Int32, VF X res (K x) w (pc + 3) (lvf x) st) : VF X res (nm v K) w pc lv st := by
  obtain ⟨p, l, e, R, s, m, args, below, meth, c, D', cl', tys', al', N', nL', Q⟩ := X
  obtain ⟨hx, hb, hml, hown, hts, hr, hlk, rfl, hK, hnd, hN, hNK, rfl, rfl, rfl, rfl, rfl, rfl, rfl⟩ := C
  intro hf H locs ls hP hS hl
  exact lv_iinc (k := j) hx hb hdg hl hk hv hn (hl9 v) (fun ls hl => k v hf H locs ls hP hS hl)
theorem v_iadd (C : Ok X cc nL ret ws own rm D cl tys al N rv w') {x y : Int32} (hdg : decode cc pc = .ok (.iadd, 1))
    (k : VF X res o w (pc + 1) lv (.int (x + y) :: st)) : VF X res o w pc lv (.int y :: .int x :: st) := by
  obtain ⟨p, l, e, R, s, m, args, below, meth, c, D', cl', tys', al', N', nL', Q⟩ := X
  obtain ⟨hx, hb, hml, hown, hts, hr, hlk, rfl, hK, hnd, hN, hNK, rfl, rfl, rfl, rfl, rfl, rfl, rfl⟩ := C
  intro hf H locs ls hP hS hl
  exact lv_iadd hx hb hdg (k hf H locs ls hP hS hl)
theorem v_isub (C : Ok X cc nL ret ws own rm D cl tys al N rv w') {x y : Int32} (hdg : decode cc pc = .ok (.isub, 1))
    (k : VF X res o w (pc + 1) lv (.int (x - y) :: st)) : VF X res o w pc lv (.int y :: .int x :: st) := by
  obtain ⟨p, l, e, R, s, m, args, below, meth, c, D', cl', tys', al', N', nL', Q⟩ := X
  obtain ⟨hx, hb, hml, hown, hts, hr, hlk, rfl, hK, hnd, hN, hNK, rfl, rfl, rfl, rfl, rfl, rfl, rfl⟩ := C
  intro hf H locs ls hP hS hl
  exact lv_isub hx hb hdg (k hf H locs ls hP hS hl)
theorem v_imul (C : Ok X cc nL ret ws own rm D cl tys al N rv w') {x y : Int32} (hdg : decode cc pc = .ok (.imul, 1))
    (k : VF X res o w (pc + 1) lv (.int (x * y) :: st)) : VF X res o w pc lv (.int y :: .int x :: st) := by
  obtain ⟨p, l, e, R, s, m, args, below, meth, c, D', cl', tys', al', N', nL', Q⟩ := X
  obtain ⟨hx, hb, hml, hown, hts, hr, hlk, rfl, hK, hnd, hN, hNK, rfl, rfl, rfl, rfl, rfl, rfl, rfl⟩ := C
  intro hf H locs ls hP hS hl
  exact lv_imul hx hb hdg (k hf H locs ls hP hS hl)
theorem v_iand (C : Ok X cc nL ret ws own rm D cl tys al N rv w') {x y : Int32} (hdg : decode cc pc = .ok (.iand, 1))
    (k : VF X res o w (pc + 1) lv (.int (x &&& y) :: st)) : VF X res o w pc lv (.int y :: .int x :: st) := by
  obtain ⟨p, l, e, R, s, m, args, below, meth, c, D', cl', tys', al', N', nL', Q⟩ := X
  obtain ⟨hx, hb, hml, hown, hts, hr, hlk, rfl, hK, hnd, hN, hNK, rfl, rfl, rfl, rfl, rfl, rfl, rfl⟩ := C
  intro hf H locs ls hP hS hl
  exact lv_iand hx hb hdg (k hf H locs ls hP hS hl)
theorem v_ior (C : Ok X cc nL ret ws own rm D cl tys al N rv w') {x y : Int32} (hdg : decode cc pc = .ok (.ior, 1))
    (k : VF X res o w (pc + 1) lv (.int (x ||| y) :: st)) : VF X res o w pc lv (.int y :: .int x :: st) := by
  obtain ⟨p, l, e, R, s, m, args, below, meth, c, D', cl', tys', al', N', nL', Q⟩ := X
  obtain ⟨hx, hb, hml, hown, hts, hr, hlk, rfl, hK, hnd, hN, hNK, rfl, rfl, rfl, rfl, rfl, rfl, rfl⟩ := C
  intro hf H locs ls hP hS hl
  exact lv_ior hx hb hdg (k hf H locs ls hP hS hl)
theorem v_ixor (C : Ok X cc nL ret ws own rm D cl tys al N rv w') {x y : Int32} (hdg : decode cc pc = .ok (.ixor, 1))
    (k : VF X res o w (pc + 1) lv (.int (x ^^^ y) :: st)) : VF X res o w pc lv (.int y :: .int x :: st) := by
  obtain ⟨p, l, e, R, s, m, args, below, meth, c, D', cl', tys', al', N', nL', Q⟩ := X
  obtain ⟨hx, hb, hml, hown, hts, hr, hlk, rfl, hK, hnd, hN, hNK, rfl, rfl, rfl, rfl, rfl, rfl, rfl⟩ := C
  intro hf H locs ls hP hS hl
  exact lv_ixor hx hb hdg (k hf H locs ls hP hS hl)
theorem v_ishl (C : Ok X cc nL ret ws own rm D cl tys al N rv w') {x y : Int32} (hdg : decode cc pc = .ok (.ishl, 1))
    (k : VF X res o w (pc + 1) lv (.int (x <<< (y &&& 31)) :: st)) : VF X res o w pc lv (.int y :: .int x :: st) := by
  obtain ⟨p, l, e, R, s, m, args, below, meth, c, D', cl', tys', al', N', nL', Q⟩ := X
  obtain ⟨hx, hb, hml, hown, hts, hr, hlk, rfl, hK, hnd, hN, hNK, rfl, rfl, rfl, rfl, rfl, rfl, rfl⟩ := C
  intro hf H locs ls hP hS hl
  exact lv_ishl hx hb hdg (k hf H locs ls hP hS hl)
theorem v_ishr (C : Ok X cc nL ret ws own rm D cl tys al N rv w') {x y : Int32} (hdg : decode cc pc = .ok (.ishr, 1))
    (k : VF X res o w (pc + 1) lv (.int (x >>> (y &&& 31)) :: st)) : VF X res o w pc lv (.int y :: .int x :: st) := by
  obtain ⟨p, l, e, R, s, m, args, below, meth, c, D', cl', tys', al', N', nL', Q⟩ := X
  obtain ⟨hx, hb, hml, hown, hts, hr, hlk, rfl, hK, hnd, hN, hNK, rfl, rfl, rfl, rfl, rfl, rfl, rfl⟩ := C
  intro hf H locs ls hP hS hl
  exact lv_ishr hx hb hdg (k hf H locs ls hP hS hl)
theorem v_ladd (C : Ok X cc nL ret ws own rm D cl tys al N rv w') {x y : Int64} (hdg : decode cc pc = .ok (.ladd, 1))
    (k : VF X res o w (pc + 1) lv (.long (x + y) :: st)) : VF X res o w pc lv (.long y :: .long x :: st) := by
  obtain ⟨p, l, e, R, s, m, args, below, meth, c, D', cl', tys', al', N', nL', Q⟩ := X
  obtain ⟨hx, hb, hml, hown, hts, hr, hlk, rfl, hK, hnd, hN, hNK, rfl, rfl, rfl, rfl, rfl, rfl, rfl⟩ := C
  intro hf H locs ls hP hS hl
  exact lv_ladd hx hb hdg (k hf H locs ls hP hS hl)
theorem v_lsub (C : Ok X cc nL ret ws own rm D cl tys al N rv w') {x y : Int64} (hdg : decode cc pc = .ok (.lsub, 1))
    (k : VF X res o w (pc + 1) lv (.long (x - y) :: st)) : VF X res o w pc lv (.long y :: .long x :: st) := by
  obtain ⟨p, l, e, R, s, m, args, below, meth, c, D', cl', tys', al', N', nL', Q⟩ := X
  obtain ⟨hx, hb, hml, hown, hts, hr, hlk, rfl, hK, hnd, hN, hNK, rfl, rfl, rfl, rfl, rfl, rfl, rfl⟩ := C
  intro hf H locs ls hP hS hl
  exact lv_lsub hx hb hdg (k hf H locs ls hP hS hl)
theorem v_lmul (C : Ok X cc nL ret ws own rm D cl tys al N rv w') {x y : Int64} (hdg : decode cc pc = .ok (.lmul, 1))
    (k : VF X res o w (pc + 1) lv (.long (x * y) :: st)) : VF X res o w pc lv (.long y :: .long x :: st) := by
  obtain ⟨p, l, e, R, s, m, args, below, meth, c, D', cl', tys', al', N', nL', Q⟩ := X
  obtain ⟨hx, hb, hml, hown, hts, hr, hlk, rfl, hK, hnd, hN, hNK, rfl, rfl, rfl, rfl, rfl, rfl, rfl⟩ := C
  intro hf H locs ls hP hS hl
  exact lv_lmul hx hb hdg (k hf H locs ls hP hS hl)
theorem v_land (C : Ok X cc nL ret ws own rm D cl tys al N rv w') {x y : Int64} (hdg : decode cc pc = .ok (.land, 1))
    (k : VF X res o w (pc + 1) lv (.long (x &&& y) :: st)) : VF X res o w pc lv (.long y :: .long x :: st) := by
  obtain ⟨p, l, e, R, s, m, args, below, meth, c, D', cl', tys', al', N', nL', Q⟩ := X
  obtain ⟨hx, hb, hml, hown, hts, hr, hlk, rfl, hK, hnd, hN, hNK, rfl, rfl, rfl, rfl, rfl, rfl, rfl⟩ := C
  intro hf H locs ls hP hS hl
  exact lv_land hx hb hdg (k hf H locs ls hP hS hl)
theorem v_lor (C : Ok X cc nL ret ws own rm D cl tys al N rv w') {x y : Int64} (hdg : decode cc pc = .ok (.lor, 1))
    (k : VF X res o w (pc + 1) lv (.long (x ||| y) :: st)) : VF X res o w pc lv (.long y :: .long x :: st) := by
  obtain ⟨p, l, e, R, s, m, args, below, meth, c, D', cl', tys', al', N', nL', Q⟩ := X
  obtain ⟨hx, hb, hml, hown, hts, hr, hlk, rfl, hK, hnd, hN, hNK, rfl, rfl, rfl, rfl, rfl, rfl, rfl⟩ := C
  intro hf H locs ls hP hS hl
  exact lv_lor hx hb hdg (k hf H locs ls hP hS hl)
theorem v_lxor (C : Ok X cc nL ret ws own rm D cl tys al N rv w') {x y : Int64} (hdg : decode cc pc = .ok (.lxor, 1))
    (k : VF X res o w (pc + 1) lv (.long (x ^^^ y) :: st)) : VF X res o w pc lv (.long y :: .long x :: st) := by
  obtain ⟨p, l, e, R, s, m, args, below, meth, c, D', cl', tys', al', N', nL', Q⟩ := X
  obtain ⟨hx, hb, hml, hown, hts, hr, hlk, rfl, hK, hnd, hN, hNK, rfl, rfl, rfl, rfl, rfl, rfl, rfl⟩ := C
  intro hf H locs ls hP hS hl
  exact lv_lxor hx hb hdg (k hf H locs ls hP hS hl)
theorem v_idiv (C : Ok X cc nL ret ws own rm D cl tys al N rv w') {x y : Int32} (hdg : decode cc pc = .ok (.idiv, 1))
    (k : VF X res o w (pc + 1) lv (.int (x / y) :: st)) : VF X res (ck (y != 0) o) w pc lv (.int y :: .int x :: st) := by
  obtain ⟨p, l, e, R, s, m, args, below, meth, c, D', cl', tys', al', N', nL', Q⟩ := X
  obtain ⟨hx, hb, hml, hown, hts, hr, hlk, rfl, hK, hnd, hN, hNK, rfl, rfl, rfl, rfl, rfl, rfl, rfl⟩ := C
  intro hf H locs ls hP hS hl
  exact lv_idiv hx hb hdg (by have h9 := (ck_some hf).1; simpa using h9) (k (ck_some hf).2 H locs ls hP hS hl)
theorem v_irem (C : Ok X cc nL ret ws own rm D cl tys al N rv w') {x y : Int32} (hdg : decode cc pc = .ok (.irem, 1))
    (k : VF X res o w (pc + 1) lv (.int (x - x / y * y) :: st)) : VF X res (ck (y != 0) o) w pc lv (.int y :: .int x :: st) := by
  obtain ⟨p, l, e, R, s, m, args, below, meth, c, D', cl', tys', al', N', nL', Q⟩ := X
  obtain ⟨hx, hb, hml, hown, hts, hr, hlk, rfl, hK, hnd, hN, hNK, rfl, rfl, rfl, rfl, rfl, rfl, rfl⟩ := C
  intro hf H locs ls hP hS hl
  exact lv_irem hx hb hdg (by have h9 := (ck_some hf).1; simpa using h9) (k (ck_some hf).2 H locs ls hP hS hl)
theorem v_ldiv (C : Ok X cc nL ret ws own rm D cl tys al N rv w') {x y : Int64} (hdg : decode cc pc = .ok (.ldiv, 1))
    (k : VF X res o w (pc + 1) lv (.long (x / y) :: st)) : VF X res (ck (y != 0) o) w pc lv (.long y :: .long x :: st) := by
  obtain ⟨p, l, e, R, s, m, args, below, meth, c, D', cl', tys', al', N', nL', Q⟩ := X
  obtain ⟨hx, hb, hml, hown, hts, hr, hlk, rfl, hK, hnd, hN, hNK, rfl, rfl, rfl, rfl, rfl, rfl, rfl⟩ := C
  intro hf H locs ls hP hS hl
  exact lv_ldiv hx hb hdg (by have h9 := (ck_some hf).1; simpa using h9) (k (ck_some hf).2 H locs ls hP hS hl)
theorem v_lrem (C : Ok X cc nL ret ws own rm D cl tys al N rv w') {x y : Int64} (hdg : decode cc pc = .ok (.lrem, 1))
    (k : VF X res o w (pc + 1) lv (.long (x - x / y * y) :: st)) : VF X res (ck (y != 0) o) w pc lv (.long y :: .long x :: st) := by
  obtain ⟨p, l, e, R, s, m, args, below, meth, c, D', cl', tys', al', N', nL', Q⟩ := X
  obtain ⟨hx, hb, hml, hown, hts, hr, hlk, rfl, hK, hnd, hN, hNK, rfl, rfl, rfl, rfl, rfl, rfl, rfl⟩ := C
  intro hf H locs ls hP hS hl
  exact lv_lrem hx hb hdg (by have h9 := (ck_some hf).1; simpa using h9) (k (ck_some hf).2 H locs ls hP hS hl)
theorem v_ineg (C : Ok X cc nL ret ws own rm D cl tys al N rv w') {x : Int32} (hdg : decode cc pc = .ok (.ineg, 1))
    (k : VF X res o w (pc + 1) lv (.int (-x) :: st)) : VF X res o w pc lv (.int x :: st) := by
  obtain ⟨p, l, e, R, s, m, args, below, meth, c, D', cl', tys', al', N', nL', Q⟩ := X
  obtain ⟨hx, hb, hml, hown, hts, hr, hlk, rfl, hK, hnd, hN, hNK, rfl, rfl, rfl, rfl, rfl, rfl, rfl⟩ := C
  intro hf H locs ls hP hS hl
  exact lv_ineg hx hb hdg (k hf H locs ls hP hS hl)
theorem v_lneg (C : Ok X cc nL ret ws own rm D cl tys al N rv w') {x : Int64} (hdg : decode cc pc = .ok (.lneg, 1))
    (k : VF X res o w (pc + 1) lv (.long (-x) :: st)) : VF X res o w pc lv (.long x :: st) := by
  obtain ⟨p, l, e, R, s, m, args, below, meth, c, D', cl', tys', al', N', nL', Q⟩ := X
  obtain ⟨hx, hb, hml, hown, hts, hr, hlk, rfl, hK, hnd, hN, hNK, rfl, rfl, rfl, rfl, rfl, rfl, rfl⟩ := C
  intro hf H locs ls hP hS hl
  exact lv_lneg hx hb hdg (k hf H locs ls hP hS hl)
theorem v_i2l (C : Ok X cc nL ret ws own rm D cl tys al N rv w') {x : Int32} (hdg : decode cc pc = .ok (.i2l, 1))
    (k : VF X res o w (pc + 1) lv (.long (x.toInt64) :: st)) : VF X res o w pc lv (.int x :: st) := by
  obtain ⟨p, l, e, R, s, m, args, below, meth, c, D', cl', tys', al', N', nL', Q⟩ := X
  obtain ⟨hx, hb, hml, hown, hts, hr, hlk, rfl, hK, hnd, hN, hNK, rfl, rfl, rfl, rfl, rfl, rfl, rfl⟩ := C
  intro hf H locs ls hP hS hl
  exact lv_i2l hx hb hdg rfl (k hf H locs ls hP hS hl)
theorem v_l2i (C : Ok X cc nL ret ws own rm D cl tys al N rv w') {x : Int64} (hdg : decode cc pc = .ok (.l2i, 1))
    (k : VF X res o w (pc + 1) lv (.int (x.toInt32) :: st)) : VF X res o w pc lv (.long x :: st) := by
  obtain ⟨p, l, e, R, s, m, args, below, meth, c, D', cl', tys', al', N', nL', Q⟩ := X
  obtain ⟨hx, hb, hml, hown, hts, hr, hlk, rfl, hK, hnd, hN, hNK, rfl, rfl, rfl, rfl, rfl, rfl, rfl⟩ := C
  intro hf H locs ls hP hS hl
  exact lv_l2i hx hb hdg rfl (k hf H locs ls hP hS hl)
theorem v_i2b (C : Ok X cc nL ret ws own rm D cl tys al N rv w') {x : Int32} (hdg : decode cc pc = .ok (.i2b, 1))
    (k : VF X res o w (pc + 1) lv (.int (x.toInt8.toInt32) :: st)) : VF X res o w pc lv (.int x :: st) := by
  obtain ⟨p, l, e, R, s, m, args, below, meth, c, D', cl', tys', al', N', nL', Q⟩ := X
  obtain ⟨hx, hb, hml, hown, hts, hr, hlk, rfl, hK, hnd, hN, hNK, rfl, rfl, rfl, rfl, rfl, rfl, rfl⟩ := C
  intro hf H locs ls hP hS hl
  exact lv_i2b hx hb hdg rfl (k hf H locs ls hP hS hl)
theorem v_i2c (C : Ok X cc nL ret ws own rm D cl tys al N rv w') {x : Int32} (hdg : decode cc pc = .ok (.i2c, 1))
    (k : VF X res o w (pc + 1) lv (.int ((x.toUInt32 % 65536).toInt32) :: st)) : VF X res o w pc lv (.int x :: st) := by
  obtain ⟨p, l, e, R, s, m, args, below, meth, c, D', cl', tys', al', N', nL', Q⟩ := X
  obtain ⟨hx, hb, hml, hown, hts, hr, hlk, rfl, hK, hnd, hN, hNK, rfl, rfl, rfl, rfl, rfl, rfl, rfl⟩ := C
  intro hf H locs ls hP hS hl
  exact lv_i2c hx hb hdg rfl (k hf H locs ls hP hS hl)
theorem v_iushr (C : Ok X cc nL ret ws own rm D cl tys al N rv w') {x y : Int32} (hdg : decode cc pc = .ok (.iushr, 1))
    (k : VF X res o w (pc + 1) lv (.int (x.toUInt32 >>> (y.toUInt32 &&& Int32.toUInt32 31)).toInt32 :: st)) : VF X res o w pc lv (.int y :: .int x :: st) := by
  obtain ⟨p, l, e, R, s, m, args, below, meth, c, D', cl', tys', al', N', nL', Q⟩ := X
  obtain ⟨hx, hb, hml, hown, hts, hr, hlk, rfl, hK, hnd, hN, hNK, rfl, rfl, rfl, rfl, rfl, rfl, rfl⟩ := C
  intro hf H locs ls hP hS hl
  exact lv_iushr hx hb hdg rfl (k hf H locs ls hP hS hl)
theorem v_lshl (C : Ok X cc nL ret ws own rm D cl tys al N rv w') {x : Int64} {y : Int32} (hdg : decode cc pc = .ok (.lshl, 1))
    (k : VF X res o w (pc + 1) lv (.long (x <<< (y.toInt64 &&& 63)) :: st)) : VF X res o w pc lv (.int y :: .long x :: st) := by
  obtain ⟨p, l, e, R, s, m, args, below, meth, c, D', cl', tys', al', N', nL', Q⟩ := X
  obtain ⟨hx, hb, hml, hown, hts, hr, hlk, rfl, hK, hnd, hN, hNK, rfl, rfl, rfl, rfl, rfl, rfl, rfl⟩ := C
  intro hf H locs ls hP hS hl
  exact lv_lshl hx hb hdg rfl (k hf H locs ls hP hS hl)
theorem v_dup (C : Ok X cc nL ret ws own rm D cl tys al N rv w') {v : Value} (hdg : decode cc pc = .ok (.dup, 1)) (hc : v.category = 1)
    (k : VF X res o w (pc + 1) lv (v :: v :: st)) : VF X res o w pc lv (v :: st) := by
  obtain ⟨p, l, e, R, s, m, args, below, meth, c, D', cl', tys', al', N', nL', Q⟩ := X
  obtain ⟨hx, hb, hml, hown, hts, hr, hlk, rfl, hK, hnd, hN, hNK, rfl, rfl, rfl, rfl, rfl, rfl, rfl⟩ := C
  intro hf H locs ls hP hS hl
  exact lv_dup hx hb hdg hc (k hf H locs ls hP hS hl)
theorem v_pop (C : Ok X cc nL ret ws own rm D cl tys al N rv w') {v : Value} (hdg : decode cc pc = .ok (.pop, 1)) (hc : v.category = 1)
    (k : VF X res o w (pc + 1) lv st) : VF X res o w pc lv (v :: st) := by
  obtain ⟨p, l, e, R, s, m, args, below, meth, c, D', cl', tys', al', N', nL', Q⟩ := X
  obtain ⟨hx, hb, hml, hown, hts, hr, hlk, rfl, hK, hnd, hN, hNK, rfl, rfl, rfl, rfl, rfl, rfl, rfl⟩ := C
  intro hf H locs ls hP hS hl
  exact lv_pop hx hb hdg hc (k hf H locs ls hP hS hl)
theorem v_dup2 (C : Ok X cc nL ret ws own rm D cl tys al N rv w') {v u : Value} (hdg : decode cc pc = .ok (.dup2, 1)) (hc : v.category = 1) (hd : u.category = 1)
    (k : VF X res o w (pc + 1) lv (v :: u :: v :: u :: st)) : VF X res o w pc lv (v :: u :: st) := by
  obtain ⟨p, l, e, R, s, m, args, below, meth, c, D', cl', tys', al', N', nL', Q⟩ := X
  obtain ⟨hx, hb, hml, hown, hts, hr, hlk, rfl, hK, hnd, hN, hNK, rfl, rfl, rfl, rfl, rfl, rfl, rfl⟩ := C
  intro hf H locs ls hP hS hl
  exact lv_dup2_11 hx hb hdg hc hd (k hf H locs ls hP hS hl)
theorem v_icmp_eq (C : Ok X cc nL ret ws own rm D cl tys al N rv w') {oa ob : Option ρ} {x y : Int32} {off : Int} {tgt : Nat} (hdg : decode cc pc = .ok (.if_icmp .eq off, 3)) (ht : (pc : Int) + off = (tgt : Int))
    (kt : VF X res oa w tgt lv st) (kf : VF X res ob w (pc + 3) lv st) : VF X res (if x = y then oa else ob) w pc lv (.int y :: .int x :: st) := by
  obtain ⟨p, l, e, R, s, m, args, below, meth, c, D', cl', tys', al', N', nL', Q⟩ := X
  obtain ⟨hx, hb, hml, hown, hts, hr, hlk, rfl, hK, hnd, hN, hNK, rfl, rfl, rfl, rfl, rfl, rfl, rfl⟩ := C
  intro hf H locs ls hP hS hl
  exact lv_icmp_eq hx hb hdg ht (fun h9 => kt (by rw [if_pos h9] at hf; exact hf) H locs ls hP hS hl) (fun h9 => kf (by rw [if_neg h9] at hf; exact hf) H locs ls hP hS hl)
theorem v_if_eq (C : Ok X cc nL ret ws own rm D cl tys al N rv w') {oa ob : Option ρ} {x : Int32} {off : Int} {tgt : Nat} (hdg : decode cc pc = .ok (.ifCond .eq off, 3)) (ht : (pc : Int) + off = (tgt : Int))
    (kt : VF X res oa w tgt lv st) (kf : VF X res ob w (pc + 3) lv st) : VF X res (if x = 0 then oa else ob) w pc lv (.int x :: st) := by
  obtain ⟨p, l, e, R, s, m, args, below, meth, c, D', cl', tys', al', N', nL', Q⟩ := X
  obtain ⟨hx, hb, hml, hown, hts, hr, hlk, rfl, hK, hnd, hN, hNK, rfl, rfl, rfl, rfl, rfl, rfl, rfl⟩ := C
  intro hf H locs ls hP hS hl
  exact lv_if_eq hx hb hdg ht (fun h9 => kt (by rw [if_pos h9] at hf; exact hf) H locs ls hP hS hl) (fun h9 => kf (by rw [if_neg h9] at hf; exact hf) H locs ls hP hS hl)
theorem v_lcmp_eq (C : Ok X cc nL ret ws own rm D cl tys al N rv w') {oa ob : Option ρ} {x y : Int64} {off : Int} {tgt : Nat} (hd0 : decode cc pc = .ok (.lcmp, 1)) (hdg : decode cc (pc + 1) = .ok (.ifCond .eq off, 3)) (ht : ((pc + 1 : Nat) : Int) + off = (tgt : Int))
    (kt : VF X res oa w tgt lv st) (kf : VF X res ob w (pc + 4) lv st) : VF X res (if x = y then oa else ob) w pc lv (.long y :: .long x :: st) := by
  obtain ⟨p, l, e, R, s, m, args, below, meth, c, D', cl', tys', al', N', nL', Q⟩ := X
  obtain ⟨hx, hb, hml, hown, hts, hr, hlk, rfl, hK, hnd, hN, hNK, rfl, rfl, rfl, rfl, rfl, rfl, rfl⟩ := C
  intro hf H locs ls hP hS hl
  exact W.lcmp hx hb hd0 (lv_if_eq hx hb hdg ht (fun h9 => kt (by rw [if_pos ((lg_cmp_eq x y).mp h9)] at hf; exact hf) H locs ls hP hS hl) (fun h9 => kf (by rw [if_neg (fun z => h9 ((lg_cmp_eq x y).mpr z))] at hf; exact hf) H locs ls hP hS hl))
theorem v_icmp_ne (C : Ok X cc nL ret ws own rm D cl tys al N rv w') {oa ob : Option ρ} {x y : Int32} {off : Int} {tgt : Nat} (hdg : decode cc pc = .ok (.if_icmp .ne off, 3)) (ht : (pc : Int) + off = (tgt : Int))
    (kt : VF X res oa w tgt lv st) (kf : VF X res ob w (pc + 3) lv st) : VF X res (if x = y then ob else oa) w pc lv (.int y :: .int x :: st) := by
  obtain ⟨p, l, e, R, s, m, args, below, meth, c, D', cl', tys', al', N', nL', Q⟩ := X
  obtain ⟨hx, hb, hml, hown, hts, hr, hlk, rfl, hK, hnd, hN, hNK, rfl, rfl, rfl, rfl, rfl, rfl, rfl⟩ := C
  intro hf H locs ls hP hS hl
  exact lv_icmp_ne hx hb hdg ht (fun h9 => kt (by rw [if_neg h9] at hf; exact hf) H locs ls hP hS hl) (fun h9 => kf (by rw [if_pos h9] at hf; exact hf) H locs ls hP hS hl)
theorem v_if_ne (C : Ok X cc nL ret ws own rm D cl tys al N rv w') {oa ob : Option ρ} {x : Int32} {off : Int} {tgt : Nat} (hdg : decode cc pc = .ok (.ifCond .ne off, 3)) (ht : (pc : Int) + off = (tgt : Int))
    (kt : VF X res oa w tgt lv st) (kf : VF X res ob w (pc + 3) lv st) : VF X res (if x = 0 then ob else oa) w pc lv (.int x :: st) := by
  obtain ⟨p, l, e, R, s, m, args, below, meth, c, D', cl', tys', al', N', nL', Q⟩ := X
  obtain ⟨hx, hb, hml, hown, hts, hr, hlk, rfl, hK, hnd, hN, hNK, rfl, rfl, rfl, rfl, rfl, rfl, rfl⟩ := C
  intro hf H locs ls hP hS hl
  exact lv_if_ne hx hb hdg ht (fun h9 => kt (by rw [if_neg h9] at hf; exact hf) H locs ls hP hS hl) (fun h9 => kf (by rw [if_pos h9] at hf; exact hf) H locs ls hP hS hl)
theorem v_lcmp_ne (C : Ok X cc nL ret ws own rm D cl tys al N rv w') {oa ob : Option ρ} {x y : Int64} {off : Int} {tgt : Nat} (hd0 : decode cc pc = .ok (.lcmp, 1)) (hdg : decode cc (pc + 1) = .ok (.ifCond .ne off, 3)) (ht : ((pc + 1 : Nat) : Int) + off = (tgt : Int))
    (kt : VF X res oa w tgt lv st) (kf : VF X res ob w (pc + 4) lv st) : VF X res (if x = y then ob else oa) w pc lv (.long y :: .long x :: st) := by
  obtain ⟨p, l, e, R, s, m, args, below, meth, c, D', cl', tys', al', N', nL', Q⟩ := X
  obtain ⟨hx, hb, hml, hown, hts, hr, hlk, rfl, hK, hnd, hN, hNK, rfl, rfl, rfl, rfl, rfl, rfl, rfl⟩ := C
  intro hf H locs ls hP hS hl
  exact W.lcmp hx hb hd0 (lv_if_ne hx hb hdg ht (fun h9 => kt (by rw [if_neg (fun z => h9 ((lg_cmp_eq x y).mpr z))] at hf; exact hf) H locs ls hP hS hl) (fun h9 => kf (by rw [if_pos ((lg_cmp_eq x y).mp h9)] at hf; exact hf) H locs ls hP hS hl))
theorem v_icmp_lt (C : Ok X cc nL ret ws own rm D cl tys al N rv w') {oa ob : Option ρ} {x y : Int32} {off : Int} {tgt : Nat} (hdg : decode cc pc = .ok (.if_icmp .lt off, 3)) (ht : (pc : Int) + off = (tgt : Int))
    (kt : VF X res oa w tgt lv st) (kf : VF X res ob w (pc + 3) lv st) : VF X res (if x < y then oa else ob) w pc lv (.int y :: .int x :: st) := by
  obtain ⟨p, l, e, R, s, m, args, below, meth, c, D', cl', tys', al', N', nL', Q⟩ := X
  obtain ⟨hx, hb, hml, hown, hts, hr, hlk, rfl, hK, hnd, hN, hNK, rfl, rfl, rfl, rfl, rfl, rfl, rfl⟩ := C
  intro hf H locs ls hP hS hl
  exact lv_icmp_lt hx hb hdg ht (fun h9 => kt (by rw [if_pos h9] at hf; exact hf) H locs ls hP hS hl) (fun h9 => kf (by rw [if_neg h9] at hf; exact hf) H locs ls hP hS hl)
theorem v_if_lt (C : Ok X cc nL ret ws own rm D cl tys al N rv w') {oa ob : Option ρ} {x : Int32} {off : Int} {tgt : Nat} (hdg : decode cc pc = .ok (.ifCond .lt off, 3)) (ht : (pc : Int) + off = (tgt : Int))
    (kt : VF X res oa w tgt lv st) (kf : VF X res ob w (pc + 3) lv st) : VF X res (if x < 0 then oa else ob) w pc lv (.int x :: st) := by
  obtain ⟨p, l, e, R, s, m, args, below, meth, c, D', cl', tys', al', N', nL', Q⟩ := X
  obtain ⟨hx, hb, hml, hown, hts, hr, hlk, rfl, hK, hnd, hN, hNK, rfl, rfl, rfl, rfl, rfl, rfl, rfl⟩ := C
  intro hf H locs ls hP hS hl
  exact lv_if_lt hx hb hdg ht (fun h9 => kt (by rw [if_pos h9] at hf; exact hf) H locs ls hP hS hl) (fun h9 => kf (by rw [if_neg h9] at hf; exact hf) H locs ls hP hS hl)
theorem v_lcmp_lt (C : Ok X cc nL ret ws own rm D cl tys al N rv w') {oa ob : Option ρ} {x y : Int64} {off : Int} {tgt : Nat} (hd0 : decode cc pc = .ok (.lcmp, 1)) (hdg : decode cc (pc + 1) = .ok (.ifCond .lt off, 3)) (ht : ((pc + 1 : Nat) : Int) + off = (tgt : Int))
    (kt : VF X res oa w tgt lv st) (kf : VF X res ob w (pc + 4) lv st) : VF X res (if x < y then oa else ob) w pc lv (.long y :: .long x :: st) := by
  obtain ⟨p, l, e, R, s, m, args, below, meth, c, D', cl', tys', al', N', nL', Q⟩ := X
  obtain ⟨hx, hb, hml, hown, hts, hr, hlk, rfl, hK, hnd, hN, hNK, rfl, rfl, rfl, rfl, rfl, rfl, rfl⟩ := C
  intro hf H locs ls hP hS hl
  exact W.lcmp hx hb hd0 (lv_if_lt hx hb hdg ht (fun h9 => kt (by rw [if_pos ((lg_cmp_lt x y).mp h9)] at hf; exact hf) H locs ls hP hS hl) (fun h9 => kf (by rw [if_neg (fun z => h9 ((lg_cmp_lt x y).mpr z))] at hf; exact hf) H locs ls hP hS hl))
theorem v_icmp_ge (C : Ok X cc nL ret ws own rm D cl tys al N rv w') {oa ob : Option ρ} {x y : Int32} {off : Int} {tgt : Nat} (hdg : decode cc pc = .ok (.if_icmp .ge off, 3)) (ht : (pc : Int) + off = (tgt : Int))
    (kt : VF X res oa w tgt lv st) (kf : VF X res ob w (pc + 3) lv st) : VF X res (if x < y then ob else oa) w pc lv (.int y :: .int x :: st) := by
  obtain ⟨p, l, e, R, s, m, args, below, meth, c, D', cl', tys', al', N', nL', Q⟩ := X
  obtain ⟨hx, hb, hml, hown, hts, hr, hlk, rfl, hK, hnd, hN, hNK, rfl, rfl, rfl, rfl, rfl, rfl, rfl⟩ := C
  intro hf H locs ls hP hS hl
  exact lv_icmp_ge hx hb hdg ht (fun h9 => kt (by rw [if_neg (Int32.not_lt.mpr h9)] at hf; exact hf) H locs ls hP hS hl) (fun h9 => kf (by rw [if_pos (Int32.not_le.mp h9)] at hf; exact hf) H locs ls hP hS hl)
theorem v_if_ge (C : Ok X cc nL ret ws own rm D cl tys al N rv w') {oa ob : Option ρ} {x : Int32} {off : Int} {tgt : Nat} (hdg : decode cc pc = .ok (.ifCond .ge off, 3)) (ht : (pc : Int) + off = (tgt : Int))
    (kt : VF X res oa w tgt lv st) (kf : VF X res ob w (pc + 3) lv st) : VF X res (if x < 0 then ob else oa) w pc lv (.int x :: st) := by
  obtain ⟨p, l, e, R, s, m, args, below, meth, c, D', cl', tys', al', N', nL', Q⟩ := X
  obtain ⟨hx, hb, hml, hown, hts, hr, hlk, rfl, hK, hnd, hN, hNK, rfl, rfl, rfl, rfl, rfl, rfl, rfl⟩ := C
  intro hf H locs ls hP hS hl
  exact lv_if_ge hx hb hdg ht (fun h9 => kt (by rw [if_neg (Int32.not_lt.mpr h9)] at hf; exact hf) H locs ls hP hS hl) (fun h9 => kf (by rw [if_pos (Int32.not_le.mp h9)] at hf; exact hf) H locs ls hP hS hl)
theorem v_lcmp_ge (C : Ok X cc nL ret ws own rm D cl tys al N rv w') {oa ob : Option ρ} {x y : Int64} {off : Int} {tgt : Nat} (hd0 : decode cc pc = .ok (.lcmp, 1)) (hdg : decode cc (pc + 1) = .ok (.ifCond .ge off, 3)) (ht : ((pc + 1 : Nat) : Int) + off = (tgt : Int))
    (kt : VF X res oa w tgt lv st) (kf : VF X res ob w (pc + 4) lv st) : VF X res (if x < y then ob else oa) w pc lv (.long y :: .long x :: st) := by
  obtain ⟨p, l, e, R, s, m, args, below, meth, c, D', cl', tys', al', N', nL', Q⟩ := X
  obtain ⟨hx, hb, hml, hown, hts, hr, hlk, rfl, hK, hnd, hN, hNK, rfl, rfl, rfl, rfl, rfl, rfl, rfl⟩ := C
  intro hf H locs ls hP hS hl
  exact W.lcmp hx hb hd0 (lv_if_ge hx hb hdg ht (fun h9 => kt (by rw [if_neg (Int64.not_lt.mpr ((lg_cmp_ge x y).mp h9))] at hf; exact hf) H locs ls hP hS hl) (fun h9 => kf (by rw [if_pos (Int64.not_le.mp (fun z => h9 ((lg_cmp_ge x y).mpr z)))] at hf; exact hf) H locs ls hP hS hl))
theorem v_icmp_gt (C : Ok X cc nL ret ws own rm D cl tys al N rv w') {oa ob : Option ρ} {x y : Int32} {off : Int} {tgt : Nat} (hdg : decode cc pc = .ok (.if_icmp .gt off, 3)) (ht : (pc : Int) + off = (tgt : Int))
    (kt : VF X res oa w tgt lv st) (kf : VF X res ob w (pc + 3) lv st) : VF X res (if y < x then oa else ob) w pc lv (.int y :: .int x :: st) := by
  obtain ⟨p, l, e, R, s, m, args, below, meth, c, D', cl', tys', al', N', nL', Q⟩ := X
  obtain ⟨hx, hb, hml, hown, hts, hr, hlk, rfl, hK, hnd, hN, hNK, rfl, rfl, rfl, rfl, rfl, rfl, rfl⟩ := C
  intro hf H locs ls hP hS hl
  exact lv_icmp_gt hx hb hdg ht (fun h9 => kt (by rw [if_pos h9] at hf; exact hf) H locs ls hP hS hl) (fun h9 => kf (by rw [if_neg h9] at hf; exact hf) H locs ls hP hS hl)
theorem v_if_gt (C : Ok X cc nL ret ws own rm D cl tys al N rv w') {oa ob : Option ρ} {x : Int32} {off : Int} {tgt : Nat} (hdg : decode cc pc = .ok (.ifCond .gt off, 3)) (ht : (pc : Int) + off = (tgt : Int))
    (kt : VF X res oa w tgt lv st) (kf : VF X res ob w (pc + 3) lv st) : VF X res (if 0 < x then oa else ob) w pc lv (.int x :: st) := by
  obtain ⟨p, l, e, R, s, m, args, below, meth, c, D', cl', tys', al', N', nL', Q⟩ := X
  obtain ⟨hx, hb, hml, hown, hts, hr, hlk, rfl, hK, hnd, hN, hNK, rfl, rfl, rfl, rfl, rfl, rfl, rfl⟩ := C
  intro hf H locs ls hP hS hl
  exact lv_if_gt hx hb hdg ht (fun h9 => kt (by rw [if_pos h9] at hf; exact hf) H locs ls hP hS hl) (fun h9 => kf (by rw [if_neg h9] at hf; exact hf) H locs ls hP hS hl)
theorem v_lcmp_gt (C : Ok X cc nL ret ws own rm D cl tys al N rv w') {oa ob : Option ρ} {x y : Int64} {off : Int} {tgt : Nat} (hd0 : decode cc pc = .ok (.lcmp, 1)) (hdg : decode cc (pc + 1) = .ok (.ifCond .gt off, 3)) (ht : ((pc + 1 : Nat) : Int) + off = (tgt : Int))
    (kt : VF X res oa w tgt lv st) (kf : VF X res ob w (pc + 4) lv st) : VF X res (if y < x then oa else ob) w pc lv (.long y :: .long x :: st) := by
  obtain ⟨p, l, e, R, s, m, args, below, meth, c, D', cl', tys', al', N', nL', Q⟩ := X
  obtain ⟨hx, hb, hml, hown, hts, hr, hlk, rfl, hK, hnd, hN, hNK, rfl, rfl, rfl, rfl, rfl, rfl, rfl⟩ := C
  intro hf H locs ls hP hS hl
  exact W.lcmp hx hb hd0 (lv_if_gt hx hb hdg ht (fun h9 => kt (by rw [if_pos ((lg_cmp_gt x y).mp h9)] at hf; exact hf) H locs ls hP hS hl) (fun h9 => kf (by rw [if_neg (fun z => h9 ((lg_cmp_gt x y).mpr z))] at hf; exact hf) H locs ls hP hS hl))
theorem v_icmp_le (C : Ok X cc nL ret ws own rm D cl tys al N rv w') {oa ob : Option ρ} {x y : Int32} {off : Int} {tgt : Nat} (hdg : decode cc pc = .ok (.if_icmp .le off, 3)) (ht : (pc : Int) + off = (tgt : Int))
    (kt : VF X res oa w tgt lv st) (kf : VF X res ob w (pc + 3) lv st) : VF X res (if y < x then ob else oa) w pc lv (.int y :: .int x :: st) := by
  obtain ⟨p, l, e, R, s, m, args, below, meth, c, D', cl', tys', al', N', nL', Q⟩ := X
  obtain ⟨hx, hb, hml, hown, hts, hr, hlk, rfl, hK, hnd, hN, hNK, rfl, rfl, rfl, rfl, rfl, rfl, rfl⟩ := C
  intro hf H locs ls hP hS hl
  exact lv_icmp_le hx hb hdg ht (fun h9 => kt (by rw [if_neg (Int32.not_lt.mpr h9)] at hf; exact hf) H locs ls hP hS hl) (fun h9 => kf (by rw [if_pos (Int32.not_le.mp h9)] at hf; exact hf) H locs ls hP hS hl)
theorem v_if_le (C : Ok X cc nL ret ws own rm D cl tys al N rv w') {oa ob : Option ρ} {x : Int32} {off : Int} {tgt : Nat} (hdg : decode cc pc = .ok (.ifCond .le off, 3)) (ht : (pc : Int) + off = (tgt : Int))
    (kt : VF X res oa w tgt lv st) (kf : VF X res ob w (pc + 3) lv st) : VF X res (if 0 < x then ob else oa) w pc lv (.int x :: st) := by
  obtain ⟨p, l, e, R, s, m, args, below, meth, c, D', cl', tys', al', N', nL', Q⟩ := X
  obtain ⟨hx, hb, hml, hown, hts, hr, hlk, rfl, hK, hnd, hN, hNK, rfl, rfl, rfl, rfl, rfl, rfl, rfl⟩ := C
  intro hf H locs ls hP hS hl
  exact lv_if_le hx hb hdg ht (fun h9 => kt (by rw [if_neg (Int32.not_lt.mpr h9)] at hf; exact hf) H locs ls hP hS hl) (fun h9 => kf (by rw [if_pos (Int32.not_le.mp h9)] at hf; exact hf) H locs ls hP hS hl)
theorem v_lcmp_le (C : Ok X cc nL ret ws own rm D cl tys al N rv w') {oa ob : Option ρ} {x y : Int64} {off : Int} {tgt : Nat} (hd0 : decode cc pc = .ok (.lcmp, 1)) (hdg : decode cc (pc + 1) = .ok (.ifCond .le off, 3)) (ht : ((pc + 1 : Nat) : Int) + off = (tgt : Int))
    (kt : VF X res oa w tgt lv st) (kf : VF X res ob w (pc + 4) lv st) : VF X res (if y < x then ob else oa) w pc lv (.long y :: .long x :: st) := by
  obtain ⟨p, l, e, R, s, m, args, below, meth, c, D', cl', tys', al', N', nL', Q⟩ := X
  obtain ⟨hx, hb, hml, hown, hts, hr, hlk, rfl, hK, hnd, hN, hNK, rfl, rfl, rfl, rfl, rfl, rfl, rfl⟩ := C
  intro hf H locs ls hP hS hl
  exact W.lcmp hx hb hd0 (lv_if_le hx hb hdg ht (fun h9 => kt (by rw [if_neg (Int64.not_lt.mpr ((lg_cmp_le x y).mp h9))] at hf; exact hf) H locs ls hP hS hl) (fun h9 => kf (by rw [if_pos (Int64.not_le.mp (fun z => h9 ((lg_cmp_le x y).mpr z)))] at hf; exact hf) H locs ls hP hS hl))
theorem v_ifb_eq (C : Ok X cc nL ret ws own rm D cl tys al N rv w') {oa ob : Option ρ} {b : Bool} {off : Int} {tgt : Nat} (hdg : decode cc pc = .ok (.ifCond .eq off, 3)) (ht : (pc : Int) + off = (tgt : Int))
    (kt : VF X res oa w tgt lv st) (kf : VF X res ob w (pc + 3) lv st) : VF X res (if b = true then ob else oa) w pc lv (.int (bI b) :: st) := by
  obtain ⟨p, l, e, R, s, m, args, below, meth, c, D', cl', tys', al', N', nL', Q⟩ := X
  obtain ⟨hx, hb, hml, hown, hts, hr, hlk, rfl, hK, hnd, hN, hNK, rfl, rfl, rfl, rfl, rfl, rfl, rfl⟩ := C
  intro hf H locs ls hP hS hl
  cases b with
  | true => exact lv_if_eq hx hb hdg ht (fun h9 => absurd h9 (by decide)) (fun h9 => kf (by rw [if_pos rfl] at hf; exact hf) H locs ls hP hS hl)
  | false => exact lv_if_eq hx hb hdg ht (fun h9 => kt (by rw [if_neg (by decide)] at hf; exact hf) H locs ls hP hS hl) (fun h9 => absurd rfl h9)
theorem v_ifb_ne (C : Ok X cc nL ret ws own rm D cl tys al N rv w') {oa ob : Option ρ} {b : Bool} {off : Int} {tgt : Nat} (hdg : decode cc pc = .ok (.ifCond .ne off, 3)) (ht : (pc : Int) + off = (tgt : Int))
    (kt : VF X res oa w tgt lv st) (kf : VF X res ob w (pc + 3) lv st) : VF X res (if b = true then oa else ob) w pc lv (.int (bI b) :: st) := by
  obtain ⟨p, l, e, R, s, m, args, below, meth, c, D', cl', tys', al', N', nL', Q⟩ := X
  obtain ⟨hx, hb, hml, hown, hts, hr, hlk, rfl, hK, hnd, hN, hNK, rfl, rfl, rfl, rfl, rfl, rfl, rfl⟩ := C
  intro hf H locs ls hP hS hl
  cases b with
  | true => exact lv_if_ne hx hb hdg ht (fun h9 => kt (by rw [if_pos rfl] at hf; exact hf) H locs ls hP hS hl) (fun h9 => absurd h9 (by decide))
  | false => exact lv_if_ne hx hb hdg ht (fun h9 => absurd rfl h9) (fun h9 => kf (by rw [if_neg (by decide)] at hf; exact hf) H locs ls hP hS hl)
theorem v_goto (C : Ok X cc nL ret ws own rm D cl tys al N rv w') {off : Int} {tgt : Nat} (hdg : decode cc pc = .ok (.goto off, 3)) (ht : (pc : Int) + off = (tgt : Int))
    (k : VF X res o w tgt lv st) : VF X res o w pc lv st := by
  obtain ⟨p, l, e, R, s, m, args, below, meth, c, D', cl', tys', al', N', nL', Q⟩ := X
  obtain ⟨hx, hb, hml, hown, hts, hr, hlk, rfl, hK, hnd, hN, hNK, rfl, rfl, rfl, rfl, rfl, rfl, rfl⟩ := C
  intro hf H locs ls hP hS hl
  exact lv_goto hx hb hdg ht (k hf H locs ls hP hS hl)
theorem bI_or (a b : Bool) : bI a ||| bI b = bI (a || b) := by cases a <;> cases b <;> rfl
theorem bI_nar (b : Bool) : narrow .boolean (.int (bI b)) = .int (bI b) := by cases b <;> rfl
theorem bI_fit (b : Bool) : fits .boolean (.int (bI b)) = true := by cases b <;> rfl
theorem v_iorb (C : Ok X cc nL ret ws own rm D cl tys al N rv w') {a b : Bool} (hdg : decode cc pc = .ok (.ior, 1)) (k : VF X res o w (pc + 1) lv (.int (bI (a || b)) :: st)) : VF X res o w pc lv (.int (bI b) :: .int (bI a) :: st) := v_ior C hdg (by rw [bI_or]; exact k)
theorem v_name {α : Type} {v : α} {mk : α → List Value} {K : α → Option ρ} (k : ∀ x : α, VF X res (K x) w pc lv (mk x)) : VF X res (nm v K) w pc lv (mk v) := k v
theorem v_namew {α : Type} {v : α} {K : α → Option ρ} {wf : α → va_W} (k : ∀ x : α, VF X res (K x) (wf x) pc lv st) : VF X res (nm v K) (wf v) pc lv st := k v
theorem v_jn {β : Type} {K : β → Option ρ} {F : (β → Option ρ) → Option ρ} (k : ∀ k' : β → Option ρ, k' = K → VF X res (F k') w pc lv st) : VF X res (jn K F) w pc lv st := k K rfl
theorem v_none : VF X res none w pc lv st := fun h => by cases h
theorem v_sub (is : List Nat) (h : lv_pick lv is = lv') (k : VF X res o w pc lv' st) : VF X res o w pc lv st := by
  obtain ⟨p, l, e, R, s, m, args, below, meth, c, D', cl', tys', al', N', nL', Q⟩ := X
  exact fun hf H locs ls hP hS hl => k hf H locs ls hP hS (lv_sub hl is h)
theorem v_eqw (h : w = w1) (k : VF X res o w1 pc lv st) : VF X res o w pc lv st := h ▸ k
theorem v_eqs {st1 : List Value} (h : st = st1) (k : VF X res o w pc lv st1) : VF X res o w pc lv st := h ▸ k
theorem v_eqo {o1 : Option ρ} (h : o = o1) (k : VF X res o1 w pc lv st) : VF X res o w pc lv st := h ▸ k
theorem v_iret {rvf : ρ → Option Value} {wf : ρ → va_W} (C : Ok X cc nL (some .int) ws own rm D cl tys al N (rvf res) (wf res)) {r0 : ρ} {v : Int32} (hdg : decode cc pc = .ok (.ireturn, 1)) (hr9 : rvf r0 = some (.int v)) (hw9 : wf r0 = w) : VF X res (some r0) w pc lv [.int v] := by
  obtain ⟨p, l, e, R, s, m, args, below, meth, c, D', cl', tys', al', N', nL', Q⟩ := X
  obtain ⟨hx, hb, hml, hown, hts, hr, hlk, rfl, hK, hnd, hN, hNK, rfl, rfl, rfl, rfl, rfl, rfl, rfl⟩ := C
  intro hf H locs ls hP hS hl
  have h9 : r0 = res := Option.some.inj hf
  exact W.iret (v := v) hx hb hr (fun t ht hW => ⟨⟨by rw [← h9, hr9], by rw [ht, ← h9, hw9]; exact hP⟩, hS.F ht⟩) hS.2.2 hdg hlk
theorem v_lret {rvf : ρ → Option Value} {wf : ρ → va_W} (C : Ok X cc nL (some .long) ws own rm D cl tys al N (rvf res) (wf res)) {r0 : ρ} {v : Int64} (hdg : decode cc pc = .ok (.lreturn, 1)) (hr9 : rvf r0 = some (.long v)) (hw9 : wf r0 = w) : VF X res (some r0) w pc lv [.long v] := by
  obtain ⟨p, l, e, R, s, m, args, below, meth, c, D', cl', tys', al', N', nL', Q⟩ := X
  obtain ⟨hx, hb, hml, hown, hts, hr, hlk, rfl, hK, hnd, hN, hNK, rfl, rfl, rfl, rfl, rfl, rfl, rfl⟩ := C
  intro hf H locs ls hP hS hl
  have h9 : r0 = res := Option.some.inj hf
  exact W.lret (v := v) hx hb hr (fun t ht hW => ⟨⟨by rw [← h9, hr9], by rw [ht, ← h9, hw9]; exact hP⟩, hS.F ht⟩) hS.2.2 hdg hlk
theorem v_zret {rvf : ρ → Option Value} {wf : ρ → va_W} (C : Ok X cc nL (some .boolean) ws own rm D cl tys al N (rvf res) (wf res)) {r0 : ρ} {v : Bool} (hdg : decode cc pc = .ok (.ireturn, 1)) (hr9 : rvf r0 = some (.int (bI v))) (hw9 : wf r0 = w) : VF X res (some r0) w pc lv [.int (bI v)] := by
  obtain ⟨p, l, e, R, s, m, args, below, meth, c, D', cl', tys', al', N', nL', Q⟩ := X
  obtain ⟨hx, hb, hml, hown, hts, hr, hlk, rfl, hK, hnd, hN, hNK, rfl, rfl, rfl, rfl, rfl, rfl, rfl⟩ := C
  intro hf H locs ls hP hS hl
  have h9 : r0 = res := Option.some.inj hf
  exact W.zret (v := bI v) hx hb hr (bI_nar v) (fun t ht hW => ⟨⟨by rw [← h9, hr9], by rw [ht, ← h9, hw9]; exact hP⟩, hS.F ht⟩) hS.2.2 hdg hlk
theorem v_vret {rvf : ρ → Option Value} {wf : ρ → va_W} (C : Ok X cc nL none ws own rm D cl tys al N (rvf res) (wf res)) {r0 : ρ}  (hdg : decode cc pc = .ok (.return_, 1)) (hr9 : rvf r0 = none) (hw9 : wf r0 = w) : VF X res (some r0) w pc lv [] := by
  obtain ⟨p, l, e, R, s, m, args, below, meth, c, D', cl', tys', al', N', nL', Q⟩ := X
  obtain ⟨hx, hb, hml, hown, hts, hr, hlk, rfl, hK, hnd, hN, hNK, rfl, rfl, rfl, rfl, rfl, rfl, rfl⟩ := C
  intro hf H locs ls hP hS hl
  have h9 : r0 = res := Option.some.inj hf
  exact W.vret hx hb hr (fun t ht hW => ⟨⟨by rw [← h9, hr9], by rw [ht, ← h9, hw9]; exact hP⟩, hS.F ht⟩) hS.2.2 hdg hlk
theorem v_get (C : Ok X cc nL ret ws own rm D cl tys al N rv w') {ref C9 : String} {T : u_T} {n ci index q : Nat} (hin : ∀ w ∈ u_ws C9 T n, w ∈ ws) (q0 : Nat) {fs : List Value} (he : w[q0]? = some (q, .inr (ci, fs))) (hc : cl[ci]? = some (C9, T, n)) (j : Nat) (hj : j < n) (hlink : Cond.fieldLink own index ref (T j).2.1 (T j).2.2.1 ∈ ws) (href : (T j).1 = ref) {v : Value} (hv : fs[j]? = some v) (hdg : decode cc pc = .ok (.getfield index, 3))
    (k : VF X res o w (pc + 3) lv (v :: st)) : VF X res o w pc lv (.ref q :: st) := by
  obtain ⟨p, l, e, R, s, m, args, below, meth, c, D', cl', tys', al', N', nL', Q⟩ := X
  obtain ⟨hx, hb, hml, hown, hts, hr, hlk, rfl, hK, hnd, hN, hNK, rfl, rfl, rfl, rfl, rfl, rfl, rfl⟩ := C
  intro hf H locs ls hP hS hl
  exact va_get hx hb hts hin hown hK hP q0 he hc j hj (hts _ hlink) (fun x h => by rw [← href]; exact h) hv hdg (k hf H locs ls hP hS hl)
theorem v_put_nm (C : Ok X cc nL ret ws own rm D cl tys al N rv w') {α : Type} {v : α} (mk : α → Value) {K : α → Option ρ} {ref C9 : String} {T : u_T} {n ci index q : Nat} {ty0 : Nat → FieldType} {ty : FieldType} (wf : α → va_W) (hin : ∀ w ∈ u_ws C9 T n, w ∈ ws) (hty : ∀ k, k < n → parseFieldDescriptor (T k).2.2.1 = some (ty0 k)) (hnm : ∀ a, a < n → ∀ b, b < n → a ≠ b → (T a).2.1 ≠ (T b).2.1) (q0 : Nat) {fs : List Value} (he : w[q0]? = some (q, .inr (ci, fs))) (hal : w.map Prod.fst = al) (hc : cl[ci]? = some (C9, T, n)) (j : Nat) (hj : j < n) (hlink : Cond.fieldLink own index ref (T j).2.1 (T j).2.2.1 ∈ ws) (href : (T j).1 = ref) (hfin : (T j).2.2.2 = false) (hd : ty0 j = ty) (hn : ∀ x : α, narrow ty (mk x) = mk x) (hfit : ∀ x : α, fits ty (mk x) = true) (hlen : j < fs.length) (hwf : ∀ x : α, w.set q0 (q, .inr (ci, fs.set j (mk x))) = wf x) (hdg : decode cc pc = .ok (.putfield index, 3))
    (k : ∀ x : α, VF X res (K x) (wf x) (pc + 3) lv st) : VF X res (nm v K) w pc lv (mk v :: .ref q :: st) := by
  obtain ⟨p, l, e, R, s, m, args, below, meth, c, D', cl', tys', al', N', nL', Q⟩ := X
  obtain ⟨hx, hb, hml, hown, hts, hr, hlk, rfl, hK, hnd, hN, hNK, rfl, rfl, rfl, rfl, rfl, rfl, rfl⟩ := C
  intro hf H locs ls hP hS hl
  exact va_put hx hb hts hin ty0 hty hnm hown hK hP (gD hnd hal) hS q0 he hc j hj (hts _ hlink) (fun x h => by rw [← href]; exact h) hfin (by rw [hty j hj, hd]) (hn v) (hfit v) hlen hdg (fun H1 locs1 hP1 _ hS1 => k v hf H1 locs1 ls (hwf v ▸ hP1) hS1 hl)
theorem v_iald (C : Ok X cc nL ret ws own rm D cl tys al N rv w') {cA : ClassId} {n q : Nat} {f : Nat → Int32} {i : Int32} (q0 t0 : Nat) (he : w[q0]? = some (q, .inl (cA, n, .inl f))) (ht : tys[t0]? = some (cA, .int)) (hdg : decode cc pc = .ok (.iaload, 1))
    (k : VF X res o w (pc + 1) lv (.int (f i.toNatClampNeg) :: st)) : VF X res (ck (inb i n) o) w pc lv (.int i :: .ref q :: st) := by
  obtain ⟨p, l, e, R, s, m, args, below, meth, c, D', cl', tys', al', N', nL', Q⟩ := X
  obtain ⟨hx, hb, hml, hown, hts, hr, hlk, rfl, hK, hnd, hN, hNK, rfl, rfl, rfl, rfl, rfl, rfl, rfl⟩ := C
  intro hf H locs ls hP hS hl
  exact va_iald hx hb hK hP q0 t0 he ht (inb_in (ck_some hf).1) hdg (k (ck_some hf).2 H locs ls hP hS hl)
theorem v_iast_nm (C : Ok X cc nL ret ws own rm D cl tys al N rv w') {cA : ClassId} {n q : Nat} {f : Nat → Int32} {i : Int32} {x : Int32} {K : (Nat → Int32) → Option ρ} (wf : (Nat → Int32) → va_W) (q0 t0 : Nat) (he : w[q0]? = some (q, .inl (cA, n, .inl f))) (hal : w.map Prod.fst = al) (ht : tys[t0]? = some (cA, .int)) (hwf : ∀ F : Nat → Int32, w.set q0 (q, .inl (cA, n, .inl F)) = wf F) (hdg : decode cc pc = .ok (.iastore, 1))
    (k : ∀ F : Nat → Int32, VF X res (K F) (wf F) (pc + 1) lv st) : VF X res (ck (inb i n) (nm (upd f i.toNatClampNeg x) K)) w pc lv (.int x :: .int i :: .ref q :: st) := by
  obtain ⟨p, l, e, R, s, m, args, below, meth, c, D', cl', tys', al', N', nL', Q⟩ := X
  obtain ⟨hx, hb, hml, hown, hts, hr, hlk, rfl, hK, hnd, hN, hNK, rfl, rfl, rfl, rfl, rfl, rfl, rfl⟩ := C
  intro hf H locs ls hP hS hl
  exact va_iast hx hb hK hP (gD hnd hal) hS q0 t0 he ht (inb_in (ck_some hf).1) hdg (fun H1 locs1 hP1 _ hS1 => k _ (ck_some hf).2 H1 locs1 ls (hwf _ ▸ hP1) hS1 hl)
theorem v_lald (C : Ok X cc nL ret ws own rm D cl tys al N rv w') {cA : ClassId} {n q : Nat} {f : Nat → Int64} {i : Int32} (q0 t0 : Nat) (he : w[q0]? = some (q, .inl (cA, n, .inr (.inl f)))) (ht : tys[t0]? = some (cA, .long)) (hdg : decode cc pc = .ok (.laload, 1))
    (k : VF X res o w (pc + 1) lv (.long (f i.toNatClampNeg) :: st)) : VF X res (ck (inb i n) o) w pc lv (.int i :: .ref q :: st) := by
  obtain ⟨p, l, e, R, s, m, args, below, meth, c, D', cl', tys', al', N', nL', Q⟩ := X
  obtain ⟨hx, hb, hml, hown, hts, hr, hlk, rfl, hK, hnd, hN, hNK, rfl, rfl, rfl, rfl, rfl, rfl, rfl⟩ := C
  intro hf H locs ls hP hS hl
  exact va_lald hx hb hK hP q0 t0 he ht (inb_in (ck_some hf).1) hdg (k (ck_some hf).2 H locs ls hP hS hl)
theorem v_last_nm (C : Ok X cc nL ret ws own rm D cl tys al N rv w') {cA : ClassId} {n q : Nat} {f : Nat → Int64} {i : Int32} {x : Int64} {K : (Nat → Int64) → Option ρ} (wf : (Nat → Int64) → va_W) (q0 t0 : Nat) (he : w[q0]? = some (q, .inl (cA, n, .inr (.inl f)))) (hal : w.map Prod.fst = al) (ht : tys[t0]? = some (cA, .long)) (hwf : ∀ F : Nat → Int64, w.set q0 (q, .inl (cA, n, .inr (.inl F))) = wf F) (hdg : decode cc pc = .ok (.lastore, 1))
    (k : ∀ F : Nat → Int64, VF X res (K F) (wf F) (pc + 1) lv st) : VF X res (ck (inb i n) (nm (vp_updL f i.toNatClampNeg x) K)) w pc lv (.long x :: .int i :: .ref q :: st) := by
  obtain ⟨p, l, e, R, s, m, args, below, meth, c, D', cl', tys', al', N', nL', Q⟩ := X
  obtain ⟨hx, hb, hml, hown, hts, hr, hlk, rfl, hK, hnd, hN, hNK, rfl, rfl, rfl, rfl, rfl, rfl, rfl⟩ := C
  intro hf H locs ls hP hS hl
  exact va_last hx hb hK hP (gD hnd hal) hS q0 t0 he ht (inb_in (ck_some hf).1) hdg (fun H1 locs1 hP1 _ hS1 => k _ (ck_some hf).2 H1 locs1 ls (hwf _ ▸ hP1) hS1 hl)
theorem v_bald (C : Ok X cc nL ret ws own rm D cl tys al N rv w') {cA : ClassId} {n q : Nat} {f : Nat → Int32} {i : Int32} (q0 t0 : Nat) (he : w[q0]? = some (q, .inl (cA, n, .inl f))) (ht : tys[t0]? = some (cA, .byte)) (hdg : decode cc pc = .ok (.baload, 1))
    (k : VF X res o w (pc + 1) lv (.int (f i.toNatClampNeg) :: st)) : VF X res (ck (inb i n) o) w pc lv (.int i :: .ref q :: st) := by
  obtain ⟨p, l, e, R, s, m, args, below, meth, c, D', cl', tys', al', N', nL', Q⟩ := X
  obtain ⟨hx, hb, hml, hown, hts, hr, hlk, rfl, hK, hnd, hN, hNK, rfl, rfl, rfl, rfl, rfl, rfl, rfl⟩ := C
  intro hf H locs ls hP hS hl
  exact va_bald hx hb hK hP q0 t0 he ht (inb_in (ck_some hf).1) hdg (k (ck_some hf).2 H locs ls hP hS hl)
theorem v_bast_nm (C : Ok X cc nL ret ws own rm D cl tys al N rv w') {cA : ClassId} {n q : Nat} {f : Nat → Int32} {i : Int32} {x : Int32} {K : (Nat → Int32) → Option ρ} (wf : (Nat → Int32) → va_W) (q0 t0 : Nat) (he : w[q0]? = some (q, .inl (cA, n, .inl f))) (hal : w.map Prod.fst = al) (ht : tys[t0]? = some (cA, .byte)) (hwf : ∀ F : Nat → Int32, w.set q0 (q, .inl (cA, n, .inl F)) = wf F) (hdg : decode cc pc = .ok (.bastore, 1))
    (k : ∀ F : Nat → Int32, VF X res (K F) (wf F) (pc + 1) lv st) : VF X res (ck (inb i n) (nm (upd f i.toNatClampNeg (vp_nar .byte x)) K)) w pc lv (.int x :: .int i :: .ref q :: st) := by
  obtain ⟨p, l, e, R, s, m, args, below, meth, c, D', cl', tys', al', N', nL', Q⟩ := X
  obtain ⟨hx, hb, hml, hown, hts, hr, hlk, rfl, hK, hnd, hN, hNK, rfl, rfl, rfl, rfl, rfl, rfl, rfl⟩ := C
  intro hf H locs ls hP hS hl
  exact va_bast hx hb hK hP (gD hnd hal) hS q0 t0 he ht (inb_in (ck_some hf).1) hdg (fun H1 locs1 hP1 _ hS1 => k _ (ck_some hf).2 H1 locs1 ls (hwf _ ▸ hP1) hS1 hl)
theorem v_alen (C : Ok X cc nL ret ws own rm D cl tys al N rv w') {cA : ClassId} {q : Nat} {x : vp_A} (q0 t0 : Nat) (he : w[q0]? = some (q, .inl (cA, x))) {ty : FieldType} (ht : tys[t0]? = some (cA, ty)) {v : Int32} (hv : Int32.ofNat x.1 = v) (hdg : decode cc pc = .ok (.arraylength, 1))
    (k : VF X res o w (pc + 1) lv (.int v :: st)) : VF X res o w pc lv (.ref q :: st) := by
  obtain ⟨p, l, e, R, s, m, args, below, meth, c, D', cl', tys', al', N', nL', Q⟩ := X
  obtain ⟨hx, hb, hml, hown, hts, hr, hlk, rfl, hK, hnd, hN, hNK, rfl, rfl, rfl, rfl, rfl, rfl, rfl⟩ := C
  intro hf H locs ls hP hS hl
  exact va_alen hx hb hK hP q0 t0 he ht hv hdg (k hf H locs ls hP hS hl)
theorem v_aalda (C : Ok X cc nL ret ws own rm D cl tys al N rv w') {cA : ClassId} {n q : Nat} {f : Nat → Option Nat} {i : Int32} {ad : Nat → Nat} (q0 t0 : Nat) (he : w[q0]? = some (q, .inl (cA, n, .inr (.inr (.inr (.inr f)))))) (ht : tys[t0]? = some (cA, .array .long)) (hf9 : ∀ j : Nat, j < n → f j = some (ad j)) (hdg : decode cc pc = .ok (.aaload, 1))
    (k : inb i n = true → VF X res o w (pc + 1) lv (.ref (ad i.toNatClampNeg) :: st)) : VF X res (ck (inb i n) o) w pc lv (.int i :: .ref q :: st) := by
  obtain ⟨p, l, e, R, s, m, args, below, meth, c, D', cl', tys', al', N', nL', Q⟩ := X
  obtain ⟨hx, hb, hml, hown, hts, hr, hlk, rfl, hK, hnd, hN, hNK, rfl, rfl, rfl, rfl, rfl, rfl, rfl⟩ := C
  intro hf H locs ls hP hS hl
  have hin := inb_in (ck_some hf).1
  have hlt : i.toNatClampNeg < n := Nat.not_le.mp fun q => hin (Or.inr q)
  exact W.aald (v := .ref (ad i.toNatClampNeg)) (ty := .array .long) hx hb (hP q0 _ he) ((hK.2 t0 _ ht).1 n (fun j => va_rf (f j))) rfl (fun q => by cases q) (by show ¬ (i < 0 ∨ (arrV _ _ _).slots.size ≤ _); rw [arrV_size]; exact hin) (by show (arrV _ _ _).slots[_]? = _; rw [arrV_read _ _ hlt, hf9 _ hlt]; rfl) rfl rfl hdg (k (ck_some hf).1 (ck_some hf).2 H locs ls hP hS hl)
def jn0 {ρ9 : Type} (K : Option ρ9) (F : (Option ρ9) → Option ρ9) : Option ρ9 := F K
theorem v_jn0 {K : Option ρ} {F : (Option ρ) → Option ρ} (wj : va_W) (pcj : Nat) (lvj : List (Nat × Value)) (stj : List Value) (J : VF X res K wj pcj lvj stj) (k : ∀ k' : Option ρ, (VF X res k' wj pcj lvj stj) → VF X res (F k') w pc lv st) : VF X res (jn0 K F) w pc lv st := k K J
def jn1 {β0 : Type} {ρ9 : Type} (K : β0 → Option ρ9) (F : (β0 → Option ρ9) → Option ρ9) : Option ρ9 := F K
theorem v_jn1 {β0 : Type} {K : β0 → Option ρ} {F : (β0 → Option ρ) → Option ρ} (wj : β0 → va_W) (pcj : Nat) (lvj : β0 → List (Nat × Value)) (stj : β0 → List Value) (J : ∀ a0 : β0, VF X res (K a0) (wj a0) pcj (lvj a0) (stj a0)) (k : ∀ k' : β0 → Option ρ, (∀ a0 : β0, VF X res (k' a0) (wj a0) pcj (lvj a0) (stj a0)) → VF X res (F k') w pc lv st) : VF X res (jn1 K F) w pc lv st := k K J
def jn2 {β0 β1 : Type} {ρ9 : Type} (K : β0 → β1 → Option ρ9) (F : (β0 → β1 → Option ρ9) → Option ρ9) : Option ρ9 := F K
theorem v_jn2 {β0 β1 : Type} {K : β0 → β1 → Option ρ} {F : (β0 → β1 → Option ρ) → Option ρ} (wj : β0 → β1 → va_W) (pcj : Nat) (lvj : β0 → β1 → List (Nat × Value)) (stj : β0 → β1 → List Value) (J : ∀ a0 : β0, ∀ a1 : β1, VF X res (K a0 a1) (wj a0 a1) pcj (lvj a0 a1) (stj a0 a1)) (k : ∀ k' : β0 → β1 → Option ρ, (∀ a0 : β0, ∀ a1 : β1, VF X res (k' a0 a1) (wj a0 a1) pcj (lvj a0 a1) (stj a0 a1)) → VF X res (F k') w pc lv st) : VF X res (jn2 K F) w pc lv st := k K J
def jn3 {β0 β1 β2 : Type} {ρ9 : Type} (K : β0 → β1 → β2 → Option ρ9) (F : (β0 → β1 → β2 → Option ρ9) → Option ρ9) : Option ρ9 := F K
theorem v_jn3 {β0 β1 β2 : Type} {K : β0 → β1 → β2 → Option ρ} {F : (β0 → β1 → β2 → Option ρ) → Option ρ} (wj : β0 → β1 → β2 → va_W) (pcj : Nat) (lvj : β0 → β1 → β2 → List (Nat × Value)) (stj : β0 → β1 → β2 → List Value) (J : ∀ a0 : β0, ∀ a1 : β1, ∀ a2 : β2, VF X res (K a0 a1 a2) (wj a0 a1 a2) pcj (lvj a0 a1 a2) (stj a0 a1 a2)) (k : ∀ k' : β0 → β1 → β2 → Option ρ, (∀ a0 : β0, ∀ a1 : β1, ∀ a2 : β2, VF X res (k' a0 a1 a2) (wj a0 a1 a2) pcj (lvj a0 a1 a2) (stj a0 a1 a2)) → VF X res (F k') w pc lv st) : VF X res (jn3 K F) w pc lv st := k K J
def jn4 {β0 β1 β2 β3 : Type} {ρ9 : Type} (K : β0 → β1 → β2 → β3 → Option ρ9) (F : (β0 → β1 → β2 → β3 → Option ρ9) → Option ρ9) : Option ρ9 := F K
theorem v_jn4 {β0 β1 β2 β3 : Type} {K : β0 → β1 → β2 → β3 → Option ρ} {F : (β0 → β1 → β2 → β3 → Option ρ) → Option ρ} (wj : β0 → β1 → β2 → β3 → va_W) (pcj : Nat) (lvj : β0 → β1 → β2 → β3 → List (Nat × Value)) (stj : β0 → β1 → β2 → β3 → List Value) (J : ∀ a0 : β0, ∀ a1 : β1, ∀ a2 : β2, ∀ a3 : β3, VF X res (K a0 a1 a2 a3) (wj a0 a1 a2 a3) pcj (lvj a0 a1 a2 a3) (stj a0 a1 a2 a3)) (k : ∀ k' : β0 → β1 → β2 → β3 → Option ρ, (∀ a0 : β0, ∀ a1 : β1, ∀ a2 : β2, ∀ a3 : β3, VF X res (k' a0 a1 a2 a3) (wj a0 a1 a2 a3) pcj (lvj a0 a1 a2 a3) (stj a0 a1 a2 a3)) → VF X res (F k') w pc lv st) : VF X res (jn4 K F) w pc lv st := k K J
def jn5 {β0 β1 β2 β3 β4 : Type} {ρ9 : Type} (K : β0 → β1 → β2 → β3 → β4 → Option ρ9) (F : (β0 → β1 → β2 → β3 → β4 → Option ρ9) → Option ρ9) : Option ρ9 := F K
theorem v_jn5 {β0 β1 β2 β3 β4 : Type} {K : β0 → β1 → β2 → β3 → β4 → Option ρ} {F : (β0 → β1 → β2 → β3 → β4 → Option ρ) → Option ρ} (wj : β0 → β1 → β2 → β3 → β4 → va_W) (pcj : Nat) (lvj : β0 → β1 → β2 → β3 → β4 → List (Nat × Value)) (stj : β0 → β1 → β2 → β3 → β4 → List Value) (J : ∀ a0 : β0, ∀ a1 : β1, ∀ a2 : β2, ∀ a3 : β3, ∀ a4 : β4, VF X res (K a0 a1 a2 a3 a4) (wj a0 a1 a2 a3 a4) pcj (lvj a0 a1 a2 a3 a4) (stj a0 a1 a2 a3 a4)) (k : ∀ k' : β0 → β1 → β2 → β3 → β4 → Option ρ, (∀ a0 : β0, ∀ a1 : β1, ∀ a2 : β2, ∀ a3 : β3, ∀ a4 : β4, VF X res (k' a0 a1 a2 a3 a4) (wj a0 a1 a2 a3 a4) pcj (lvj a0 a1 a2 a3 a4) (stj a0 a1 a2 a3 a4)) → VF X res (F k') w pc lv st) : VF X res (jn5 K F) w pc lv st := k K J
def jn6 {β0 β1 β2 β3 β4 β5 : Type} {ρ9 : Type} (K : β0 → β1 → β2 → β3 → β4 → β5 → Option ρ9) (F : (β0 → β1 → β2 → β3 → β4 → β5 → Option ρ9) → Option ρ9) : Option ρ9 := F K
theorem v_jn6 {β0 β1 β2 β3 β4 β5 : Type} {K : β0 → β1 → β2 → β3 → β4 → β5 → Option ρ} {F : (β0 → β1 → β2 → β3 → β4 → β5 → Option ρ) → Option ρ} (wj : β0 → β1 → β2 → β3 → β4 → β5 → va_W) (pcj : Nat) (lvj : β0 → β1 → β2 → β3 → β4 → β5 → List (Nat × Value)) (stj : β0 → β1 → β2 → β3 → β4 → β5 → List Value) (J : ∀ a0 : β0, ∀ a1 : β1, ∀ a2 : β2, ∀ a3 : β3, ∀ a4 : β4, ∀ a5 : β5, VF X res (K a0 a1 a2 a3 a4 a5) (wj a0 a1 a2 a3 a4 a5) pcj (lvj a0 a1 a2 a3 a4 a5) (stj a0 a1 a2 a3 a4 a5)) (k : ∀ k' : β0 → β1 → β2 → β3 → β4 → β5 → Option ρ, (∀ a0 : β0, ∀ a1 : β1, ∀ a2 : β2, ∀ a3 : β3, ∀ a4 : β4, ∀ a5 : β5, VF X res (k' a0 a1 a2 a3 a4 a5) (wj a0 a1 a2 a3 a4 a5) pcj (lvj a0 a1 a2 a3 a4 a5) (stj a0 a1 a2 a3 a4 a5)) → VF X res (F k') w pc lv st) : VF X res (jn6 K F) w pc lv st := k K J
theorem v_split {P : Prop} [Decidable P] {oa ob : Option ρ} (kt : P → VF X res oa w pc lv st) (kf : ¬ P → VF X res ob w pc lv st) : VF X res (if P then oa else ob) w pc lv st := by
  by_cases h : P
  · rw [if_pos h]; exact kt h
  · rw [if_neg h]; exact kf h
theorem i32n {x y : Int32} (h : ¬ x = y) : x.toInt ≠ y.toInt := fun z => h (Int32.toInt_inj.mp z)
theorem v_tin (C : Ok X cc nL ret ws own rm D cl tys al N rv w') {dflt lo hi : Int} {offs : Array Int} {len tgt : Nat} {x : Int32} {off : Int} (hdg : decode cc pc = .ok (.tableswitch dflt lo hi offs, len)) (h1 : ¬ x.toInt < lo) (h2 : ¬ hi < x.toInt) (ho : offs[(x.toInt - lo).toNat]? = some off) (ht : (pc : Int) + off = (tgt : Int))
    (k : VF X res o w tgt lv st) : VF X res o w pc lv (.int x :: st) := by
  obtain ⟨p, l, e, R, s, m, args, below, meth, c, D', cl', tys', al', N', nL', Q⟩ := X
  obtain ⟨hx, hb, hml, hown, hts, hr, hlk, rfl, hK, hnd, hN, hNK, rfl, rfl, rfl, rfl, rfl, rfl, rfl⟩ := C
  intro hf H locs ls hP hS hl
  exact lv_tableIn hx hb hdg h1 h2 ho ht (k hf H locs ls hP hS hl)
theorem v_tout (C : Ok X cc nL ret ws own rm D cl tys al N rv w') {dflt lo hi : Int} {offs : Array Int} {len tgt : Nat} {x : Int32} (hdg : decode cc pc = .ok (.tableswitch dflt lo hi offs, len)) (h1 : x.toInt < lo ∨ hi < x.toInt) (ht : (pc : Int) + dflt = (tgt : Int))
    (k : VF X res o w tgt lv st) : VF X res o w pc lv (.int x :: st) := by
  obtain ⟨p, l, e, R, s, m, args, below, meth, c, D', cl', tys', al', N', nL', Q⟩ := X
  obtain ⟨hx, hb, hml, hown, hts, hr, hlk, rfl, hK, hnd, hN, hNK, rfl, rfl, rfl, rfl, rfl, rfl, rfl⟩ := C
  intro hf H locs ls hP hS hl
  exact lv_tableOut hx hb hdg h1 ht (k hf H locs ls hP hS hl)
theorem v_look (C : Ok X cc nL ret ws own rm D cl tys al N rv w') {dflt : Int} {ps : Array (Int × Int)} {len tgt : Nat} {x : Int32} {off : Int} (hdg : decode cc pc = .ok (.lookupswitch dflt ps, len)) (hp : (ps.toList.zip (ps.toList.drop 1)).all (fun (a, next) => a.1 < next.1) = true) (ho : Op.lookupswitch.offset ps.toList dflt x.toInt = off) (ht : (pc : Int) + off = (tgt : Int))
    (k : VF X res o w tgt lv st) : VF X res o w pc lv (.int x :: st) := by
  obtain ⟨p, l, e, R, s, m, args, below, meth, c, D', cl', tys', al', N', nL', Q⟩ := X
  obtain ⟨hx, hb, hml, hown, hts, hr, hlk, rfl, hK, hnd, hN, hNK, rfl, rfl, rfl, rfl, rfl, rfl, rfl⟩ := C
  intro hf H locs ls hP hS hl
  exact lv_lookup hx hb hdg hp ho ht (k hf H locs ls hP hS hl)
theorem v_gets (C : Ok X cc nL ret ws own rm D cl tys al N rv w') {C9 n9 d9 ref : String} {v : Value} {index : Nat} (hz : ∀ (A : Nat → Prop) (U : State), N A U → va_Z C9 n9 d9 v A U U.heap) (hlink : Cond.fieldLink own index ref n9 d9 ∈ ws) (href : C9 = ref) (hdg : decode cc pc = .ok (.getstatic index, 3))
    (k : VF X res o w (pc + 3) lv (v :: st)) : VF X res o w pc lv st := by
  obtain ⟨p, l, e, R, s, m, args, below, meth, c, D', cl', tys', al', N', nL', Q⟩ := X
  obtain ⟨hx, hb, hml, hown, hts, hr, hlk, rfl, hK, hnd, hN, hNK, rfl, rfl, rfl, rfl, rfl, rfl, rfl⟩ := C
  intro hf H locs ls hP hS hl
  exact va_gets hx hb (hz _ _ hN) hS hown (hts _ hlink) (fun x h => by rw [← href]; exact h) hdg (k hf H locs ls hP hS hl)
theorem v_tald (C : Ok X cc nL ret ws own rm D cl tys al N rv w') {t n : Nat} {f : Nat → Int32} {i : Int32} (hz : ∀ (A : Nat → Prop) (U : State), N A U → va_T .int t n (fun j => .int (f j)) A U U.heap) (hdg : decode cc pc = .ok (.iaload, 1))
    (k : VF X res o w (pc + 1) lv (.int (f i.toNatClampNeg) :: st)) : VF X res (ck (inb i n) o) w pc lv (.int i :: .ref t :: st) := by
  obtain ⟨p, l, e, R, s, m, args, below, meth, c, D', cl', tys', al', N', nL', Q⟩ := X
  obtain ⟨hx, hb, hml, hown, hts, hr, hlk, rfl, hK, hnd, hN, hNK, rfl, rfl, rfl, rfl, rfl, rfl, rfl⟩ := C
  intro hf H locs ls hP hS hl
  exact va_ti hx hb (hz _ _ hN) hS (inb_in (ck_some hf).1) rfl hdg (k (ck_some hf).2 H locs ls hP hS hl)
theorem v_tlen (C : Ok X cc nL ret ws own rm D cl tys al N rv w') {t n : Nat} {f : Nat → Value} {ty : FieldType} {v : Int32} (hz : ∀ (A : Nat → Prop) (U : State), N A U → va_T ty t n f A U U.heap) (hv : Int32.ofNat n = v) (hdg : decode cc pc = .ok (.arraylength, 1))
    (k : VF X res o w (pc + 1) lv (.int v :: st)) : VF X res o w pc lv (.ref t :: st) := by
  obtain ⟨p, l, e, R, s, m, args, below, meth, c, D', cl', tys', al', N', nL', Q⟩ := X
  obtain ⟨hx, hb, hml, hown, hts, hr, hlk, rfl, hK, hnd, hN, hNK, rfl, rfl, rfl, rfl, rfl, rfl, rfl⟩ := C
  intro hf H locs ls hP hS hl
  exact va_tlen hx hb (hz _ _ hN) hS hv hdg (k hf H locs ls hP hS hl)
theorem v_mmax (C : Ok X cc nL ret ws own rm D cl tys al N rv w') {index : Nat} {x y : Int32} (h1 : Cond.methodLink own index Lib.Math.max.name ∈ ws) (h2 : Cond.static Lib.Math.max.name ∈ ws) (h3 : Cond.initialized "java/lang/Math" ∈ ws) (h4 : Cond.code Lib.Math.max.name Lib.Math.max.code 2 (some .int) ∈ ws) (hfr : 1 ≤ rm.frames) (hlo : (st.map fun v => v.category).sum + 15 ≤ rm.locals) (hdg : decode cc pc = .ok (.invokestatic index, 3))
    (k : VF X res o w (pc + 3) lv (.int (iMax x y) :: st)) : VF X res o w pc lv (.int y :: .int x :: st) := by
  obtain ⟨p, l, e, R, s, m, args, below, meth, c, D', cl', tys', al', N', nL', Q⟩ := X
  obtain ⟨hx, hb, hml, hown, hts, hr, hlk, rfl, hK, hnd, hN, hNK, rfl, rfl, rfl, rfl, rfl, rfl, rfl⟩ := C
  intro hf H locs ls hP hS hl
  exact va_mmax hx hb (hml.trans hl.1.symm) hown (hts _ h1) (hts _ h2) (hts _ h3) (hts _ h4) hfr (by omega) (Nat.zero_le _) (Nat.zero_le _) hdg (k hf H locs ls hP hS hl)
theorem v_mmin (C : Ok X cc nL ret ws own rm D cl tys al N rv w') {index : Nat} {x y : Int32} (h1 : Cond.methodLink own index Lib.Math.min.name ∈ ws) (h2 : Cond.static Lib.Math.min.name ∈ ws) (h3 : Cond.initialized "java/lang/Math" ∈ ws) (h4 : Cond.code Lib.Math.min.name Lib.Math.min.code 2 (some .int) ∈ ws) (hfr : 1 ≤ rm.frames) (hlo : (st.map fun v => v.category).sum + 15 ≤ rm.locals) (hdg : decode cc pc = .ok (.invokestatic index, 3))
    (k : VF X res o w (pc + 3) lv (.int (iMin x y) :: st)) : VF X res o w pc lv (.int y :: .int x :: st) := by
  obtain ⟨p, l, e, R, s, m, args, below, meth, c, D', cl', tys', al', N', nL', Q⟩ := X
  obtain ⟨hx, hb, hml, hown, hts, hr, hlk, rfl, hK, hnd, hN, hNK, rfl, rfl, rfl, rfl, rfl, rfl, rfl⟩ := C
  intro hf H locs ls hP hS hl
  exact va_mmin hx hb (hml.trans hl.1.symm) hown (hts _ h1) (hts _ h2) (hts _ h3) (hts _ h4) hfr (by omega) (Nat.zero_le _) (Nat.zero_le _) hdg (k hf H locs ls hP hS hl)
theorem v_mmaxl (C : Ok X cc nL ret ws own rm D cl tys al N rv w') {index : Nat} {x y : Int64} (h1 : Cond.methodLink own index Lib.MathLoose.max_long.x ∈ ws) (h2 : Cond.static Lib.MathLoose.max_long.x ∈ ws) (h3 : Cond.initialized "java/lang/Math" ∈ ws) (h4 : Cond.code Lib.MathLoose.max_long.x Lib.MathLoose.max_long.code 4 (some .long) ∈ ws) (hfr : 1 ≤ rm.frames) (hlo : (st.map fun v => v.category).sum + 15 ≤ rm.locals) (hdg : decode cc pc = .ok (.invokestatic index, 3))
    (k : VF X res o w (pc + 3) lv (.long (lMax x y) :: st)) : VF X res o w pc lv (.long y :: .long x :: st) := by
  obtain ⟨p, l, e, R, s, m, args, below, meth, c, D', cl', tys', al', N', nL', Q⟩ := X
  obtain ⟨hx, hb, hml, hown, hts, hr, hlk, rfl, hK, hnd, hN, hNK, rfl, rfl, rfl, rfl, rfl, rfl, rfl⟩ := C
  intro hf H locs ls hP hS hl
  exact va_mmax_long hx hb (hml.trans hl.1.symm) hown (hts _ h1) (hts _ h2) (hts _ h3) (hts _ h4) hfr (by omega) (Nat.zero_le _) (Nat.zero_le _) hdg (k hf H locs ls hP hS hl)
theorem v_mabsl (C : Ok X cc nL ret ws own rm D cl tys al N rv w') {index : Nat} {x : Int64} (h1 : Cond.methodLink own index Lib.MathLoose.abs_long.x ∈ ws) (h2 : Cond.static Lib.MathLoose.abs_long.x ∈ ws) (h3 : Cond.initialized "java/lang/Math" ∈ ws) (h4 : Cond.code Lib.MathLoose.abs_long.x Lib.MathLoose.abs_long.code 2 (some .long) ∈ ws) (hfr : 1 ≤ rm.frames) (hlo : (st.map fun v => v.category).sum + 15 ≤ rm.locals) (hdg : decode cc pc = .ok (.invokestatic index, 3))
    (k : VF X res o w (pc + 3) lv (.long (lAbs x) :: st)) : VF X res o w pc lv (.long x :: st) := by
  obtain ⟨p, l, e, R, s, m, args, below, meth, c, D', cl', tys', al', N', nL', Q⟩ := X
  obtain ⟨hx, hb, hml, hown, hts, hr, hlk, rfl, hK, hnd, hN, hNK, rfl, rfl, rfl, rfl, rfl, rfl, rfl⟩ := C
  intro hf H locs ls hP hS hl
  exact va_mabs_long hx hb (hml.trans hl.1.symm) hown (hts _ h1) (hts _ h2) (hts _ h3) (hts _ h4) hfr (by omega) (Nat.zero_le _) (Nat.zero_le _) hdg (k hf H locs ls hP hS hl)
def cpk (sp dp n : Int32) (n0 n1 : Nat) : Bool := decide (¬ sp < 0 ∧ ¬ dp < 0 ∧ ¬ n < 0 ∧ sp.toNatClampNeg + n.toNatClampNeg ≤ n0 ∧ dp.toNatClampNeg + n.toNatClampNeg ≤ n1)
theorem fit_i (z : Int32) : fits .int (.int z) = true := rfl
theorem fit_l (z : Int64) : fits .long (.long z) = true := rfl
theorem v_copyi_nm (C : Ok X cc nL ret ws own rm D cl tys al N rv w') {index q q9 : Nat} {c0 c1 : ClassId} {n0 n1 : Nat} {f g : Nat → Int32} {sp dp n : Int32} {K : (Nat → Int32) → Option ρ} (wf : (Nat → Int32) → va_W) (h1 : Cond.methodLink own index arraycopyName ∈ ws) (h2 : Cond.native arraycopyName ∈ ws) (h3 : Cond.static arraycopyName ∈ ws) (h4 : Cond.initialized "java/lang/System" ∈ ws) (q0 q1 t0 t1 : Nat) (ha0 : w[q0]? = some (q9, .inl (c0, n0, .inl f))) (ha1 : w[q1]? = some (q, .inl (c1, n1, .inl g))) (ht0 : tys[t0]? = some (c0, .int)) (ht1 : tys[t1]? = some (c1, .int)) (hal : w.map Prod.fst = al) (hwf : ∀ F : Nat → Int32, w.set q1 (q, .inl (c1, n1, .inl F)) = wf F) (hfr : 1 ≤ rm.frames) (hlo : (st.map fun v => v.category).sum + (nativeFrameWords "java/lang/System" "arraycopy" 5 + 11) ≤ rm.locals) (hdg : decode cc pc = .ok (.invokestatic index, 3))
    (k : ∀ F : Nat → Int32, VF X res (K F) (wf F) (pc + 3) lv st) : VF X res (ck (cpk sp dp n n0 n1) (nm (va_cpy f g sp.toNatClampNeg dp.toNatClampNeg n.toNatClampNeg) K)) w pc lv (.int n :: .int dp :: .ref q :: .int sp :: .ref q9 :: st) := by
  obtain ⟨p, l, e, R, s, m, args, below, meth, c, D', cl', tys', al', N', nL', Q⟩ := X
  obtain ⟨hx, hb, hml, hown, hts, hr, hlk, rfl, hK, hnd, hN, hNK, rfl, rfl, rfl, rfl, rfl, rfl, rfl⟩ := C
  intro hf H locs ls hP hS hl
  have hp9 := of_decide_eq_true (ck_some hf).1
  exact va_copyi hx hb (hml.trans hl.1.symm) hown (hts _ h1) (hts _ h2) (hts _ h3) (hts _ h4) hK hP (gD hnd hal) hS q0 q1 t0 t1 ha0 ha1 ht0 ht1 rfl hp9.1 hp9.2.1 hp9.2.2.1 hp9.2.2.2.1 hp9.2.2.2.2 (fun i _ => fit_i _) hfr hlo hdg (fun H1 locs1 hP1 _ hS1 => k _ (ck_some hf).2 H1 locs1 ls (hwf _ ▸ hP1) hS1 hl)
theorem v_copyl_nm (C : Ok X cc nL ret ws own rm D cl tys al N rv w') {index q q9 : Nat} {c0 c1 : ClassId} {n0 n1 : Nat} {f g : Nat → Int64} {sp dp n : Int32} {K : (Nat → Int64) → Option ρ} (wf : (Nat → Int64) → va_W) (h1 : Cond.methodLink own index arraycopyName ∈ ws) (h2 : Cond.native arraycopyName ∈ ws) (h3 : Cond.static arraycopyName ∈ ws) (h4 : Cond.initialized "java/lang/System" ∈ ws) (q0 q1 t0 t1 : Nat) (ha0 : w[q0]? = some (q9, .inl (c0, n0, .inr (.inl f)))) (ha1 : w[q1]? = some (q, .inl (c1, n1, .inr (.inl g)))) (ht0 : tys[t0]? = some (c0, .long)) (ht1 : tys[t1]? = some (c1, .long)) (hal : w.map Prod.fst = al) (hwf : ∀ F : Nat → Int64, w.set q1 (q, .inl (c1, n1, .inr (.inl F))) = wf F) (hfr : 1 ≤ rm.frames) (hlo : (st.map fun v => v.category).sum + (nativeFrameWords "java/lang/System" "arraycopy" 5 + 11) ≤ rm.locals) (hdg : decode cc pc = .ok (.invokestatic index, 3))
    (k : ∀ F : Nat → Int64, VF X res (K F) (wf F) (pc + 3) lv st) : VF X res (ck (cpk sp dp n n0 n1) (nm (va_cpy f g sp.toNatClampNeg dp.toNatClampNeg n.toNatClampNeg) K)) w pc lv (.int n :: .int dp :: .ref q :: .int sp :: .ref q9 :: st) := by
  obtain ⟨p, l, e, R, s, m, args, below, meth, c, D', cl', tys', al', N', nL', Q⟩ := X
  obtain ⟨hx, hb, hml, hown, hts, hr, hlk, rfl, hK, hnd, hN, hNK, rfl, rfl, rfl, rfl, rfl, rfl, rfl⟩ := C
  intro hf H locs ls hP hS hl
  have hp9 := of_decide_eq_true (ck_some hf).1
  exact va_copyl hx hb (hml.trans hl.1.symm) hown (hts _ h1) (hts _ h2) (hts _ h3) (hts _ h4) hK hP (gD hnd hal) hS q0 q1 t0 t1 ha0 ha1 ht0 ht1 rfl hp9.1 hp9.2.1 hp9.2.2.1 hp9.2.2.2.1 hp9.2.2.2.2 (fun i _ => fit_l _) hfr hlo hdg (fun H1 locs1 hP1 _ hS1 => k _ (ck_some hf).2 H1 locs1 ls (hwf _ ▸ hP1) hS1 hl)
end VV
section VC
variable {p : Program} {l : Launch} {e : Env} {R : Room} {s : State} {m : MethodId} {args : Array Value} {below : List Frame} {meth : Method} {c : Code} {H : Heap} {locs : List Loc} {Q : State → Prop}
theorem k_call {D : va_G} {cl : List vw_C} {al al' : List Nat} {pc : Nat} {ls : Array Slot} {st0 rest : List Value} {rv : Option Value} {w' : va_W} {a : Array Value} (hr : va_Run p l e R s m args below meth c H locs 0 0 0 0 (F0 m pc ls st0) rest (kQ D cl (gA al' H.size) rv w' a) (gA al' H.size)) (hS : va_S (gA al s.heap.size) s.heap H locs) (hal : ∀ q, q ∈ al' → q ∈ al)
    (kk : ∀ (H1 : Heap) (locs1 : List Loc), va_P D cl w' H1 → (∀ q : Nat, q < H.size → ¬ gA al' H.size q → H1[q]? = H[q]?) → va_S (gA al s.heap.size) s.heap H1 locs1 → W p l e R s m args below meth c H1 locs1 0 0 Q (F0 m (pc + 3) ls (rv.toList ++ rest))) : W p l e R s m args below meth c H locs 0 0 Q (F0 m pc ls st0) := by
  have hA : ∀ q, gA al' H.size q → gA al s.heap.size q := fun q h => h.elim (fun z => Or.inl (hal q z)) (fun z => Or.inr (Nat.le_trans hS.1 z))
  intro T hT X
  obtain ⟨v, st₀, t, T', L, h0, X', hL, e1, e2, ⟨⟨hv, hP1⟩, hz, hk⟩, st⟩ := hr T hT X
  cases hv
  rw [h0] at hz hk
  obtain ⟨t2, a1, b1⟩ := kk T'.heap (locs ++ L) (by rw [e1]; exact hP1) (fun q h1 h2 => by rw [e1]; exact hk q h1 h2)
    ⟨Nat.le_trans hS.1 (by rw [e1]; exact hz), fun q h1 h2 => by rw [e1, hk q (Nat.lt_of_lt_of_le h1 hS.1) (fun z => h2 (hA q z))]; exact hS.2.1 q h1 h2, fun q hq => by
      rcases List.mem_append.mp hq with h | h
      · exact hS.2.2 q h
      · exact hA _ (hL q h)⟩ T' rfl X'
  exact ⟨t2, st t2 a1, b1⟩
theorem k_pre {D : va_G} {cl : List vw_C} {tys : List (ClassId × FieldType)} {N : (Nat → Prop) → State → Prop} {al : List Nat} {w : va_W} (hP : va_P D cl w H) (hK : va_K D cl tys s) (hN : N (gA al s.heap.size) s) (hNK : NOK N) (hS : va_S (gA al s.heap.size) s.heap H locs) (U : State) (hU : U.heap = H) (hW : s.WarmedH U.vm) : kPre D cl tys N al H.size w U :=
  ⟨by rw [hU], by rw [hU]; exact hP, va_K.moved hW.alike hK, hNK.2 _ _ s U hN hW (fun q hq hA => by rw [hU]; exact hS.2.1 q hq hA) (fun q h => gA_le hS.1 h)⟩
theorem k_pre0 (U : State) (hU : U.heap = H) (D : va_G) : kPre D [] [] NT [] H.size [] U :=
  ⟨by rw [hU], fun k q h => by simp at h, ⟨fun k q h => by simp at h, fun k q h => by simp at h⟩, trivial⟩
/-- a call with more on the stack below it than the kit's row bears -/
theorem k_runVw {Wd : Nat} {y : MethodName} {bytes cc : ByteArray} {maxL nL mc ms n index : Nat} {ret : Option FieldType} {ws : List Cond} {rm : Room} {Pc : Array Value → State → Prop} {Qc : Array Value → State → Outcome → State → Prop} {free : Addr → Prop} {Ts : List Cond} {own C : String} {b : Addr} {As rest : List Value} {g : JFrame} {cells slots : Nat}
    (S : CallFix p m c cc nL s args Ts own) (hM : Met l y ws rm Pc Qc mc ms free) (cw : CallW R s args own C index y bytes maxL ret ws rm mc ms n) (hW8 : Wd + (maxL + 11) + rm.locals ≤ R.locals) (hp : PreV s H C b Pc As)
    (hg : g.method = m) (hn : As.length = n) (hsize : g.locals.size = nL) (hstack : g.stack = As.reverse ++ .ref b :: rest) (hW : 2 * g.monitorRoom + (rest.map fun v => v.category).sum ≤ Wd) (hdg : decode cc g.pc = .ok (.invokevirtual index, 3)) (hf : cells + mc ≤ R.cells ∧ slots + ms ≤ R.slots) :
    va_Run p l e R s m args below meth c H locs cells slots mc ms g rest (Qc (Value.ref b :: As).toArray) (free) := by
  obtain ⟨⟨hrc, hrs, hfr, hlo, hws, hcw, hcode, hini, hy, hlen, hl⟩, hin, hse⟩ := cw
  have hK : Back l R p e below s args y 3 Wd (PreOf R mc ms Pc) (PostOf Qc mc ms free) := back_of (bytes := bytes) (maxL := maxL) (ret := ret) hM hp.1 hrc hrs hfr hW8 hws hcw (fun a' U hW => word_at hW (Or.inl (by first | rfl | simp [Cond.onTables, Cond.keeps, Cond.steady])) hini)
  obtain ⟨hx, hb, hml, ho, -⟩ := S
  obtain ⟨-, ⟨cellB, hcB, hoB, hclB⟩, hPc⟩ := hp
  intro T hT X
  obtain ⟨v, vm₁, ⟨U', l2, c2, s2⟩, hW₁, X', ⟨g', mk, t, L, e1, e2, hq, h1, hL, h2, h3⟩, st⟩ := callV X hx (C := C) (bytes := bytes) (maxL := maxL) (ret := ret) ho hl hin hse hcode hy hK (by rw [hT]; exact hcB) hoB hclB hg (hsize.trans hml.symm) (argsL := As) (rest := rest) (fun sig h => hn.trans (hlen sig h)) hstack hW (by rw [hb]; exact hdg)
    (fun vm₁ hW₁ => ⟨hf.1, hf.2, hPc (T.setVm vm₁) hT hW₁⟩)
  dsimp only [Pt.U, Pt.locs, Pt.cells, Pt.slots] at X' e1 e2 h1 h2 h3 st
  subst h1; subst h2; subst h3
  exact ⟨v, (T.setVm vm₁).calling g' mk (Value.ref b :: As).toArray, t, U', L, hT, X', hL, e1, e2, hq, st⟩
theorem k_runSw {Wd : Nat} {y : MethodName} {bytes cc : ByteArray} {maxL nL mc ms n index : Nat} {ret : Option FieldType} {ws : List Cond} {rm : Room} {Pc : Array Value → State → Prop} {Qc : Array Value → State → Outcome → State → Prop} {free : Addr → Prop} {Ts : List Cond} {own : String} {As rest : List Value} {g : JFrame} {cells slots : Nat}
    (S : CallFix p m c cc nL s args Ts own) (hM : Met l y ws rm Pc Qc mc ms free) (cw : CallB R s args own index y bytes maxL ret ws rm mc ms n ∧ (Cond.static y).before args s = true) (hW8 : Wd + (maxL + 11) + rm.locals ≤ R.locals) (hp : PreS s H Pc As)
    (hg : g.method = m) (hn : As.length = n) (hsize : g.locals.size = nL) (hstack : g.stack = As.reverse ++ rest) (hW : 2 * g.monitorRoom + (rest.map fun v => v.category).sum ≤ Wd) (hdg : decode cc g.pc = .ok (.invokestatic index, 3)) (hf : cells + mc ≤ R.cells ∧ slots + ms ≤ R.slots) :
    va_Run p l e R s m args below meth c H locs cells slots mc ms g rest (Qc As.toArray) (free) := by
  obtain ⟨⟨hrc, hrs, hfr, hlo, hws, hcw, hcode, hini, hy, hlen, hl⟩, hstt⟩ := cw
  have hK : Back l R p e below s args y 3 Wd (PreOf R mc ms Pc) (PostOf Qc mc ms free) := back_of (bytes := bytes) (maxL := maxL) (ret := ret) hM hp.1 hrc hrs hfr hW8 hws hcw (fun a' U hW => word_at hW (Or.inl (by first | rfl | simp [Cond.onTables, Cond.keeps, Cond.steady])) hini)
  obtain ⟨hx, hb, hml, ho, -⟩ := S
  intro T hT X
  obtain ⟨v, vm₁, ⟨U', l2, c2, s2⟩, hW₁, X', ⟨g', mk, t, L, e1, e2, hq, h1, hL, h2, h3⟩, st⟩ := callS X hx (bytes := bytes) (maxL := maxL) (ret := ret) ho hl hstt hini hcode hy hK hg (hsize.trans hml.symm) (argsL := As) (rest := rest) (fun sig h => hn.trans (hlen sig h)) hstack hW (by rw [hb]; exact hdg)
    (fun vm₁ hW₁ => ⟨hf.1, hf.2, hp.2 (T.setVm vm₁) hT hW₁⟩)
  dsimp only [Pt.U, Pt.locs, Pt.cells, Pt.slots] at X' e1 e2 h1 h2 h3 st
  subst h1; subst h2; subst h3
  exact ⟨v, (T.setVm vm₁).calling g' mk As.toArray, t, U', L, hT, X', hL, e1, e2, hq, st⟩
/-- cells that a callee doesn't touch stay -/
theorem k_keep {D : va_G} {cl : List vw_C} {w : va_W} {H1 : Heap} (hP : va_P D cl w H) (hk : ∀ q : Nat, q < H.size → ¬ gA [] H.size q → H1[q]? = H[q]?) : va_P D cl w H1 :=
  hP.kept (fun k q hq => hk q.1 (hP k q hq).lt (fun z => z.elim (fun y => by simp at y) (fun y => absurd (hP k q hq).lt (by omega))))
/-- one cell changed by a callee -/
theorem k_one {D D1 : va_G} {cl : List vw_C} {al : List Nat} {sz a j : Nat} {w : va_W} {H1 : Heap} {e0 e1 : va_E} (hP : va_P D cl w H) (hD : va_D (gA al sz) w) (hj : w[j]? = some (a, e0)) (he : va_at D cl (a, e1) H1) (hk : ∀ q : Nat, q < H.size → ¬ gA [a] H.size q → H1[q]? = H[q]?) : va_P D cl (w.set j (a, e1)) H1 := by
  intro k q hq
  by_cases hkj : k = j
  · subst hkj
    have hl : k < w.length := (List.getElem?_eq_some_iff.mp hj).1
    rw [List.getElem?_set_self hl] at hq
    cases hq
    exact he
  · rw [List.getElem?_set_ne (fun z => hkj z.symm)] at hq
    have h1 := hP k q hq
    refine h1.kept (hk q.1 h1.lt (fun z => ?_))
    rcases z with z | z
    · rw [List.mem_singleton] at z
      exact hkj (hD.1 k j q (a, e0) hq hj z)
    · have := h1.lt
      omega
end VC
section VD
variable {ρ : Type} {X : CX} {res : ρ} {o : Option ρ} {w w' w1 : va_W} {pc : Nat} {lv lv' : List (Nat × Value)} {st stk : List Value} {cc : ByteArray} {nL : Nat} {ret : Option FieldType} {ws : List Cond} {own : String} {rm : Room} {D : va_G} {cl : List vw_C} {tys : List (ClassId × FieldType)} {al : List Nat} {N : (Nat → Prop) → State → Prop} {rv : Option Value}
variable {α : Type} {fc : Option α} {K : α → Option ρ} {y : MethodName} {bytes : ByteArray} {maxL index : Nat} {retc : Option FieldType} {wsc wsc' : List Cond} {rmc : Room} {rvc : α → Option Value} {wc : α → va_W} {As : List Value} {b : Nat}
def RoomIn (rmc rm : Room) (maxL : Nat) : Prop := rmc.cells = 0 ∧ rmc.slots = 0 ∧ rmc.frames + 1 ≤ rm.frames ∧ 8 + (maxL + 11) + rmc.locals ≤ rm.locals
def NameIn (y : MethodName) (n : Nat) : Prop := y.cls ≠ "java/lang/invoke/MethodHandle" ∧ y.cls ≠ "java/lang/invoke/VarHandle" ∧ (parseMethodDescriptor y.desc).map (fun d => d.parameters.length) = some n
theorem v_callV (C : Ok X cc nL ret ws own rm D cl tys al N rv w') {q9 : vw_C} {ci : Nat} {fs : List Value} (q0 : Nat) (he : w[q0]? = some (b, .inr (ci, fs))) (hc : cl[ci]? = some q9) (hq9 : q9.1 = y.cls) (hM : ∀ (l : Launch) (r : α), fc = some r → kMet l y wsc rmc D cl tys N al (.ref b :: As) w (rvc r) (wc r)) (hG : GoodIn ws (wsV own index y.cls y wsc)) (hw : wsc = Cond.code y bytes maxL retc :: wsc') (hnm : NameIn y As.length) (hrm : RoomIn rmc rm maxL) (hdg : decode cc pc = .ok (.invokevirtual index, 3)) (hst : (st.map fun v => v.category).sum ≤ 8) (hstk : stk = As.reverse ++ .ref b :: st)
    (k : ∀ r : α, VF X res (K r) (wc r) (pc + 3) lv ((rvc r).toList ++ st)) : VF X res (fc.bind K) w pc lv stk := by
  obtain ⟨p, l, e, R, s, m, args, below, meth, c, D', cl', tys', al', N', nL', Q⟩ := X
  obtain ⟨hx, hb, hml, hown, hts, hr, hlk, rfl, hK, hnd, hN, hNK, rfl, rfl, rfl, rfl, rfl, rfl, rfl⟩ := C
  intro hf H locs ls hP hS hl
  obtain ⟨r, hr9, hk9⟩ := Option.bind_eq_some_iff.mp hf
  exact k_call (va_runV (C := y.cls) (As := As) (rest := st) ⟨hx, hb, hml, hown, hts⟩ (hM l r hr9 H.size) (cwV As.length hts hG hw hrm.1 hrm.2.1 ⟨rfl, hnm⟩ ⟨hrm.2.2.1, hrm.2.2.2⟩) ⟨kPre_blind hNK, hq9 ▸ va_recv hK hP hc he, fun U hU hW => ⟨rfl, k_pre hP hK hN hNK hS U hU hW⟩⟩ rfl rfl hl.1 hstk (lv_room hst) hdg ⟨Nat.zero_le _, Nat.zero_le _⟩) hS (fun q h => h) (fun H1 locs1 hP1 hkp hS1 => k r hk9 H1 locs1 ls hP1 hS1 hl)
theorem v_callVP (C : Ok X cc nL ret ws own rm D cl tys al N rv w') {q9 : vw_C} {ci : Nat} {fs : List Value} (q0 : Nat) (he : w[q0]? = some (b, .inr (ci, fs))) (hc : cl[ci]? = some q9) (hq9 : q9.1 = y.cls) (hM : ∀ (l : Launch) (r : α), fc = some r → pMet l y wsc rmc (.ref b :: As) (rvc r)) (hG : GoodIn ws (wsV own index y.cls y wsc)) (hw : wsc = Cond.code y bytes maxL retc :: wsc') (hnm : NameIn y As.length) (hrm : RoomIn rmc rm maxL) (hdg : decode cc pc = .ok (.invokevirtual index, 3)) (hst : (st.map fun v => v.category).sum ≤ 8) (hstk : stk = As.reverse ++ .ref b :: st)
    (k : ∀ r : α, VF X res (K r) w (pc + 3) lv ((rvc r).toList ++ st)) : VF X res (fc.bind K) w pc lv stk := by
  obtain ⟨p, l, e, R, s, m, args, below, meth, c, D', cl', tys', al', N', nL', Q⟩ := X
  obtain ⟨hx, hb, hml, hown, hts, hr, hlk, rfl, hK, hnd, hN, hNK, rfl, rfl, rfl, rfl, rfl, rfl, rfl⟩ := C
  intro hf H locs ls hP hS hl
  obtain ⟨r, hr9, hk9⟩ := Option.bind_eq_some_iff.mp hf
  exact k_call (va_runV (C := y.cls) (As := As) (rest := st) ⟨hx, hb, hml, hown, hts⟩ (hM l r hr9 D' H.size) (cwV As.length hts hG hw hrm.1 hrm.2.1 ⟨rfl, hnm⟩ ⟨hrm.2.2.1, hrm.2.2.2⟩) ⟨kPre_blind NT_ok, hq9 ▸ va_recv hK hP hc he, fun U hU hW => ⟨rfl, k_pre0 U hU D'⟩⟩ rfl rfl hl.1 hstk (lv_room hst) hdg ⟨Nat.zero_le _, Nat.zero_le _⟩) hS (fun q h => by simp at h) (fun H1 locs1 hP1 hkp hS1 => k r hk9 H1 locs1 ls (k_keep hP hkp) hS1 hl)
theorem v_callS (C : Ok X cc nL ret ws own rm D cl tys al N rv w') (hM : ∀ (l : Launch) (r : α), fc = some r → kMet l y wsc rmc D cl tys N al As w (rvc r) (wc r)) (hG : GoodIn ws (va_wsS own index y wsc)) (hw : wsc = Cond.code y bytes maxL retc :: wsc') (hnm : NameIn y As.length) (hrm : RoomIn rmc rm maxL) (hdg : decode cc pc = .ok (.invokestatic index, 3)) (hst : (st.map fun v => v.category).sum ≤ 8) (hstk : stk = As.reverse ++ st)
    (k : ∀ r : α, VF X res (K r) (wc r) (pc + 3) lv ((rvc r).toList ++ st)) : VF X res (fc.bind K) w pc lv stk := by
  obtain ⟨p, l, e, R, s, m, args, below, meth, c, D', cl', tys', al', N', nL', Q⟩ := X
  obtain ⟨hx, hb, hml, hown, hts, hr, hlk, rfl, hK, hnd, hN, hNK, rfl, rfl, rfl, rfl, rfl, rfl, rfl⟩ := C
  intro hf H locs ls hP hS hl
  obtain ⟨r, hr9, hk9⟩ := Option.bind_eq_some_iff.mp hf
  exact k_call (va_runS (As := As) (rest := st) ⟨hx, hb, hml, hown, hts⟩ (hM l r hr9 H.size) (va_cwS As.length hts hG hw hrm.1 hrm.2.1 hnm ⟨hrm.2.2.1, hrm.2.2.2⟩) ⟨kPre_blind hNK, fun U hU hW => ⟨rfl, k_pre hP hK hN hNK hS U hU hW⟩⟩ rfl rfl hl.1 hstk (lv_room hst) hdg ⟨Nat.zero_le _, Nat.zero_le _⟩) hS (fun q h => h) (fun H1 locs1 hP1 hkp hS1 => k r hk9 H1 locs1 ls hP1 hS1 hl)
theorem v_callSP (C : Ok X cc nL ret ws own rm D cl tys al N rv w') (hM : ∀ (l : Launch) (r : α), fc = some r → pMet l y wsc rmc As (rvc r)) (hG : GoodIn ws (va_wsS own index y wsc)) (hw : wsc = Cond.code y bytes maxL retc :: wsc') (hnm : NameIn y As.length) (hrm : RoomIn rmc rm maxL) (hdg : decode cc pc = .ok (.invokestatic index, 3)) (hst : (st.map fun v => v.category).sum ≤ 8) (hstk : stk = As.reverse ++ st)
    (k : ∀ r : α, VF X res (K r) w (pc + 3) lv ((rvc r).toList ++ st)) : VF X res (fc.bind K) w pc lv stk := by
  obtain ⟨p, l, e, R, s, m, args, below, meth, c, D', cl', tys', al', N', nL', Q⟩ := X
  obtain ⟨hx, hb, hml, hown, hts, hr, hlk, rfl, hK, hnd, hN, hNK, rfl, rfl, rfl, rfl, rfl, rfl, rfl⟩ := C
  intro hf H locs ls hP hS hl
  obtain ⟨r, hr9, hk9⟩ := Option.bind_eq_some_iff.mp hf
  exact k_call (va_runS (As := As) (rest := st) ⟨hx, hb, hml, hown, hts⟩ (hM l r hr9 D' H.size) (va_cwS As.length hts hG hw hrm.1 hrm.2.1 hnm ⟨hrm.2.2.1, hrm.2.2.2⟩) ⟨kPre_blind NT_ok, fun U hU hW => ⟨rfl, k_pre0 U hU D'⟩⟩ rfl rfl hl.1 hstk (lv_room hst) hdg ⟨Nat.zero_le _, Nat.zero_le _⟩) hS (fun q h => by simp at h) (fun H1 locs1 hP1 hkp hS1 => k r hk9 H1 locs1 ls (k_keep hP hkp) hS1 hl)
theorem v_callV0vw (C : Ok X cc nL ret ws own rm D cl tys al N rv w') {vc : α → Value} {q9 : vw_C} {ci : Nat} {fs : List Value} (q0 : Nat) (he : w[q0]? = some (b, .inr (ci, fs))) (hc : cl[ci]? = some q9) (hq9 : q9.1 = y.cls) (hM : ∀ (l : Launch) (r : α), fc = some r → kMet l y wsc rmc D cl tys N al [.ref b] w (some (vc r)) (wc r)) (hG : GoodIn ws (wsV own index y.cls y wsc)) (hw : wsc = Cond.code y bytes maxL retc :: wsc') (hnm : NameIn y 0) (hrm : RoomIn rmc rm maxL) (hrw : 14 + (maxL + 11) + rmc.locals ≤ rm.locals) (hdg : decode cc pc = .ok (.invokevirtual index, 3)) (hst : (st.map fun v => v.category).sum ≤ 14)
    (k : ∀ r : α, VF X res (K r) (wc r) (pc + 3) lv (vc r :: st)) : VF X res (fc.bind K) w pc lv (.ref b :: st) := by
  obtain ⟨p, l, e, R, s, m, args, below, meth, c, D', cl', tys', al', N', nL', Q⟩ := X
  obtain ⟨hx, hb, hml, hown, hts, hr, hlk, rfl, hK, hnd, hN, hNK, rfl, rfl, rfl, rfl, rfl, rfl, rfl⟩ := C
  intro hf H locs ls hP hS hl
  obtain ⟨r, hr9, hk9⟩ := Option.bind_eq_some_iff.mp hf
  exact k_call (k_runVw (Wd := 14) (C := y.cls) (As := []) (rest := st) ⟨hx, hb, hml, hown, hts⟩ (hM l r hr9 H.size) (cwV 0 hts hG hw hrm.1 hrm.2.1 ⟨rfl, hnm⟩ ⟨hrm.2.2.1, hrm.2.2.2⟩) hrw ⟨kPre_blind hNK, hq9 ▸ va_recv hK hP hc he, fun U hU hW => ⟨rfl, k_pre hP hK hN hNK hS U hU hW⟩⟩ rfl rfl hl.1 rfl (by show 2 * 0 + _ ≤ 14; omega) hdg ⟨Nat.zero_le _, Nat.zero_le _⟩) hS (fun q h => h) (fun H1 locs1 hP1 hkp hS1 => k r hk9 H1 locs1 ls hP1 hS1 hl)
theorem v_callSP1vw (C : Ok X cc nL ret ws own rm D cl tys al N rv w') {vc : α → Value} {x0 : Value} (hM : ∀ (l : Launch) (r : α), fc = some r → pMet l y wsc rmc [x0] (some (vc r))) (hG : GoodIn ws (va_wsS own index y wsc)) (hw : wsc = Cond.code y bytes maxL retc :: wsc') (hnm : NameIn y 1) (hrm : RoomIn rmc rm maxL) (hrw : 14 + (maxL + 11) + rmc.locals ≤ rm.locals) (hdg : decode cc pc = .ok (.invokestatic index, 3)) (hst : (st.map fun v => v.category).sum ≤ 14)
    (k : ∀ r : α, VF X res (K r) w (pc + 3) lv (vc r :: st)) : VF X res (fc.bind K) w pc lv (x0 :: st) := by
  obtain ⟨p, l, e, R, s, m, args, below, meth, c, D', cl', tys', al', N', nL', Q⟩ := X
  obtain ⟨hx, hb, hml, hown, hts, hr, hlk, rfl, hK, hnd, hN, hNK, rfl, rfl, rfl, rfl, rfl, rfl, rfl⟩ := C
  intro hf H locs ls hP hS hl
  obtain ⟨r, hr9, hk9⟩ := Option.bind_eq_some_iff.mp hf
  exact k_call (k_runSw (Wd := 14) (As := [x0]) (rest := st) ⟨hx, hb, hml, hown, hts⟩ (hM l r hr9 D' H.size) (va_cwS 1 hts hG hw hrm.1 hrm.2.1 hnm ⟨hrm.2.2.1, hrm.2.2.2⟩) hrw ⟨kPre_blind NT_ok, fun U hU hW => ⟨rfl, k_pre0 U hU D'⟩⟩ rfl rfl hl.1 rfl (by show 2 * 0 + _ ≤ 14; omega) hdg ⟨Nat.zero_le _, Nat.zero_le _⟩) hS (fun q h => by simp at h) (fun H1 locs1 hP1 hkp hS1 => k r hk9 H1 locs1 ls (k_keep hP hkp) hS1 hl)
theorem v_callNP (C : Ok X cc nL ret ws own rm D cl tys al N rv w') {host : String} (hM : ∀ (l : Launch) (r : α), fc = some r → pMet l y wsc rmc As (rvc r)) (hG : GoodIn ws wsc) (hst9 : Cond.static y ∈ ws) (hin9 : Cond.initialized y.cls ∈ ws) (hnl : ∀ (A : Nat → Prop) (U : State), N A U → va_Nw (.methodLinkNest own index y host) U) (hw : wsc = Cond.code y bytes maxL retc :: wsc') (hnm : NameIn y As.length) (hrm : RoomIn rmc rm maxL) (hdg : decode cc pc = .ok (.invokestatic index, 3)) (hst : (st.map fun v => v.category).sum ≤ 8) (hstk : stk = As.reverse ++ st)
    (k : ∀ r : α, VF X res (K r) w (pc + 3) lv ((rvc r).toList ++ st)) : VF X res (fc.bind K) w pc lv stk := by
  obtain ⟨p, l, e, R, s, m, args, below, meth, c, D', cl', tys', al', N', nL', Q⟩ := X
  obtain ⟨hx, hb, hml, hown, hts, hr, hlk, rfl, hK, hnd, hN, hNK, rfl, rfl, rfl, rfl, rfl, rfl, rfl⟩ := C
  intro hf H locs ls hP hS hl
  obtain ⟨r, hr9, hk9⟩ := Option.bind_eq_some_iff.mp hf
  exact k_call (va_runSN (As := As) (rest := st) ⟨hx, hb, hml, hown, hts⟩ (hM l r hr9 D' H.size) ⟨va_cnB As.length hts hG hw hrm.1 hrm.2.1 (hnl _ _ hN) (hts _ hin9) hnm ⟨hrm.2.2.1, hrm.2.2.2⟩, hts _ hst9, trivial⟩ ⟨kPre_blind NT_ok, fun U hU hW => ⟨rfl, k_pre0 U hU D'⟩⟩ rfl rfl hl.1 hstk (lv_room hst) hdg ⟨Nat.zero_le _, Nat.zero_le _⟩) hS (fun q h => by simp at h) (fun H1 locs1 hP1 hkp hS1 => k r hk9 H1 locs1 ls (k_keep hP hkp) hS1 hl)
theorem v_filli_nm (C : Ok X cc nL ret ws own rm D cl tys al N rv w') {a n : Nat} {cA : ClassId} {f : Nat → Int32} {v : Int32} {gf : Option (Nat → Int32)} {K9 : (Nat → Int32) → Option ρ} (wf : (Nat → Int32) → va_W) (hM : ∀ (l : Launch) (F : Nat → Int32) (D : va_G), gf = some F → kMet l y wsc rmc D [] [(cA, .int)] NT [a] [.ref a, .int v] [(a, .inl (cA, n, .inl f))] none [(a, .inl (cA, n, .inl F))]) (q0 t0 : Nat) (he : w[q0]? = some (a, .inl (cA, n, .inl f))) (ht : tys[t0]? = some (cA, .int)) (hal : w.map Prod.fst = al) (hwf : ∀ F : Nat → Int32, w.set q0 (a, .inl (cA, n, .inl F)) = wf F) (hG : GoodIn ws (va_wsS own index y wsc)) (hw : wsc = Cond.code y bytes maxL retc :: wsc') (hnm : NameIn y 2) (hrm : RoomIn rmc rm maxL) (hdg : decode cc pc = .ok (.invokestatic index, 3)) (hst : (st.map fun v => v.category).sum ≤ 8)
    (k : ∀ F : Nat → Int32, VF X res (K9 F) (wf F) (pc + 3) lv st) : VF X res (gf.bind K9) w pc lv (.int v :: .ref a :: st) := by
  obtain ⟨p, l, e, R, s, m, args, below, meth, c, D', cl', tys', al', N', nL', Q⟩ := X
  obtain ⟨hx, hb, hml, hown, hts, hr, hlk, rfl, hK, hnd, hN, hNK, rfl, rfl, rfl, rfl, rfl, rfl, rfl⟩ := C
  intro hf H locs ls hP hS hl
  obtain ⟨r, hr9, hk9⟩ := Option.bind_eq_some_iff.mp hf
  have hP1 : va_P D' [] [(a, .inl (cA, n, .inl f))] H := fun k q hk => by
    match k, hk with
    | 0, hk => cases hk; exact hP q0 _ he
    | k + 1, hk => simp at hk
  have hK1 : va_K D' [] [(cA, .int)] s := ⟨fun k q h => by simp at h, fun k q hk => by
    match k, hk with
    | 0, hk => cases hk; exact hK.2 t0 _ ht
    | k + 1, hk => simp at hk⟩
  exact k_call (va_runS (As := [.ref a, .int v]) (rest := st) ⟨hx, hb, hml, hown, hts⟩ (hM l r D' hr9 H.size) (va_cwS 2 hts hG hw hrm.1 hrm.2.1 hnm ⟨hrm.2.2.1, hrm.2.2.2⟩) ⟨kPre_blind NT_ok, fun U hU hW => ⟨rfl, by rw [hU], by rw [hU]; exact hP1, va_K.moved hW.alike hK1, trivial⟩⟩ rfl rfl hl.1 rfl (lv_room hst) hdg ⟨Nat.zero_le _, Nat.zero_le _⟩) hS (fun q h => by rw [List.mem_singleton] at h; subst h; rw [← hal]; exact List.mem_map.mpr ⟨_, List.mem_of_getElem? he, rfl⟩) (fun H1 locs1 hP2 hkp hS1 => k r hk9 H1 locs1 ls (hwf r ▸ k_one (D1 := D') (sz := s.heap.size) hP (gD hnd hal) he (hP2 0 _ rfl) hkp) hS1 hl)
theorem v_filll_nm (C : Ok X cc nL ret ws own rm D cl tys al N rv w') {a n : Nat} {cA : ClassId} {f : Nat → Int64} {v : Int64} {gf : Option (Nat → Int64)} {K9 : (Nat → Int64) → Option ρ} (wf : (Nat → Int64) → va_W) (hM : ∀ (l : Launch) (F : Nat → Int64) (D : va_G), gf = some F → kMet l y wsc rmc D [] [(cA, .long)] NT [a] [.ref a, .long v] [(a, .inl (cA, n, .inr (.inl f)))] none [(a, .inl (cA, n, .inr (.inl F)))]) (q0 t0 : Nat) (he : w[q0]? = some (a, .inl (cA, n, .inr (.inl f)))) (ht : tys[t0]? = some (cA, .long)) (hal : w.map Prod.fst = al) (hwf : ∀ F : Nat → Int64, w.set q0 (a, .inl (cA, n, .inr (.inl F))) = wf F) (hG : GoodIn ws (va_wsS own index y wsc)) (hw : wsc = Cond.code y bytes maxL retc :: wsc') (hnm : NameIn y 2) (hrm : RoomIn rmc rm maxL) (hdg : decode cc pc = .ok (.invokestatic index, 3)) (hst : (st.map fun v => v.category).sum ≤ 8)
    (k : ∀ F : Nat → Int64, VF X res (K9 F) (wf F) (pc + 3) lv st) : VF X res (gf.bind K9) w pc lv (.long v :: .ref a :: st) := by
  obtain ⟨p, l, e, R, s, m, args, below, meth, c, D', cl', tys', al', N', nL', Q⟩ := X
  obtain ⟨hx, hb, hml, hown, hts, hr, hlk, rfl, hK, hnd, hN, hNK, rfl, rfl, rfl, rfl, rfl, rfl, rfl⟩ := C
  intro hf H locs ls hP hS hl
  obtain ⟨r, hr9, hk9⟩ := Option.bind_eq_some_iff.mp hf
  have hP1 : va_P D' [] [(a, .inl (cA, n, .inr (.inl f)))] H := fun k q hk => by
    match k, hk with
    | 0, hk => cases hk; exact hP q0 _ he
    | k + 1, hk => simp at hk
  have hK1 : va_K D' [] [(cA, .long)] s := ⟨fun k q h => by simp at h, fun k q hk => by
    match k, hk with
    | 0, hk => cases hk; exact hK.2 t0 _ ht
    | k + 1, hk => simp at hk⟩
  exact k_call (va_runS (As := [.ref a, .long v]) (rest := st) ⟨hx, hb, hml, hown, hts⟩ (hM l r D' hr9 H.size) (va_cwS 2 hts hG hw hrm.1 hrm.2.1 hnm ⟨hrm.2.2.1, hrm.2.2.2⟩) ⟨kPre_blind NT_ok, fun U hU hW => ⟨rfl, by rw [hU], by rw [hU]; exact hP1, va_K.moved hW.alike hK1, trivial⟩⟩ rfl rfl hl.1 rfl (lv_room hst) hdg ⟨Nat.zero_le _, Nat.zero_le _⟩) hS (fun q h => by rw [List.mem_singleton] at h; subst h; rw [← hal]; exact List.mem_map.mpr ⟨_, List.mem_of_getElem? he, rfl⟩) (fun H1 locs1 hP2 hkp hS1 => k r hk9 H1 locs1 ls (hwf r ▸ k_one (D1 := D') (sz := s.heap.size) hP (gD hnd hal) he (hP2 0 _ rfl) hkp) hS1 hl)
theorem v_callV0v (C : Ok X cc nL ret ws own rm D cl tys al N rv w') {vc : α → Value} {q9 : vw_C} {ci : Nat} {fs : List Value} (q0 : Nat) (he : w[q0]? = some (b, .inr (ci, fs))) (hc : cl[ci]? = some q9) (hq9 : q9.1 = y.cls) (hM : ∀ (l : Launch) (r : α), fc = some r → kMet l y wsc rmc D cl tys N al [.ref b] w (some (vc r)) (wc r)) (hG : GoodIn ws (wsV own index y.cls y wsc)) (hw : wsc = Cond.code y bytes maxL retc :: wsc') (hnm : NameIn y 0) (hrm : RoomIn rmc rm maxL) (hdg : decode cc pc = .ok (.invokevirtual index, 3)) (hst : (st.map fun v => v.category).sum ≤ 8)
    (k : ∀ r : α, VF X res (K r) (wc r) (pc + 3) lv (vc r :: st)) : VF X res (fc.bind K) w pc lv (.ref b :: st) := v_callV (As := []) (rvc := fun r => (some (vc r))) C q0 he hc hq9 hM hG hw hnm hrm hdg hst rfl k
theorem v_callV0n (C : Ok X cc nL ret ws own rm D cl tys al N rv w') {q9 : vw_C} {ci : Nat} {fs : List Value} (q0 : Nat) (he : w[q0]? = some (b, .inr (ci, fs))) (hc : cl[ci]? = some q9) (hq9 : q9.1 = y.cls) (hM : ∀ (l : Launch) (r : α), fc = some r → kMet l y wsc rmc D cl tys N al [.ref b] w none (wc r)) (hG : GoodIn ws (wsV own index y.cls y wsc)) (hw : wsc = Cond.code y bytes maxL retc :: wsc') (hnm : NameIn y 0) (hrm : RoomIn rmc rm maxL) (hdg : decode cc pc = .ok (.invokevirtual index, 3)) (hst : (st.map fun v => v.category).sum ≤ 8)
    (k : ∀ r : α, VF X res (K r) (wc r) (pc + 3) lv st) : VF X res (fc.bind K) w pc lv (.ref b :: st) := v_callV (As := []) (rvc := fun r => none) C q0 he hc hq9 hM hG hw hnm hrm hdg hst rfl k
theorem v_callV1v (C : Ok X cc nL ret ws own rm D cl tys al N rv w') {x0 : Value} {vc : α → Value} {q9 : vw_C} {ci : Nat} {fs : List Value} (q0 : Nat) (he : w[q0]? = some (b, .inr (ci, fs))) (hc : cl[ci]? = some q9) (hq9 : q9.1 = y.cls) (hM : ∀ (l : Launch) (r : α), fc = some r → kMet l y wsc rmc D cl tys N al [.ref b, x0] w (some (vc r)) (wc r)) (hG : GoodIn ws (wsV own index y.cls y wsc)) (hw : wsc = Cond.code y bytes maxL retc :: wsc') (hnm : NameIn y 1) (hrm : RoomIn rmc rm maxL) (hdg : decode cc pc = .ok (.invokevirtual index, 3)) (hst : (st.map fun v => v.category).sum ≤ 8)
    (k : ∀ r : α, VF X res (K r) (wc r) (pc + 3) lv (vc r :: st)) : VF X res (fc.bind K) w pc lv (x0 :: .ref b :: st) := v_callV (As := [x0]) (rvc := fun r => (some (vc r))) C q0 he hc hq9 hM hG hw hnm hrm hdg hst rfl k
theorem v_callV1n (C : Ok X cc nL ret ws own rm D cl tys al N rv w') {x0 : Value} {q9 : vw_C} {ci : Nat} {fs : List Value} (q0 : Nat) (he : w[q0]? = some (b, .inr (ci, fs))) (hc : cl[ci]? = some q9) (hq9 : q9.1 = y.cls) (hM : ∀ (l : Launch) (r : α), fc = some r → kMet l y wsc rmc D cl tys N al [.ref b, x0] w none (wc r)) (hG : GoodIn ws (wsV own index y.cls y wsc)) (hw : wsc = Cond.code y bytes maxL retc :: wsc') (hnm : NameIn y 1) (hrm : RoomIn rmc rm maxL) (hdg : decode cc pc = .ok (.invokevirtual index, 3)) (hst : (st.map fun v => v.category).sum ≤ 8)
    (k : ∀ r : α, VF X res (K r) (wc r) (pc + 3) lv st) : VF X res (fc.bind K) w pc lv (x0 :: .ref b :: st) := v_callV (As := [x0]) (rvc := fun r => none) C q0 he hc hq9 hM hG hw hnm hrm hdg hst rfl k
theorem v_callV2v (C : Ok X cc nL ret ws own rm D cl tys al N rv w') {x0 x1 : Value} {vc : α → Value} {q9 : vw_C} {ci : Nat} {fs : List Value} (q0 : Nat) (he : w[q0]? = some (b, .inr (ci, fs))) (hc : cl[ci]? = some q9) (hq9 : q9.1 = y.cls) (hM : ∀ (l : Launch) (r : α), fc = some r → kMet l y wsc rmc D cl tys N al [.ref b, x0, x1] w (some (vc r)) (wc r)) (hG : GoodIn ws (wsV own index y.cls y wsc)) (hw : wsc = Cond.code y bytes maxL retc :: wsc') (hnm : NameIn y 2) (hrm : RoomIn rmc rm maxL) (hdg : decode cc pc = .ok (.invokevirtual index, 3)) (hst : (st.map fun v => v.category).sum ≤ 8)
    (k : ∀ r : α, VF X res (K r) (wc r) (pc + 3) lv (vc r :: st)) : VF X res (fc.bind K) w pc lv (x1 :: x0 :: .ref b :: st) := v_callV (As := [x0, x1]) (rvc := fun r => (some (vc r))) C q0 he hc hq9 hM hG hw hnm hrm hdg hst rfl k
theorem v_callV2n (C : Ok X cc nL ret ws own rm D cl tys al N rv w') {x0 x1 : Value} {q9 : vw_C} {ci : Nat} {fs : List Value} (q0 : Nat) (he : w[q0]? = some (b, .inr (ci, fs))) (hc : cl[ci]? = some q9) (hq9 : q9.1 = y.cls) (hM : ∀ (l : Launch) (r : α), fc = some r → kMet l y wsc rmc D cl tys N al [.ref b, x0, x1] w none (wc r)) (hG : GoodIn ws (wsV own index y.cls y wsc)) (hw : wsc = Cond.code y bytes maxL retc :: wsc') (hnm : NameIn y 2) (hrm : RoomIn rmc rm maxL) (hdg : decode cc pc = .ok (.invokevirtual index, 3)) (hst : (st.map fun v => v.category).sum ≤ 8)
    (k : ∀ r : α, VF X res (K r) (wc r) (pc + 3) lv st) : VF X res (fc.bind K) w pc lv (x1 :: x0 :: .ref b :: st) := v_callV (As := [x0, x1]) (rvc := fun r => none) C q0 he hc hq9 hM hG hw hnm hrm hdg hst rfl k
theorem v_callV3v (C : Ok X cc nL ret ws own rm D cl tys al N rv w') {x0 x1 x2 : Value} {vc : α → Value} {q9 : vw_C} {ci : Nat} {fs : List Value} (q0 : Nat) (he : w[q0]? = some (b, .inr (ci, fs))) (hc : cl[ci]? = some q9) (hq9 : q9.1 = y.cls) (hM : ∀ (l : Launch) (r : α), fc = some r → kMet l y wsc rmc D cl tys N al [.ref b, x0, x1, x2] w (some (vc r)) (wc r)) (hG : GoodIn ws (wsV own index y.cls y wsc)) (hw : wsc = Cond.code y bytes maxL retc :: wsc') (hnm : NameIn y 3) (hrm : RoomIn rmc rm maxL) (hdg : decode cc pc = .ok (.invokevirtual index, 3)) (hst : (st.map fun v => v.category).sum ≤ 8)
    (k : ∀ r : α, VF X res (K r) (wc r) (pc + 3) lv (vc r :: st)) : VF X res (fc.bind K) w pc lv (x2 :: x1 :: x0 :: .ref b :: st) := v_callV (As := [x0, x1, x2]) (rvc := fun r => (some (vc r))) C q0 he hc hq9 hM hG hw hnm hrm hdg hst rfl k
theorem v_callV3n (C : Ok X cc nL ret ws own rm D cl tys al N rv w') {x0 x1 x2 : Value} {q9 : vw_C} {ci : Nat} {fs : List Value} (q0 : Nat) (he : w[q0]? = some (b, .inr (ci, fs))) (hc : cl[ci]? = some q9) (hq9 : q9.1 = y.cls) (hM : ∀ (l : Launch) (r : α), fc = some r → kMet l y wsc rmc D cl tys N al [.ref b, x0, x1, x2] w none (wc r)) (hG : GoodIn ws (wsV own index y.cls y wsc)) (hw : wsc = Cond.code y bytes maxL retc :: wsc') (hnm : NameIn y 3) (hrm : RoomIn rmc rm maxL) (hdg : decode cc pc = .ok (.invokevirtual index, 3)) (hst : (st.map fun v => v.category).sum ≤ 8)
    (k : ∀ r : α, VF X res (K r) (wc r) (pc + 3) lv st) : VF X res (fc.bind K) w pc lv (x2 :: x1 :: x0 :: .ref b :: st) := v_callV (As := [x0, x1, x2]) (rvc := fun r => none) C q0 he hc hq9 hM hG hw hnm hrm hdg hst rfl k
theorem v_callV4v (C : Ok X cc nL ret ws own rm D cl tys al N rv w') {x0 x1 x2 x3 : Value} {vc : α → Value} {q9 : vw_C} {ci : Nat} {fs : List Value} (q0 : Nat) (he : w[q0]? = some (b, .inr (ci, fs))) (hc : cl[ci]? = some q9) (hq9 : q9.1 = y.cls) (hM : ∀ (l : Launch) (r : α), fc = some r → kMet l y wsc rmc D cl tys N al [.ref b, x0, x1, x2, x3] w (some (vc r)) (wc r)) (hG : GoodIn ws (wsV own index y.cls y wsc)) (hw : wsc = Cond.code y bytes maxL retc :: wsc') (hnm : NameIn y 4) (hrm : RoomIn rmc rm maxL) (hdg : decode cc pc = .ok (.invokevirtual index, 3)) (hst : (st.map fun v => v.category).sum ≤ 8)
    (k : ∀ r : α, VF X res (K r) (wc r) (pc + 3) lv (vc r :: st)) : VF X res (fc.bind K) w pc lv (x3 :: x2 :: x1 :: x0 :: .ref b :: st) := v_callV (As := [x0, x1, x2, x3]) (rvc := fun r => (some (vc r))) C q0 he hc hq9 hM hG hw hnm hrm hdg hst rfl k
theorem v_callV4n (C : Ok X cc nL ret ws own rm D cl tys al N rv w') {x0 x1 x2 x3 : Value} {q9 : vw_C} {ci : Nat} {fs : List Value} (q0 : Nat) (he : w[q0]? = some (b, .inr (ci, fs))) (hc : cl[ci]? = some q9) (hq9 : q9.1 = y.cls) (hM : ∀ (l : Launch) (r : α), fc = some r → kMet l y wsc rmc D cl tys N al [.ref b, x0, x1, x2, x3] w none (wc r)) (hG : GoodIn ws (wsV own index y.cls y wsc)) (hw : wsc = Cond.code y bytes maxL retc :: wsc') (hnm : NameIn y 4) (hrm : RoomIn rmc rm maxL) (hdg : decode cc pc = .ok (.invokevirtual index, 3)) (hst : (st.map fun v => v.category).sum ≤ 8)
    (k : ∀ r : α, VF X res (K r) (wc r) (pc + 3) lv st) : VF X res (fc.bind K) w pc lv (x3 :: x2 :: x1 :: x0 :: .ref b :: st) := v_callV (As := [x0, x1, x2, x3]) (rvc := fun r => none) C q0 he hc hq9 hM hG hw hnm hrm hdg hst rfl k
theorem v_callV5v (C : Ok X cc nL ret ws own rm D cl tys al N rv w') {x0 x1 x2 x3 x4 : Value} {vc : α → Value} {q9 : vw_C} {ci : Nat} {fs : List Value} (q0 : Nat) (he : w[q0]? = some (b, .inr (ci, fs))) (hc : cl[ci]? = some q9) (hq9 : q9.1 = y.cls) (hM : ∀ (l : Launch) (r : α), fc = some r → kMet l y wsc rmc D cl tys N al [.ref b, x0, x1, x2, x3, x4] w (some (vc r)) (wc r)) (hG : GoodIn ws (wsV own index y.cls y wsc)) (hw : wsc = Cond.code y bytes maxL retc :: wsc') (hnm : NameIn y 5) (hrm : RoomIn rmc rm maxL) (hdg : decode cc pc = .ok (.invokevirtual index, 3)) (hst : (st.map fun v => v.category).sum ≤ 8)
    (k : ∀ r : α, VF X res (K r) (wc r) (pc + 3) lv (vc r :: st)) : VF X res (fc.bind K) w pc lv (x4 :: x3 :: x2 :: x1 :: x0 :: .ref b :: st) := v_callV (As := [x0, x1, x2, x3, x4]) (rvc := fun r => (some (vc r))) C q0 he hc hq9 hM hG hw hnm hrm hdg hst rfl k
theorem v_callV5n (C : Ok X cc nL ret ws own rm D cl tys al N rv w') {x0 x1 x2 x3 x4 : Value} {q9 : vw_C} {ci : Nat} {fs : List Value} (q0 : Nat) (he : w[q0]? = some (b, .inr (ci, fs))) (hc : cl[ci]? = some q9) (hq9 : q9.1 = y.cls) (hM : ∀ (l : Launch) (r : α), fc = some r → kMet l y wsc rmc D cl tys N al [.ref b, x0, x1, x2, x3, x4] w none (wc r)) (hG : GoodIn ws (wsV own index y.cls y wsc)) (hw : wsc = Cond.code y bytes maxL retc :: wsc') (hnm : NameIn y 5) (hrm : RoomIn rmc rm maxL) (hdg : decode cc pc = .ok (.invokevirtual index, 3)) (hst : (st.map fun v => v.category).sum ≤ 8)
    (k : ∀ r : α, VF X res (K r) (wc r) (pc + 3) lv st) : VF X res (fc.bind K) w pc lv (x4 :: x3 :: x2 :: x1 :: x0 :: .ref b :: st) := v_callV (As := [x0, x1, x2, x3, x4]) (rvc := fun r => none) C q0 he hc hq9 hM hG hw hnm hrm hdg hst rfl k
theorem v_callS0v (C : Ok X cc nL ret ws own rm D cl tys al N rv w') {vc : α → Value} (hM : ∀ (l : Launch) (r : α), fc = some r → kMet l y wsc rmc D cl tys N al [] w (some (vc r)) (wc r)) (hG : GoodIn ws (va_wsS own index y wsc)) (hw : wsc = Cond.code y bytes maxL retc :: wsc') (hnm : NameIn y 0) (hrm : RoomIn rmc rm maxL) (hdg : decode cc pc = .ok (.invokestatic index, 3)) (hst : (st.map fun v => v.category).sum ≤ 8)
    (k : ∀ r : α, VF X res (K r) (wc r) (pc + 3) lv (vc r :: st)) : VF X res (fc.bind K) w pc lv (st) := v_callS (As := []) (rvc := fun r => (some (vc r))) C hM hG hw hnm hrm hdg hst rfl k
theorem v_callS0n (C : Ok X cc nL ret ws own rm D cl tys al N rv w') (hM : ∀ (l : Launch) (r : α), fc = some r → kMet l y wsc rmc D cl tys N al [] w none (wc r)) (hG : GoodIn ws (va_wsS own index y wsc)) (hw : wsc = Cond.code y bytes maxL retc :: wsc') (hnm : NameIn y 0) (hrm : RoomIn rmc rm maxL) (hdg : decode cc pc = .ok (.invokestatic index, 3)) (hst : (st.map fun v => v.category).sum ≤ 8)
    (k : ∀ r : α, VF X res (K r) (wc r) (pc + 3) lv st) : VF X res (fc.bind K) w pc lv (st) := v_callS (As := []) (rvc := fun r => none) C hM hG hw hnm hrm hdg hst rfl k
theorem v_callS1v (C : Ok X cc nL ret ws own rm D cl tys al N rv w') {x0 : Value} {vc : α → Value} (hM : ∀ (l : Launch) (r : α), fc = some r → kMet l y wsc rmc D cl tys N al [x0] w (some (vc r)) (wc r)) (hG : GoodIn ws (va_wsS own index y wsc)) (hw : wsc = Cond.code y bytes maxL retc :: wsc') (hnm : NameIn y 1) (hrm : RoomIn rmc rm maxL) (hdg : decode cc pc = .ok (.invokestatic index, 3)) (hst : (st.map fun v => v.category).sum ≤ 8)
    (k : ∀ r : α, VF X res (K r) (wc r) (pc + 3) lv (vc r :: st)) : VF X res (fc.bind K) w pc lv (x0 :: st) := v_callS (As := [x0]) (rvc := fun r => (some (vc r))) C hM hG hw hnm hrm hdg hst rfl k
theorem v_callS1n (C : Ok X cc nL ret ws own rm D cl tys al N rv w') {x0 : Value} (hM : ∀ (l : Launch) (r : α), fc = some r → kMet l y wsc rmc D cl tys N al [x0] w none (wc r)) (hG : GoodIn ws (va_wsS own index y wsc)) (hw : wsc = Cond.code y bytes maxL retc :: wsc') (hnm : NameIn y 1) (hrm : RoomIn rmc rm maxL) (hdg : decode cc pc = .ok (.invokestatic index, 3)) (hst : (st.map fun v => v.category).sum ≤ 8)
    (k : ∀ r : α, VF X res (K r) (wc r) (pc + 3) lv st) : VF X res (fc.bind K) w pc lv (x0 :: st) := v_callS (As := [x0]) (rvc := fun r => none) C hM hG hw hnm hrm hdg hst rfl k
theorem v_callS2v (C : Ok X cc nL ret ws own rm D cl tys al N rv w') {x0 x1 : Value} {vc : α → Value} (hM : ∀ (l : Launch) (r : α), fc = some r → kMet l y wsc rmc D cl tys N al [x0, x1] w (some (vc r)) (wc r)) (hG : GoodIn ws (va_wsS own index y wsc)) (hw : wsc = Cond.code y bytes maxL retc :: wsc') (hnm : NameIn y 2) (hrm : RoomIn rmc rm maxL) (hdg : decode cc pc = .ok (.invokestatic index, 3)) (hst : (st.map fun v => v.category).sum ≤ 8)
    (k : ∀ r : α, VF X res (K r) (wc r) (pc + 3) lv (vc r :: st)) : VF X res (fc.bind K) w pc lv (x1 :: x0 :: st) := v_callS (As := [x0, x1]) (rvc := fun r => (some (vc r))) C hM hG hw hnm hrm hdg hst rfl k
theorem v_callS2n (C : Ok X cc nL ret ws own rm D cl tys al N rv w') {x0 x1 : Value} (hM : ∀ (l : Launch) (r : α), fc = some r → kMet l y wsc rmc D cl tys N al [x0, x1] w none (wc r)) (hG : GoodIn ws (va_wsS own index y wsc)) (hw : wsc = Cond.code y bytes maxL retc :: wsc') (hnm : NameIn y 2) (hrm : RoomIn rmc rm maxL) (hdg : decode cc pc = .ok (.invokestatic index, 3)) (hst : (st.map fun v => v.category).sum ≤ 8)
    (k : ∀ r : α, VF X res (K r) (wc r) (pc + 3) lv st) : VF X res (fc.bind K) w pc lv (x1 :: x0 :: st) := v_callS (As := [x0, x1]) (rvc := fun r => none) C hM hG hw hnm hrm hdg hst rfl k
theorem v_callS3v (C : Ok X cc nL ret ws own rm D cl tys al N rv w') {x0 x1 x2 : Value} {vc : α → Value} (hM : ∀ (l : Launch) (r : α), fc = some r → kMet l y wsc rmc D cl tys N al [x0, x1, x2] w (some (vc r)) (wc r)) (hG : GoodIn ws (va_wsS own index y wsc)) (hw : wsc = Cond.code y bytes maxL retc :: wsc') (hnm : NameIn y 3) (hrm : RoomIn rmc rm maxL) (hdg : decode cc pc = .ok (.invokestatic index, 3)) (hst : (st.map fun v => v.category).sum ≤ 8)
    (k : ∀ r : α, VF X res (K r) (wc r) (pc + 3) lv (vc r :: st)) : VF X res (fc.bind K) w pc lv (x2 :: x1 :: x0 :: st) := v_callS (As := [x0, x1, x2]) (rvc := fun r => (some (vc r))) C hM hG hw hnm hrm hdg hst rfl k
theorem v_callS3n (C : Ok X cc nL ret ws own rm D cl tys al N rv w') {x0 x1 x2 : Value} (hM : ∀ (l : Launch) (r : α), fc = some r → kMet l y wsc rmc D cl tys N al [x0, x1, x2] w none (wc r)) (hG : GoodIn ws (va_wsS own index y wsc)) (hw : wsc = Cond.code y bytes maxL retc :: wsc') (hnm : NameIn y 3) (hrm : RoomIn rmc rm maxL) (hdg : decode cc pc = .ok (.invokestatic index, 3)) (hst : (st.map fun v => v.category).sum ≤ 8)
    (k : ∀ r : α, VF X res (K r) (wc r) (pc + 3) lv st) : VF X res (fc.bind K) w pc lv (x2 :: x1 :: x0 :: st) := v_callS (As := [x0, x1, x2]) (rvc := fun r => none) C hM hG hw hnm hrm hdg hst rfl k
theorem v_callS4v (C : Ok X cc nL ret ws own rm D cl tys al N rv w') {x0 x1 x2 x3 : Value} {vc : α → Value} (hM : ∀ (l : Launch) (r : α), fc = some r → kMet l y wsc rmc D cl tys N al [x0, x1, x2, x3] w (some (vc r)) (wc r)) (hG : GoodIn ws (va_wsS own index y wsc)) (hw : wsc = Cond.code y bytes maxL retc :: wsc') (hnm : NameIn y 4) (hrm : RoomIn rmc rm maxL) (hdg : decode cc pc = .ok (.invokestatic index, 3)) (hst : (st.map fun v => v.category).sum ≤ 8)
    (k : ∀ r : α, VF X res (K r) (wc r) (pc + 3) lv (vc r :: st)) : VF X res (fc.bind K) w pc lv (x3 :: x2 :: x1 :: x0 :: st) := v_callS (As := [x0, x1, x2, x3]) (rvc := fun r => (some (vc r))) C hM hG hw hnm hrm hdg hst rfl k
theorem v_callS4n (C : Ok X cc nL ret ws own rm D cl tys al N rv w') {x0 x1 x2 x3 : Value} (hM : ∀ (l : Launch) (r : α), fc = some r → kMet l y wsc rmc D cl tys N al [x0, x1, x2, x3] w none (wc r)) (hG : GoodIn ws (va_wsS own index y wsc)) (hw : wsc = Cond.code y bytes maxL retc :: wsc') (hnm : NameIn y 4) (hrm : RoomIn rmc rm maxL) (hdg : decode cc pc = .ok (.invokestatic index, 3)) (hst : (st.map fun v => v.category).sum ≤ 8)
    (k : ∀ r : α, VF X res (K r) (wc r) (pc + 3) lv st) : VF X res (fc.bind K) w pc lv (x3 :: x2 :: x1 :: x0 :: st) := v_callS (As := [x0, x1, x2, x3]) (rvc := fun r => none) C hM hG hw hnm hrm hdg hst rfl k
theorem v_callS5v (C : Ok X cc nL ret ws own rm D cl tys al N rv w') {x0 x1 x2 x3 x4 : Value} {vc : α → Value} (hM : ∀ (l : Launch) (r : α), fc = some r → kMet l y wsc rmc D cl tys N al [x0, x1, x2, x3, x4] w (some (vc r)) (wc r)) (hG : GoodIn ws (va_wsS own index y wsc)) (hw : wsc = Cond.code y bytes maxL retc :: wsc') (hnm : NameIn y 5) (hrm : RoomIn rmc rm maxL) (hdg : decode cc pc = .ok (.invokestatic index, 3)) (hst : (st.map fun v => v.category).sum ≤ 8)
    (k : ∀ r : α, VF X res (K r) (wc r) (pc + 3) lv (vc r :: st)) : VF X res (fc.bind K) w pc lv (x4 :: x3 :: x2 :: x1 :: x0 :: st) := v_callS (As := [x0, x1, x2, x3, x4]) (rvc := fun r => (some (vc r))) C hM hG hw hnm hrm hdg hst rfl k
theorem v_callS5n (C : Ok X cc nL ret ws own rm D cl tys al N rv w') {x0 x1 x2 x3 x4 : Value} (hM : ∀ (l : Launch) (r : α), fc = some r → kMet l y wsc rmc D cl tys N al [x0, x1, x2, x3, x4] w none (wc r)) (hG : GoodIn ws (va_wsS own index y wsc)) (hw : wsc = Cond.code y bytes maxL retc :: wsc') (hnm : NameIn y 5) (hrm : RoomIn rmc rm maxL) (hdg : decode cc pc = .ok (.invokestatic index, 3)) (hst : (st.map fun v => v.category).sum ≤ 8)
    (k : ∀ r : α, VF X res (K r) (wc r) (pc + 3) lv st) : VF X res (fc.bind K) w pc lv (x4 :: x3 :: x2 :: x1 :: x0 :: st) := v_callS (As := [x0, x1, x2, x3, x4]) (rvc := fun r => none) C hM hG hw hnm hrm hdg hst rfl k
theorem v_callSP0v (C : Ok X cc nL ret ws own rm D cl tys al N rv w') {vc : α → Value} (hM : ∀ (l : Launch) (r : α), fc = some r → pMet l y wsc rmc [] (some (vc r))) (hG : GoodIn ws (va_wsS own index y wsc)) (hw : wsc = Cond.code y bytes maxL retc :: wsc') (hnm : NameIn y 0) (hrm : RoomIn rmc rm maxL) (hdg : decode cc pc = .ok (.invokestatic index, 3)) (hst : (st.map fun v => v.category).sum ≤ 8)
    (k : ∀ r : α, VF X res (K r) w (pc + 3) lv (vc r :: st)) : VF X res (fc.bind K) w pc lv (st) := v_callSP (As := []) (rvc := fun r => (some (vc r))) C hM hG hw hnm hrm hdg hst rfl k
theorem v_callSP0n (C : Ok X cc nL ret ws own rm D cl tys al N rv w') (hM : ∀ (l : Launch) (r : α), fc = some r → pMet l y wsc rmc [] none) (hG : GoodIn ws (va_wsS own index y wsc)) (hw : wsc = Cond.code y bytes maxL retc :: wsc') (hnm : NameIn y 0) (hrm : RoomIn rmc rm maxL) (hdg : decode cc pc = .ok (.invokestatic index, 3)) (hst : (st.map fun v => v.category).sum ≤ 8)
    (k : ∀ r : α, VF X res (K r) w (pc + 3) lv st) : VF X res (fc.bind K) w pc lv (st) := v_callSP (As := []) (rvc := fun r => none) C hM hG hw hnm hrm hdg hst rfl k
theorem v_callSP1v (C : Ok X cc nL ret ws own rm D cl tys al N rv w') {x0 : Value} {vc : α → Value} (hM : ∀ (l : Launch) (r : α), fc = some r → pMet l y wsc rmc [x0] (some (vc r))) (hG : GoodIn ws (va_wsS own index y wsc)) (hw : wsc = Cond.code y bytes maxL retc :: wsc') (hnm : NameIn y 1) (hrm : RoomIn rmc rm maxL) (hdg : decode cc pc = .ok (.invokestatic index, 3)) (hst : (st.map fun v => v.category).sum ≤ 8)
    (k : ∀ r : α, VF X res (K r) w (pc + 3) lv (vc r :: st)) : VF X res (fc.bind K) w pc lv (x0 :: st) := v_callSP (As := [x0]) (rvc := fun r => (some (vc r))) C hM hG hw hnm hrm hdg hst rfl k
theorem v_callSP1n (C : Ok X cc nL ret ws own rm D cl tys al N rv w') {x0 : Value} (hM : ∀ (l : Launch) (r : α), fc = some r → pMet l y wsc rmc [x0] none) (hG : GoodIn ws (va_wsS own index y wsc)) (hw : wsc = Cond.code y bytes maxL retc :: wsc') (hnm : NameIn y 1) (hrm : RoomIn rmc rm maxL) (hdg : decode cc pc = .ok (.invokestatic index, 3)) (hst : (st.map fun v => v.category).sum ≤ 8)
    (k : ∀ r : α, VF X res (K r) w (pc + 3) lv st) : VF X res (fc.bind K) w pc lv (x0 :: st) := v_callSP (As := [x0]) (rvc := fun r => none) C hM hG hw hnm hrm hdg hst rfl k
theorem v_callSP2v (C : Ok X cc nL ret ws own rm D cl tys al N rv w') {x0 x1 : Value} {vc : α → Value} (hM : ∀ (l : Launch) (r : α), fc = some r → pMet l y wsc rmc [x0, x1] (some (vc r))) (hG : GoodIn ws (va_wsS own index y wsc)) (hw : wsc = Cond.code y bytes maxL retc :: wsc') (hnm : NameIn y 2) (hrm : RoomIn rmc rm maxL) (hdg : decode cc pc = .ok (.invokestatic index, 3)) (hst : (st.map fun v => v.category).sum ≤ 8)
    (k : ∀ r : α, VF X res (K r) w (pc + 3) lv (vc r :: st)) : VF X res (fc.bind K) w pc lv (x1 :: x0 :: st) := v_callSP (As := [x0, x1]) (rvc := fun r => (some (vc r))) C hM hG hw hnm hrm hdg hst rfl k
theorem v_callSP2n (C : Ok X cc nL ret ws own rm D cl tys al N rv w') {x0 x1 : Value} (hM : ∀ (l : Launch) (r : α), fc = some r → pMet l y wsc rmc [x0, x1] none) (hG : GoodIn ws (va_wsS own index y wsc)) (hw : wsc = Cond.code y bytes maxL retc :: wsc') (hnm : NameIn y 2) (hrm : RoomIn rmc rm maxL) (hdg : decode cc pc = .ok (.invokestatic index, 3)) (hst : (st.map fun v => v.category).sum ≤ 8)
    (k : ∀ r : α, VF X res (K r) w (pc + 3) lv st) : VF X res (fc.bind K) w pc lv (x1 :: x0 :: st) := v_callSP (As := [x0, x1]) (rvc := fun r => none) C hM hG hw hnm hrm hdg hst rfl k
theorem v_callSP3v (C : Ok X cc nL ret ws own rm D cl tys al N rv w') {x0 x1 x2 : Value} {vc : α → Value} (hM : ∀ (l : Launch) (r : α), fc = some r → pMet l y wsc rmc [x0, x1, x2] (some (vc r))) (hG : GoodIn ws (va_wsS own index y wsc)) (hw : wsc = Cond.code y bytes maxL retc :: wsc') (hnm : NameIn y 3) (hrm : RoomIn rmc rm maxL) (hdg : decode cc pc = .ok (.invokestatic index, 3)) (hst : (st.map fun v => v.category).sum ≤ 8)
    (k : ∀ r : α, VF X res (K r) w (pc + 3) lv (vc r :: st)) : VF X res (fc.bind K) w pc lv (x2 :: x1 :: x0 :: st) := v_callSP (As := [x0, x1, x2]) (rvc := fun r => (some (vc r))) C hM hG hw hnm hrm hdg hst rfl k
theorem v_callSP3n (C : Ok X cc nL ret ws own rm D cl tys al N rv w') {x0 x1 x2 : Value} (hM : ∀ (l : Launch) (r : α), fc = some r → pMet l y wsc rmc [x0, x1, x2] none) (hG : GoodIn ws (va_wsS own index y wsc)) (hw : wsc = Cond.code y bytes maxL retc :: wsc') (hnm : NameIn y 3) (hrm : RoomIn rmc rm maxL) (hdg : decode cc pc = .ok (.invokestatic index, 3)) (hst : (st.map fun v => v.category).sum ≤ 8)
    (k : ∀ r : α, VF X res (K r) w (pc + 3) lv st) : VF X res (fc.bind K) w pc lv (x2 :: x1 :: x0 :: st) := v_callSP (As := [x0, x1, x2]) (rvc := fun r => none) C hM hG hw hnm hrm hdg hst rfl k
theorem v_callSP4v (C : Ok X cc nL ret ws own rm D cl tys al N rv w') {x0 x1 x2 x3 : Value} {vc : α → Value} (hM : ∀ (l : Launch) (r : α), fc = some r → pMet l y wsc rmc [x0, x1, x2, x3] (some (vc r))) (hG : GoodIn ws (va_wsS own index y wsc)) (hw : wsc = Cond.code y bytes maxL retc :: wsc') (hnm : NameIn y 4) (hrm : RoomIn rmc rm maxL) (hdg : decode cc pc = .ok (.invokestatic index, 3)) (hst : (st.map fun v => v.category).sum ≤ 8)
    (k : ∀ r : α, VF X res (K r) w (pc + 3) lv (vc r :: st)) : VF X res (fc.bind K) w pc lv (x3 :: x2 :: x1 :: x0 :: st) := v_callSP (As := [x0, x1, x2, x3]) (rvc := fun r => (some (vc r))) C hM hG hw hnm hrm hdg hst rfl k
theorem v_callSP4n (C : Ok X cc nL ret ws own rm D cl tys al N rv w') {x0 x1 x2 x3 : Value} (hM : ∀ (l : Launch) (r : α), fc = some r → pMet l y wsc rmc [x0, x1, x2, x3] none) (hG : GoodIn ws (va_wsS own index y wsc)) (hw : wsc = Cond.code y bytes maxL retc :: wsc') (hnm : NameIn y 4) (hrm : RoomIn rmc rm maxL) (hdg : decode cc pc = .ok (.invokestatic index, 3)) (hst : (st.map fun v => v.category).sum ≤ 8)
    (k : ∀ r : α, VF X res (K r) w (pc + 3) lv st) : VF X res (fc.bind K) w pc lv (x3 :: x2 :: x1 :: x0 :: st) := v_callSP (As := [x0, x1, x2, x3]) (rvc := fun r => none) C hM hG hw hnm hrm hdg hst rfl k
theorem v_callSP5v (C : Ok X cc nL ret ws own rm D cl tys al N rv w') {x0 x1 x2 x3 x4 : Value} {vc : α → Value} (hM : ∀ (l : Launch) (r : α), fc = some r → pMet l y wsc rmc [x0, x1, x2, x3, x4] (some (vc r))) (hG : GoodIn ws (va_wsS own index y wsc)) (hw : wsc = Cond.code y bytes maxL retc :: wsc') (hnm : NameIn y 5) (hrm : RoomIn rmc rm maxL) (hdg : decode cc pc = .ok (.invokestatic index, 3)) (hst : (st.map fun v => v.category).sum ≤ 8)
    (k : ∀ r : α, VF X res (K r) w (pc + 3) lv (vc r :: st)) : VF X res (fc.bind K) w pc lv (x4 :: x3 :: x2 :: x1 :: x0 :: st) := v_callSP (As := [x0, x1, x2, x3, x4]) (rvc := fun r => (some (vc r))) C hM hG hw hnm hrm hdg hst rfl k
theorem v_callSP5n (C : Ok X cc nL ret ws own rm D cl tys al N rv w') {x0 x1 x2 x3 x4 : Value} (hM : ∀ (l : Launch) (r : α), fc = some r → pMet l y wsc rmc [x0, x1, x2, x3, x4] none) (hG : GoodIn ws (va_wsS own index y wsc)) (hw : wsc = Cond.code y bytes maxL retc :: wsc') (hnm : NameIn y 5) (hrm : RoomIn rmc rm maxL) (hdg : decode cc pc = .ok (.invokestatic index, 3)) (hst : (st.map fun v => v.category).sum ≤ 8)
    (k : ∀ r : α, VF X res (K r) w (pc + 3) lv st) : VF X res (fc.bind K) w pc lv (x4 :: x3 :: x2 :: x1 :: x0 :: st) := v_callSP (As := [x0, x1, x2, x3, x4]) (rvc := fun r => none) C hM hG hw hnm hrm hdg hst rfl k
theorem v_callNP0v (C : Ok X cc nL ret ws own rm D cl tys al N rv w') {vc : α → Value} (hM : ∀ (l : Launch) (r : α), fc = some r → pMet l y wsc rmc [] (some (vc r))) (hG : GoodIn ws wsc) (hst9 : Cond.static y ∈ ws) (hin9 : Cond.initialized y.cls ∈ ws) {host : String} (hnl : ∀ (A : Nat → Prop) (U : State), N A U → va_Nw (.methodLinkNest own index y host) U) (hw : wsc = Cond.code y bytes maxL retc :: wsc') (hnm : NameIn y 0) (hrm : RoomIn rmc rm maxL) (hdg : decode cc pc = .ok (.invokestatic index, 3)) (hst : (st.map fun v => v.category).sum ≤ 8)
    (k : ∀ r : α, VF X res (K r) w (pc + 3) lv (vc r :: st)) : VF X res (fc.bind K) w pc lv (st) := v_callNP (As := []) (rvc := fun r => (some (vc r))) C hM hG hst9 hin9 hnl hw hnm hrm hdg hst rfl k
theorem v_callNP0n (C : Ok X cc nL ret ws own rm D cl tys al N rv w') (hM : ∀ (l : Launch) (r : α), fc = some r → pMet l y wsc rmc [] none) (hG : GoodIn ws wsc) (hst9 : Cond.static y ∈ ws) (hin9 : Cond.initialized y.cls ∈ ws) {host : String} (hnl : ∀ (A : Nat → Prop) (U : State), N A U → va_Nw (.methodLinkNest own index y host) U) (hw : wsc = Cond.code y bytes maxL retc :: wsc') (hnm : NameIn y 0) (hrm : RoomIn rmc rm maxL) (hdg : decode cc pc = .ok (.invokestatic index, 3)) (hst : (st.map fun v => v.category).sum ≤ 8)
    (k : ∀ r : α, VF X res (K r) w (pc + 3) lv st) : VF X res (fc.bind K) w pc lv (st) := v_callNP (As := []) (rvc := fun r => none) C hM hG hst9 hin9 hnl hw hnm hrm hdg hst rfl k
theorem v_callNP1v (C : Ok X cc nL ret ws own rm D cl tys al N rv w') {x0 : Value} {vc : α → Value} (hM : ∀ (l : Launch) (r : α), fc = some r → pMet l y wsc rmc [x0] (some (vc r))) (hG : GoodIn ws wsc) (hst9 : Cond.static y ∈ ws) (hin9 : Cond.initialized y.cls ∈ ws) {host : String} (hnl : ∀ (A : Nat → Prop) (U : State), N A U → va_Nw (.methodLinkNest own index y host) U) (hw : wsc = Cond.code y bytes maxL retc :: wsc') (hnm : NameIn y 1) (hrm : RoomIn rmc rm maxL) (hdg : decode cc pc = .ok (.invokestatic index, 3)) (hst : (st.map fun v => v.category).sum ≤ 8)
    (k : ∀ r : α, VF X res (K r) w (pc + 3) lv (vc r :: st)) : VF X res (fc.bind K) w pc lv (x0 :: st) := v_callNP (As := [x0]) (rvc := fun r => (some (vc r))) C hM hG hst9 hin9 hnl hw hnm hrm hdg hst rfl k
theorem v_callNP1n (C : Ok X cc nL ret ws own rm D cl tys al N rv w') {x0 : Value} (hM : ∀ (l : Launch) (r : α), fc = some r → pMet l y wsc rmc [x0] none) (hG : GoodIn ws wsc) (hst9 : Cond.static y ∈ ws) (hin9 : Cond.initialized y.cls ∈ ws) {host : String} (hnl : ∀ (A : Nat → Prop) (U : State), N A U → va_Nw (.methodLinkNest own index y host) U) (hw : wsc = Cond.code y bytes maxL retc :: wsc') (hnm : NameIn y 1) (hrm : RoomIn rmc rm maxL) (hdg : decode cc pc = .ok (.invokestatic index, 3)) (hst : (st.map fun v => v.category).sum ≤ 8)
    (k : ∀ r : α, VF X res (K r) w (pc + 3) lv st) : VF X res (fc.bind K) w pc lv (x0 :: st) := v_callNP (As := [x0]) (rvc := fun r => none) C hM hG hst9 hin9 hnl hw hnm hrm hdg hst rfl k
theorem v_callNP2v (C : Ok X cc nL ret ws own rm D cl tys al N rv w') {x0 x1 : Value} {vc : α → Value} (hM : ∀ (l : Launch) (r : α), fc = some r → pMet l y wsc rmc [x0, x1] (some (vc r))) (hG : GoodIn ws wsc) (hst9 : Cond.static y ∈ ws) (hin9 : Cond.initialized y.cls ∈ ws) {host : String} (hnl : ∀ (A : Nat → Prop) (U : State), N A U → va_Nw (.methodLinkNest own index y host) U) (hw : wsc = Cond.code y bytes maxL retc :: wsc') (hnm : NameIn y 2) (hrm : RoomIn rmc rm maxL) (hdg : decode cc pc = .ok (.invokestatic index, 3)) (hst : (st.map fun v => v.category).sum ≤ 8)
    (k : ∀ r : α, VF X res (K r) w (pc + 3) lv (vc r :: st)) : VF X res (fc.bind K) w pc lv (x1 :: x0 :: st) := v_callNP (As := [x0, x1]) (rvc := fun r => (some (vc r))) C hM hG hst9 hin9 hnl hw hnm hrm hdg hst rfl k
theorem v_callNP2n (C : Ok X cc nL ret ws own rm D cl tys al N rv w') {x0 x1 : Value} (hM : ∀ (l : Launch) (r : α), fc = some r → pMet l y wsc rmc [x0, x1] none) (hG : GoodIn ws wsc) (hst9 : Cond.static y ∈ ws) (hin9 : Cond.initialized y.cls ∈ ws) {host : String} (hnl : ∀ (A : Nat → Prop) (U : State), N A U → va_Nw (.methodLinkNest own index y host) U) (hw : wsc = Cond.code y bytes maxL retc :: wsc') (hnm : NameIn y 2) (hrm : RoomIn rmc rm maxL) (hdg : decode cc pc = .ok (.invokestatic index, 3)) (hst : (st.map fun v => v.category).sum ≤ 8)
    (k : ∀ r : α, VF X res (K r) w (pc + 3) lv st) : VF X res (fc.bind K) w pc lv (x1 :: x0 :: st) := v_callNP (As := [x0, x1]) (rvc := fun r => none) C hM hG hst9 hin9 hnl hw hnm hrm hdg hst rfl k
theorem v_callNP3v (C : Ok X cc nL ret ws own rm D cl tys al N rv w') {x0 x1 x2 : Value} {vc : α → Value} (hM : ∀ (l : Launch) (r : α), fc = some r → pMet l y wsc rmc [x0, x1, x2] (some (vc r))) (hG : GoodIn ws wsc) (hst9 : Cond.static y ∈ ws) (hin9 : Cond.initialized y.cls ∈ ws) {host : String} (hnl : ∀ (A : Nat → Prop) (U : State), N A U → va_Nw (.methodLinkNest own index y host) U) (hw : wsc = Cond.code y bytes maxL retc :: wsc') (hnm : NameIn y 3) (hrm : RoomIn rmc rm maxL) (hdg : decode cc pc = .ok (.invokestatic index, 3)) (hst : (st.map fun v => v.category).sum ≤ 8)
    (k : ∀ r : α, VF X res (K r) w (pc + 3) lv (vc r :: st)) : VF X res (fc.bind K) w pc lv (x2 :: x1 :: x0 :: st) := v_callNP (As := [x0, x1, x2]) (rvc := fun r => (some (vc r))) C hM hG hst9 hin9 hnl hw hnm hrm hdg hst rfl k
theorem v_callNP3n (C : Ok X cc nL ret ws own rm D cl tys al N rv w') {x0 x1 x2 : Value} (hM : ∀ (l : Launch) (r : α), fc = some r → pMet l y wsc rmc [x0, x1, x2] none) (hG : GoodIn ws wsc) (hst9 : Cond.static y ∈ ws) (hin9 : Cond.initialized y.cls ∈ ws) {host : String} (hnl : ∀ (A : Nat → Prop) (U : State), N A U → va_Nw (.methodLinkNest own index y host) U) (hw : wsc = Cond.code y bytes maxL retc :: wsc') (hnm : NameIn y 3) (hrm : RoomIn rmc rm maxL) (hdg : decode cc pc = .ok (.invokestatic index, 3)) (hst : (st.map fun v => v.category).sum ≤ 8)
    (k : ∀ r : α, VF X res (K r) w (pc + 3) lv st) : VF X res (fc.bind K) w pc lv (x2 :: x1 :: x0 :: st) := v_callNP (As := [x0, x1, x2]) (rvc := fun r => none) C hM hG hst9 hin9 hnl hw hnm hrm hdg hst rfl k
theorem v_callNP4v (C : Ok X cc nL ret ws own rm D cl tys al N rv w') {x0 x1 x2 x3 : Value} {vc : α → Value} (hM : ∀ (l : Launch) (r : α), fc = some r → pMet l y wsc rmc [x0, x1, x2, x3] (some (vc r))) (hG : GoodIn ws wsc) (hst9 : Cond.static y ∈ ws) (hin9 : Cond.initialized y.cls ∈ ws) {host : String} (hnl : ∀ (A : Nat → Prop) (U : State), N A U → va_Nw (.methodLinkNest own index y host) U) (hw : wsc = Cond.code y bytes maxL retc :: wsc') (hnm : NameIn y 4) (hrm : RoomIn rmc rm maxL) (hdg : decode cc pc = .ok (.invokestatic index, 3)) (hst : (st.map fun v => v.category).sum ≤ 8)
    (k : ∀ r : α, VF X res (K r) w (pc + 3) lv (vc r :: st)) : VF X res (fc.bind K) w pc lv (x3 :: x2 :: x1 :: x0 :: st) := v_callNP (As := [x0, x1, x2, x3]) (rvc := fun r => (some (vc r))) C hM hG hst9 hin9 hnl hw hnm hrm hdg hst rfl k
theorem v_callNP4n (C : Ok X cc nL ret ws own rm D cl tys al N rv w') {x0 x1 x2 x3 : Value} (hM : ∀ (l : Launch) (r : α), fc = some r → pMet l y wsc rmc [x0, x1, x2, x3] none) (hG : GoodIn ws wsc) (hst9 : Cond.static y ∈ ws) (hin9 : Cond.initialized y.cls ∈ ws) {host : String} (hnl : ∀ (A : Nat → Prop) (U : State), N A U → va_Nw (.methodLinkNest own index y host) U) (hw : wsc = Cond.code y bytes maxL retc :: wsc') (hnm : NameIn y 4) (hrm : RoomIn rmc rm maxL) (hdg : decode cc pc = .ok (.invokestatic index, 3)) (hst : (st.map fun v => v.category).sum ≤ 8)
    (k : ∀ r : α, VF X res (K r) w (pc + 3) lv st) : VF X res (fc.bind K) w pc lv (x3 :: x2 :: x1 :: x0 :: st) := v_callNP (As := [x0, x1, x2, x3]) (rvc := fun r => none) C hM hG hst9 hin9 hnl hw hnm hrm hdg hst rfl k
theorem v_callNP5v (C : Ok X cc nL ret ws own rm D cl tys al N rv w') {x0 x1 x2 x3 x4 : Value} {vc : α → Value} (hM : ∀ (l : Launch) (r : α), fc = some r → pMet l y wsc rmc [x0, x1, x2, x3, x4] (some (vc r))) (hG : GoodIn ws wsc) (hst9 : Cond.static y ∈ ws) (hin9 : Cond.initialized y.cls ∈ ws) {host : String} (hnl : ∀ (A : Nat → Prop) (U : State), N A U → va_Nw (.methodLinkNest own index y host) U) (hw : wsc = Cond.code y bytes maxL retc :: wsc') (hnm : NameIn y 5) (hrm : RoomIn rmc rm maxL) (hdg : decode cc pc = .ok (.invokestatic index, 3)) (hst : (st.map fun v => v.category).sum ≤ 8)
    (k : ∀ r : α, VF X res (K r) w (pc + 3) lv (vc r :: st)) : VF X res (fc.bind K) w pc lv (x4 :: x3 :: x2 :: x1 :: x0 :: st) := v_callNP (As := [x0, x1, x2, x3, x4]) (rvc := fun r => (some (vc r))) C hM hG hst9 hin9 hnl hw hnm hrm hdg hst rfl k
theorem v_callNP5n (C : Ok X cc nL ret ws own rm D cl tys al N rv w') {x0 x1 x2 x3 x4 : Value} (hM : ∀ (l : Launch) (r : α), fc = some r → pMet l y wsc rmc [x0, x1, x2, x3, x4] none) (hG : GoodIn ws wsc) (hst9 : Cond.static y ∈ ws) (hin9 : Cond.initialized y.cls ∈ ws) {host : String} (hnl : ∀ (A : Nat → Prop) (U : State), N A U → va_Nw (.methodLinkNest own index y host) U) (hw : wsc = Cond.code y bytes maxL retc :: wsc') (hnm : NameIn y 5) (hrm : RoomIn rmc rm maxL) (hdg : decode cc pc = .ok (.invokestatic index, 3)) (hst : (st.map fun v => v.category).sum ≤ 8)
    (k : ∀ r : α, VF X res (K r) w (pc + 3) lv st) : VF X res (fc.bind K) w pc lv (x4 :: x3 :: x2 :: x1 :: x0 :: st) := v_callNP (As := [x0, x1, x2, x3, x4]) (rvc := fun r => none) C hM hG hst9 hin9 hnl hw hnm hrm hdg hst rfl k
end VD
