/-! A SECOND LAYER: methods that make cells. The world grows; cs and sl count the cells and slots made so far. -/
def aQ (D : va_G) (cl : List vw_C) (A : Nat → Prop) (P : Option Value → va_W → Prop) : Array Value → State → Outcome → State → Prop := fun _ st o t => (∃ (rv : Option Value) (w' : va_W), o = .returned rv ∧ P rv w' ∧ va_P D cl w' t.heap ∧ va_D A w') ∧ va_F A st t
def aPre (D : va_G) (cl : List vw_C) (tys : List (ClassId × FieldType)) (N : (Nat → Prop) → State → Prop) (al : List Nat) (sz : Nat) (w : va_W) : State → Prop := fun U => kPre D cl tys N al sz w U ∧ va_D (gA al sz) w
/-- the contract of a method that may make cells: from this world, it ends with an answer and a world as P says -/
def aMet (l : Launch) (y : MethodName) (ws : List Cond) (rm : Room) (D : va_G) (cl : List vw_C) (tys : List (ClassId × FieldType)) (N : (Nat → Prop) → State → Prop) (al : List Nat) (argv : List Value) (w : va_W) (mc ms : Nat) (P : Option Value → va_W → Prop) : Prop :=
  ∀ sz : Nat, Met l y ws rm (va_Pc argv (aPre D cl tys N al sz w)) (aQ D cl (gA al sz) P) mc ms (gA al sz)
def V2 (X : CX) (cs sl : Nat) (w : va_W) (pc : Nat) (lv : List (Nat × Value)) (st : List Value) : Prop :=
  match X with
  | (p, l, e, R, s, m, args, below, meth, c, D, cl, _, al, _, nL, Q) =>
    ∀ (H : Heap) (locs : List Loc) (ls : Array Slot), va_P D cl w H → va_D (gA al s.heap.size) w → va_S (gA al s.heap.size) s.heap H locs → lv_has ls nL lv → W p l e R s m args below meth c H locs cs sl Q (F0 m pc ls st)
def O2 (X : CX) (cc : ByteArray) (nL : Nat) (ret : Option FieldType) (ws : List Cond) (own : String) (rm : Room) (D : va_G) (cl : List vw_C) (tys : List (ClassId × FieldType)) (al : List Nat) (N : (Nat → Prop) → State → Prop) : Prop :=
  match X with
  | (p, _, _, R, s, m, args, _, meth, c, D', cl', tys', al', N', nL', _) =>
    p.tables.exec = Jvm.exec ∧ c.code = cc ∧ c.maxLocals = nL ∧ s.vm.findClass own = some m.cls ∧ (∀ w ∈ ws, w.before args s = true) ∧ meth.sig.returnType = ret ∧ meth.locks = false ∧ R = rm ∧ va_K D cl tys s ∧ N (gA al s.heap.size) s ∧ NOK N ∧ D' = D ∧ cl' = cl ∧ tys' = tys ∧ al' = al ∧ N' = N ∧ nL' = nL
def E2 (X : CX) (mc ms : Nat) (P : Option Value → va_W → Prop) : Prop :=
  match X with
  | (_, _, _, _, s, _, args, below, _, _, D, cl, _, al, _, _, Q) => Q = MQ below (aQ D cl (gA al s.heap.size) P) args s mc ms (gA al s.heap.size)
def I2 (X : CX) : Prop :=
  match X with
  | (_, _, _, _, _, _, _, _, meth, _, _, _, _, _, _, _, _) => meth.name = "<init>"
theorem aPre_blind {D : va_G} {cl : List vw_C} {tys : List (ClassId × FieldType)} {N : (Nat → Prop) → State → Prop} {al : List Nat} {sz : Nat} {w : va_W} {argv : List Value} (hN : NOK N) : FrameBlind (va_Pc argv (aPre D cl tys N al sz w)) := by
  intro a U g mk h
  obtain ⟨h0, ⟨h1, h2, h3, h4⟩, h5⟩ := h
  exact ⟨h0, ⟨h1, h2, va_K.moved (u := U) (U := U.calling g mk a) (Vm.Alike.refl U.vm) h3, hN.1 _ _ _ _ _ h4⟩, h5⟩
theorem aMet.of {l : Launch} {y : MethodName} {ws ws' : List Cond} {rm : Room} {D : va_G} {cl : List vw_C} {tys : List (ClassId × FieldType)} {N : (Nat → Prop) → State → Prop} {al : List Nat} {argv : List Value} {w : va_W} {mc ms : Nat} {P : Option Value → va_W → Prop} {cc : ByteArray} {nL : Nat} {ret : Option FieldType} {own : String} {lv : List (Nat × Value)}
    (hy : plainName y.cls = true) (hw : ws = Cond.code y cc nL ret :: ws') (hown : y.cls = own) (hNK : NOK N) (hlen : (lg_sl argv).length ≤ nL) (hlv : lv_args 0 argv = lv)
    (body : ∀ X : CX, O2 X cc nL ret ws own rm D cl tys al N → E2 X mc ms P → (y.name = "<init>" → I2 X) → V2 X 0 0 w 0 lv []) : aMet l y ws rm D cl tys N al argv w mc ms P := by
  intro sz
  refine Met.ofW (cc := cc) (maxL := nL) (ret := ret) hy hw ?_
  intro p e s m args below meth c s₁ B hml hv
  obtain ⟨rfl, ⟨hsz, hP, hK, hN⟩, hD⟩ := hv
  subst hsz
  have K := body (p, l, e, (headSpec ws rm).room, s, m, argv.toArray, below, meth, c, D, cl, tys, al, N, nL, MQ below (aQ D cl (gA al s.heap.size) P) argv.toArray s mc ms (gA al s.heap.size))
    ⟨B.exec, B.bytes, hml, by rw [← hown]; exact findClass_of_methodNamed B.named, atoms_spec (ws := ws) B.pre, B.returns, B.notSynchronized, rfl, hK, hN, hNK, rfl, rfl, rfl, rfl, rfl, rfl⟩ rfl (fun h => (name_of_methodNamed B.named B.method).1.trans h)
    s.heap [] _ hP hD va_S.rf (hlv ▸ lv_entry argv (n := nL) hlen)
  rw [lg_entry_eq]
  exact K
/-- what passes into a callee of what is known besides the world -/
def NTo (ws : List Cond) (D : va_G) (cl : List vw_C) (tys : List (ClassId × FieldType)) (N : (Nat → Prop) → State → Prop) (al : List Nat) (w : va_W) (N' : (Nat → Prop) → State → Prop) (alc : List Nat) : Prop :=
  ∀ (args : Array Value) (s U : State) (locs : List Loc), (∀ c ∈ ws, c.before args s = true) → va_K D cl tys s → N (gA al s.heap.size) s → va_P D cl w U.heap → va_D (gA al s.heap.size) w → va_S (gA al s.heap.size) s.heap U.heap locs → s.WarmedH U.vm → N' (gA alc U.heap.size) U
theorem NTo.nt {ws : List Cond} {D : va_G} {cl : List vw_C} {tys : List (ClassId × FieldType)} {N : (Nat → Prop) → State → Prop} {al alc : List Nat} {w : va_W} : NTo ws D cl tys N al w NT alc := fun _ _ _ _ _ _ _ _ _ _ _ => trivial
theorem gA_to {al alc : List Nat} {H0 H : Heap} {locs : List Loc} {w wc : va_W} (hD : va_D (gA al H0.size) w) (hS : va_S (gA al H0.size) H0 H locs) (isC : List Nat) (hC : isC.map (fun i => w[i]?) = wc.map some) (halc : wc.map Prod.fst = alc) : ∀ q, gA alc H.size q → gA al H0.size q := by
  subst halc
  intro q h
  rcases h with h | h
  · obtain ⟨x, hx, rfl⟩ := List.mem_map.mp h
    obtain ⟨k, hk⟩ := List.getElem?_of_mem hx
    have h1 : (isC.map (fun i => w[i]?))[k]? = some (some x) := by rw [hC, List.getElem?_map, hk]; rfl
    rw [List.getElem?_map] at h1
    cases hi : isC[k]? with
    | none => rw [hi] at h1; cases h1
    | some i => rw [hi] at h1; exact hD.2 i x (Option.some.inj h1)
  · exact Or.inr (Nat.le_trans hS.1 h)
theorem gA_va {wc : va_W} {alc : List Nat} {sz q : Nat} (h : wc.map Prod.fst = alc) : gA alc sz q ↔ va_A wc sz q := by
  subst h
  constructor
  · rintro (h | h)
    · obtain ⟨x, hx, rfl⟩ := List.mem_map.mp h
      obtain ⟨k, hk⟩ := List.getElem?_of_mem hx
      exact Or.inl ⟨k, x.2, hk⟩
    · exact Or.inr h
  · rintro (⟨k, e, h⟩ | h)
    · exact Or.inl (List.mem_map.mpr ⟨_, List.mem_of_getElem? h, rfl⟩)
    · exact Or.inr h
theorem NTo.of {ws : List Cond} {D : va_G} {cl : List vw_C} {tys : List (ClassId × FieldType)} {N N' : (Nat → Prop) → State → Prop} {al alc : List Nat} {w wc : va_W} (hNK : NOK N) (hi : ∀ A U, N A U → N' A U) (isC : List Nat) (hC : isC.map (fun i => w[i]?) = wc.map some) (halc : wc.map Prod.fst = alc) : NTo ws D cl tys N al w N' alc := by
  intro args s U locs hts hK hN hP hD hS hW
  exact hi _ _ (hNK.2 _ _ _ _ hN hW hS.2.1 (gA_to hD hS isC hC halc))
theorem NTo.and {ws : List Cond} {D : va_G} {cl : List vw_C} {tys : List (ClassId × FieldType)} {N N1 N2 : (Nat → Prop) → State → Prop} {al alc : List Nat} {w : va_W} (h1 : NTo ws D cl tys N al w N1 alc) (h2 : NTo ws D cl tys N al w N2 alc) : NTo ws D cl tys N al w (fun A U => N1 A U ∧ N2 A U) alc :=
  fun args s U locs a b c d e f g => ⟨h1 args s U locs a b c d e f g, h2 args s U locs a b c d e f g⟩
theorem NOK.and {N1 N2 : (Nat → Prop) → State → Prop} (h1 : NOK N1) (h2 : NOK N2) : NOK (fun A U => N1 A U ∧ N2 A U) :=
  ⟨fun A U g mk a h => ⟨h1.1 A U g mk a h.1, h2.1 A U g mk a h.2⟩, fun A B s U h a b c => ⟨h1.2 A B s U h.1 a b c, h2.2 A B s U h.2 a b c⟩⟩
/-- the world cut in two: what the callee gets, and the rest -/
def Cut (w wc wr : va_W) (isC isR : List Nat) : Prop := isC.map (fun i => w[i]?) = wc.map some ∧ isR.map (fun i => w[i]?) = wr.map some ∧ va_nd isC = true ∧ va_nd isR = true ∧ ∀ i ∈ isR, i ∉ isC
theorem bv_P {D : va_G} {cl : List vw_C} {w w' : va_W} {H : Heap} (h : va_P D cl w H) (is : List Nat) (hs : is.map (fun i => w[i]?) = w'.map some) : va_P D cl w' H := by
  intro k q hk
  have h1 : (is.map (fun i => w[i]?))[k]? = some (some q) := by rw [hs, List.getElem?_map, hk]; rfl
  rw [List.getElem?_map] at h1
  cases hi : is[k]? with
  | none => rw [hi] at h1; cases h1
  | some i => rw [hi] at h1; exact h i q (Option.some.inj h1)
theorem bv_Dfst {A : Nat → Prop} {w w' : va_W} (h : va_D A w) (hf : w'.map Prod.fst = w.map Prod.fst) : va_D A w' := by
  have key : ∀ (k : Nat) (q : Nat × va_E), w'[k]? = some q → ∃ x, w[k]? = some x ∧ x.1 = q.1 := by
    intro k q hk
    have h1 : (w.map Prod.fst)[k]? = some q.1 := by rw [← hf, List.getElem?_map, hk]; rfl
    rw [List.getElem?_map] at h1
    cases hx : w[k]? with
    | none => rw [hx] at h1; cases h1
    | some x => rw [hx] at h1; exact ⟨x, rfl, Option.some.inj h1⟩
  refine ⟨fun i j p q hi hj he => ?_, fun k q hk => ?_⟩
  · obtain ⟨x, h1, h2⟩ := key i p hi
    obtain ⟨y, h3, h4⟩ := key j q hj
    exact h.1 i j x y h1 h3 (by rw [h2, h4]; exact he)
  · obtain ⟨x, h1, h2⟩ := key k q hk
    rw [← h2]
    exact h.2 k x h1
theorem bv_nodup {A : Nat → Prop} {w : va_W} (h : va_D A w) : (w.map Prod.fst).Nodup := by
  refine List.pairwise_iff_getElem.mpr (fun i j hi hj hij z => ?_)
  have hil : i < w.length := by simpa using hi
  have hjl : j < w.length := by simpa using hj
  rw [List.getElem_map, List.getElem_map] at z
  have z2 : w[i].1 = w[j].1 := z
  have := h.1 i j _ _ (List.getElem?_eq_getElem hil) (List.getElem?_eq_getElem hjl) z2
  omega
theorem va_Run.mono {p : Program} {l : Launch} {e : Env} {R : Room} {s : State} {m : MethodId} {args : Array Value} {below : List Frame} {meth : Method} {c : Code} {H : Heap} {locs : List Loc} {cells slots mc ms : Nat} {g : JFrame} {rest : List Value} {Qa Qb : State → Outcome → State → Prop} {free : Addr → Prop} (h : va_Run p l e R s m args below meth c H locs cells slots mc ms g rest Qa free) (hQ : ∀ st o t, Qa st o t → Qb st o t) : va_Run p l e R s m args below meth c H locs cells slots mc ms g rest Qb free := by
  intro T hT X
  obtain ⟨v, st₀, t, T', L, h0, X', hL, e1, e2, hq, st⟩ := h T hT X
  exact ⟨v, st₀, t, T', L, h0, X', hL, e1, e2, hQ _ _ _ hq, st⟩
section VA2
variable {p : Program} {l : Launch} {e : Env} {R : Room} {s : State} {m : MethodId} {args : Array Value} {below : List Frame} {meth : Method} {c : Code} {H : Heap} {locs : List Loc} {cells slots : Nat} {Q : State → Prop}
theorem bv_go {D : va_G} {cl : List vw_C} {alc : List Nat} {A0 : Nat → Prop} {pc mc ms : Nat} {ls : Array Slot} {st0 rest : List Value} {P : Option Value → va_W → Prop} {a : Array Value} (hr : va_Run p l e R s m args below meth c H locs cells slots mc ms (F0 m pc ls st0) rest (aQ D cl (gA alc H.size) P a) (gA alc H.size)) (hS : va_S A0 s.heap H locs) (hA : ∀ q, gA alc H.size q → A0 q)
    (kk : ∀ (rv : Option Value) (w' : va_W) (H1 : Heap) (locs1 : List Loc), P rv w' → va_P D cl w' H1 → va_D (gA alc H.size) w' → (∀ q : Nat, q < H.size → ¬ gA alc H.size q → H1[q]? = H[q]?) → va_S A0 s.heap H1 locs1 → W p l e R s m args below meth c H1 locs1 (cells + mc) (slots + ms) Q (F0 m (pc + 3) ls (rv.toList ++ rest))) : W p l e R s m args below meth c H locs cells slots Q (F0 m pc ls st0) := by
  intro T hT X
  obtain ⟨v, st₀, t, T', L, h0, X', hL, e1, e2, ⟨⟨rv, w', hv, hp, hw, hd⟩, hz, hk⟩, st⟩ := hr T hT X
  cases hv
  rw [h0] at hz hk
  obtain ⟨t2, a1, b1⟩ := kk _ w' T'.heap (locs ++ L) hp (by rw [e1]; exact hw) hd (fun q h1 h2 => by rw [e1]; exact hk q h1 h2)
    ⟨Nat.le_trans hS.1 (by rw [e1]; exact hz), fun q h1 h2 => by rw [e1, hk q (Nat.lt_of_lt_of_le h1 hS.1) (fun z => h2 (hA q z))]; exact hS.2.1 q h1 h2, fun q hq => by
      rcases List.mem_append.mp hq with h | h
      · exact hS.2.2 q h
      · exact hA _ (hL q h)⟩ T' rfl X'
  exact ⟨t2, st t2 a1, b1⟩
theorem bv_pre {ws : List Cond} {D : va_G} {cl : List vw_C} {tys tysc : List (ClassId × FieldType)} {N N' : (Nat → Prop) → State → Prop} {al alc : List Nat} {w wc wr : va_W} {isC isR : List Nat} (hts : ∀ c ∈ ws, c.before args s = true) (hP : va_P D cl w H) (hD : va_D (gA al s.heap.size) w) (hK : va_K D cl tys s) (hN : N (gA al s.heap.size) s) (hS : va_S (gA al s.heap.size) s.heap H locs) (hcut : Cut w wc wr isC isR) (halc : wc.map Prod.fst = alc) (hKc : ∀ U, va_K D cl tys U → va_K D cl tysc U) (hNt : NTo ws D cl tys N al w N' alc) (U : State) (hU : U.heap = H) (hW : s.WarmedH U.vm) : aPre D cl tysc N' alc H.size wc U := by
  refine ⟨⟨by rw [hU], by rw [hU]; exact bv_P hP isC hcut.1, hKc U (va_K.moved hW.alike hK), ?_⟩, ?_⟩
  · have := hNt args s U locs hts hK hN (by rw [hU]; exact hP) hD (by rw [hU]; exact hS) hW
    rw [hU] at this
    exact this
  · have h1 := hD.sub isC hcut.2.2.1 hcut.1
    exact ⟨h1.1, fun k q hk => (gA_va halc).mpr (va_A.in hk)⟩
theorem bv_join {D : va_G} {cl : List vw_C} {al alc : List Nat} {w wc wr w1 : va_W} {isC isR : List Nat} {H1 : Heap} {H0 : Heap} (hP : va_P D cl w H) (hD : va_D (gA al H0.size) w) (hS : va_S (gA al H0.size) H0 H locs) (hcut : Cut w wc wr isC isR) (halc : wc.map Prod.fst = alc) (hk : ∀ q : Nat, q < H.size → ¬ gA alc H.size q → H1[q]? = H[q]?) (hP1 : va_P D cl w1 H1) (hD1 : va_D (gA alc H.size) w1) : va_P D cl (wr ++ w1) H1 ∧ va_D (gA al H0.size) (wr ++ w1) :=
  va_join hP hD isC isR hcut.1 hcut.2.1 hcut.2.2.2.1 hcut.2.2.2.2 (fun q h1 h2 => hk q h1 (fun z => h2 ((gA_va halc).mp z))) (fun q h => gA_to hD hS isC hcut.1 halc q ((gA_va halc).mpr h)) hP1 (hD1.weaken (fun _ _ _ h => (gA_va halc).mp h))
end VA2
section VV2
variable {X : CX} {cs sl : Nat} {w w' w1 : va_W} {pc : Nat} {lv lv' : List (Nat × Value)} {st stk : List Value} {cc : ByteArray} {nL : Nat} {ret : Option FieldType} {ws : List Cond} {own : String} {rm : Room} {D : va_G} {cl : List vw_C} {tys : List (ClassId × FieldType)} {al : List Nat} {N : (Nat → Prop) → State → Prop}
theorem bv_iconst (C : O2 X cc nL ret ws own rm D cl tys al N) {n : Int} {v : Int32} (hdg : decode cc pc = .ok (.iconst n, 1)) (hv : Int32.ofInt n = v)
    (k : V2 X cs sl w (pc + 1) lv (.int v :: st)) : V2 X cs sl w pc lv st := by
  obtain ⟨p, l, e, R, s, m, args, below, meth, c, D', cl', tys', al', N', nL', Q⟩ := X
  obtain ⟨hx, hb, hml, hown, hts, hr, hlk, rfl, hK, hN, hNK, rfl, rfl, rfl, rfl, rfl, rfl⟩ := C
  intro H locs ls hP hD hS hl
  exact lv_iconst hx hb hdg hv (k H locs ls hP hD hS hl)
theorem bv_bipush (C : O2 X cc nL ret ws own rm D cl tys al N) {n : Int} {v : Int32} (hdg : decode cc pc = .ok (.bipush n, 2)) (hv : (Int8.ofInt n).toInt32 = v)
    (k : V2 X cs sl w (pc + 2) lv (.int v :: st)) : V2 X cs sl w pc lv st := by
  obtain ⟨p, l, e, R, s, m, args, below, meth, c, D', cl', tys', al', N', nL', Q⟩ := X
  obtain ⟨hx, hb, hml, hown, hts, hr, hlk, rfl, hK, hN, hNK, rfl, rfl, rfl, rfl, rfl, rfl⟩ := C
  intro H locs ls hP hD hS hl
  exact lv_bipush hx hb hdg hv (k H locs ls hP hD hS hl)
theorem bv_sipush (C : O2 X cc nL ret ws own rm D cl tys al N) {n : Int} {v : Int32} (hdg : decode cc pc = .ok (.sipush n, 3)) (hv : (Int16.ofInt n).toInt32 = v)
    (k : V2 X cs sl w (pc + 3) lv (.int v :: st)) : V2 X cs sl w pc lv st := by
  obtain ⟨p, l, e, R, s, m, args, below, meth, c, D', cl', tys', al', N', nL', Q⟩ := X
  obtain ⟨hx, hb, hml, hown, hts, hr, hlk, rfl, hK, hN, hNK, rfl, rfl, rfl, rfl, rfl, rfl⟩ := C
  intro H locs ls hP hD hS hl
  exact lv_sipush hx hb hdg hv (k H locs ls hP hD hS hl)
theorem bv_lconst (C : O2 X cc nL ret ws own rm D cl tys al N) {n : Fin 2} {v : Int64} (hdg : decode cc pc = .ok (.lconst n, 1)) (hv : Int64.ofNat (n : Nat) = v)
    (k : V2 X cs sl w (pc + 1) lv (.long v :: st)) : V2 X cs sl w pc lv st := by
  obtain ⟨p, l, e, R, s, m, args, below, meth, c, D', cl', tys', al', N', nL', Q⟩ := X
  obtain ⟨hx, hb, hml, hown, hts, hr, hlk, rfl, hK, hN, hNK, rfl, rfl, rfl, rfl, rfl, rfl⟩ := C
  intro H locs ls hP hD hS hl
  exact lv_lconst hx hb hdg hv (k H locs ls hP hD hS hl)
theorem bv_ldc (C : O2 X cc nL ret ws own rm D cl tys al N) {index : Nat} {v : Int32} (hc : Jvm.Cond.constant own index v ∈ ws) (hdg : decode cc pc = .ok (.ldc index, 2))
    (k : V2 X cs sl w (pc + 2) lv (.int v :: st)) : V2 X cs sl w pc lv st := by
  obtain ⟨p, l, e, R, s, m, args, below, meth, c, D', cl', tys', al', N', nL', Q⟩ := X
  obtain ⟨hx, hb, hml, hown, hts, hr, hlk, rfl, hK, hN, hNK, rfl, rfl, rfl, rfl, rfl, rfl⟩ := C
  intro H locs ls hP hD hS hl
  exact lv_ldc hx hb hown (hts _ hc) hdg (k H locs ls hP hD hS hl)
theorem bv_ldcw (C : O2 X cc nL ret ws own rm D cl tys al N) {index : Nat} {v : Int32} (hc : Jvm.Cond.constant own index v ∈ ws) (hdg : decode cc pc = .ok (.ldc_w index, 3))
    (k : V2 X cs sl w (pc + 3) lv (.int v :: st)) : V2 X cs sl w pc lv st := by
  obtain ⟨p, l, e, R, s, m, args, below, meth, c, D', cl', tys', al', N', nL', Q⟩ := X
  obtain ⟨hx, hb, hml, hown, hts, hr, hlk, rfl, hK, hN, hNK, rfl, rfl, rfl, rfl, rfl, rfl⟩ := C
  intro H locs ls hP hD hS hl
  exact lv_ldcw hx hb hown (hts _ hc) hdg (k H locs ls hP hD hS hl)
theorem bv_ldc2 (C : O2 X cc nL ret ws own rm D cl tys al N) {index : Nat} {v : Int64} (hc : Jvm.Cond.constantLong own index v ∈ ws) (hdg : decode cc pc = .ok (.ldc2_w index, 3))
    (k : V2 X cs sl w (pc + 3) lv (.long v :: st)) : V2 X cs sl w pc lv st := by
  obtain ⟨p, l, e, R, s, m, args, below, meth, c, D', cl', tys', al', N', nL', Q⟩ := X
  obtain ⟨hx, hb, hml, hown, hts, hr, hlk, rfl, hK, hN, hNK, rfl, rfl, rfl, rfl, rfl, rfl⟩ := C
  intro H locs ls hP hD hS hl
  exact lv_ldc2 hx hb hown (hts _ hc) hdg (k H locs ls hP hD hS hl)
theorem bv_iload_n (C : O2 X cc nL ret ws own rm D cl tys al N) {kk : Fin 4} {x : Int32} (j : Nat) (hdg : decode cc pc = .ok (.iload_n kk, 1)) (hk : lv[j]? = some ((kk : Nat), .int x))
    (k : V2 X cs sl w (pc + 1) lv (.int x :: st)) : V2 X cs sl w pc lv st := by
  obtain ⟨p, l, e, R, s, m, args, below, meth, c, D', cl', tys', al', N', nL', Q⟩ := X
  obtain ⟨hx, hb, hml, hown, hts, hr, hlk, rfl, hK, hN, hNK, rfl, rfl, rfl, rfl, rfl, rfl⟩ := C
  intro H locs ls hP hD hS hl
  exact lv_iload_n hx hb hdg rfl (lv_at hl j hk) (k H locs ls hP hD hS hl)
theorem bv_iload (C : O2 X cc nL ret ws own rm D cl tys al N) {i : Nat} {x : Int32} (j : Nat) (hdg : decode cc pc = .ok (.iload i, 2)) (hk : lv[j]? = some (i, .int x))
    (k : V2 X cs sl w (pc + 2) lv (.int x :: st)) : V2 X cs sl w pc lv st := by
  obtain ⟨p, l, e, R, s, m, args, below, meth, c, D', cl', tys', al', N', nL', Q⟩ := X
  obtain ⟨hx, hb, hml, hown, hts, hr, hlk, rfl, hK, hN, hNK, rfl, rfl, rfl, rfl, rfl, rfl⟩ := C
  intro H locs ls hP hD hS hl
  exact lv_iload hx hb hdg (lv_at hl j hk) (k H locs ls hP hD hS hl)
theorem bv_istore_n (C : O2 X cc nL ret ws own rm D cl tys al N) {kk : Fin 4} {i : Nat} {x : Int32} (hdg : decode cc pc = .ok (.istore_n kk, 1)) (hi : (kk : Nat) = i) (hn : i < nL) (hl9 : (i, Value.int x) :: lv.filter (fun q => !(q.1 == i) && !(q.1 + 1 == i && q.2.category == 2)) = lv')
    (k : V2 X cs sl w (pc + 1) lv' st) : V2 X cs sl w pc lv (.int x :: st) := by
  obtain ⟨p, l, e, R, s, m, args, below, meth, c, D', cl', tys', al', N', nL', Q⟩ := X
  obtain ⟨hx, hb, hml, hown, hts, hr, hlk, rfl, hK, hN, hNK, rfl, rfl, rfl, rfl, rfl, rfl⟩ := C
  intro H locs ls hP hD hS hl
  exact lv_istore_n hx hb hdg hi hl hn hl9 (fun ls hl => k H locs ls hP hD hS hl)
theorem bv_istore (C : O2 X cc nL ret ws own rm D cl tys al N) {i : Nat} {x : Int32} (hdg : decode cc pc = .ok (.istore i, 2)) (hn : i < nL) (hl9 : (i, Value.int x) :: lv.filter (fun q => !(q.1 == i) && !(q.1 + 1 == i && q.2.category == 2)) = lv')
    (k : V2 X cs sl w (pc + 2) lv' st) : V2 X cs sl w pc lv (.int x :: st) := by
  obtain ⟨p, l, e, R, s, m, args, below, meth, c, D', cl', tys', al', N', nL', Q⟩ := X
  obtain ⟨hx, hb, hml, hown, hts, hr, hlk, rfl, hK, hN, hNK, rfl, rfl, rfl, rfl, rfl, rfl⟩ := C
  intro H locs ls hP hD hS hl
  exact lv_istore hx hb hdg hl hn hl9 (fun ls hl => k H locs ls hP hD hS hl)
theorem bv_lload_n (C : O2 X cc nL ret ws own rm D cl tys al N) {kk : Fin 4} {x : Int64} (j : Nat) (hdg : decode cc pc = .ok (.lload_n kk, 1)) (hk : lv[j]? = some ((kk : Nat), .long x))
    (k : V2 X cs sl w (pc + 1) lv (.long x :: st)) : V2 X cs sl w pc lv st := by
  obtain ⟨p, l, e, R, s, m, args, below, meth, c, D', cl', tys', al', N', nL', Q⟩ := X
  obtain ⟨hx, hb, hml, hown, hts, hr, hlk, rfl, hK, hN, hNK, rfl, rfl, rfl, rfl, rfl, rfl⟩ := C
  intro H locs ls hP hD hS hl
  exact lv_lload_n hx hb hdg rfl (lv_at hl j hk) (k H locs ls hP hD hS hl)
theorem bv_lload (C : O2 X cc nL ret ws own rm D cl tys al N) {i : Nat} {x : Int64} (j : Nat) (hdg : decode cc pc = .ok (.lload i, 2)) (hk : lv[j]? = some (i, .long x))
    (k : V2 X cs sl w (pc + 2) lv (.long x :: st)) : V2 X cs sl w pc lv st := by
  obtain ⟨p, l, e, R, s, m, args, below, meth, c, D', cl', tys', al', N', nL', Q⟩ := X
  obtain ⟨hx, hb, hml, hown, hts, hr, hlk, rfl, hK, hN, hNK, rfl, rfl, rfl, rfl, rfl, rfl⟩ := C
  intro H locs ls hP hD hS hl
  exact lv_lload hx hb hdg (lv_at hl j hk) (k H locs ls hP hD hS hl)
theorem bv_lstore_n (C : O2 X cc nL ret ws own rm D cl tys al N) {kk : Fin 4} {i : Nat} {x : Int64} (hdg : decode cc pc = .ok (.lstore_n kk, 1)) (hi : (kk : Nat) = i) (hn : i + 1 < nL) (hl9 : (i, Value.long x) :: lv.filter (fun q => !(q.1 == i) && (!(q.1 == i + 1) && !(q.1 + 1 == i && q.2.category == 2))) = lv')
    (k : V2 X cs sl w (pc + 1) lv' st) : V2 X cs sl w pc lv (.long x :: st) := by
  obtain ⟨p, l, e, R, s, m, args, below, meth, c, D', cl', tys', al', N', nL', Q⟩ := X
  obtain ⟨hx, hb, hml, hown, hts, hr, hlk, rfl, hK, hN, hNK, rfl, rfl, rfl, rfl, rfl, rfl⟩ := C
  intro H locs ls hP hD hS hl
  exact lv_lstore_n hx hb hdg hi hl hn hl9 (fun ls hl => k H locs ls hP hD hS hl)
theorem bv_lstore (C : O2 X cc nL ret ws own rm D cl tys al N) {i : Nat} {x : Int64} (hdg : decode cc pc = .ok (.lstore i, 2)) (hn : i + 1 < nL) (hl9 : (i, Value.long x) :: lv.filter (fun q => !(q.1 == i) && (!(q.1 == i + 1) && !(q.1 + 1 == i && q.2.category == 2))) = lv')
    (k : V2 X cs sl w (pc + 2) lv' st) : V2 X cs sl w pc lv (.long x :: st) := by
  obtain ⟨p, l, e, R, s, m, args, below, meth, c, D', cl', tys', al', N', nL', Q⟩ := X
  obtain ⟨hx, hb, hml, hown, hts, hr, hlk, rfl, hK, hN, hNK, rfl, rfl, rfl, rfl, rfl, rfl⟩ := C
  intro H locs ls hP hD hS hl
  exact lv_lstore hx hb hdg hl hn hl9 (fun ls hl => k H locs ls hP hD hS hl)
theorem bv_aload_n (C : O2 X cc nL ret ws own rm D cl tys al N) {kk : Fin 4} {x : Nat} (j : Nat) (hdg : decode cc pc = .ok (.aload_n kk, 1)) (hk : lv[j]? = some ((kk : Nat), .ref x))
    (k : V2 X cs sl w (pc + 1) lv (.ref x :: st)) : V2 X cs sl w pc lv st := by
  obtain ⟨p, l, e, R, s, m, args, below, meth, c, D', cl', tys', al', N', nL', Q⟩ := X
  obtain ⟨hx, hb, hml, hown, hts, hr, hlk, rfl, hK, hN, hNK, rfl, rfl, rfl, rfl, rfl, rfl⟩ := C
  intro H locs ls hP hD hS hl
  exact lv_aload_n hx hb hdg rfl (lv_at hl j hk) (k H locs ls hP hD hS hl)
theorem bv_aload (C : O2 X cc nL ret ws own rm D cl tys al N) {i : Nat} {x : Nat} (j : Nat) (hdg : decode cc pc = .ok (.aload i, 2)) (hk : lv[j]? = some (i, .ref x))
    (k : V2 X cs sl w (pc + 2) lv (.ref x :: st)) : V2 X cs sl w pc lv st := by
  obtain ⟨p, l, e, R, s, m, args, below, meth, c, D', cl', tys', al', N', nL', Q⟩ := X
  obtain ⟨hx, hb, hml, hown, hts, hr, hlk, rfl, hK, hN, hNK, rfl, rfl, rfl, rfl, rfl, rfl⟩ := C
  intro H locs ls hP hD hS hl
  exact lv_aload hx hb hdg (lv_at hl j hk) (k H locs ls hP hD hS hl)
theorem bv_astore_n (C : O2 X cc nL ret ws own rm D cl tys al N) {kk : Fin 4} {i : Nat} {x : Nat} (hdg : decode cc pc = .ok (.astore_n kk, 1)) (hi : (kk : Nat) = i) (hn : i < nL) (hl9 : (i, Value.ref x) :: lv.filter (fun q => !(q.1 == i) && !(q.1 + 1 == i && q.2.category == 2)) = lv')
    (k : V2 X cs sl w (pc + 1) lv' st) : V2 X cs sl w pc lv (.ref x :: st) := by
  obtain ⟨p, l, e, R, s, m, args, below, meth, c, D', cl', tys', al', N', nL', Q⟩ := X
  obtain ⟨hx, hb, hml, hown, hts, hr, hlk, rfl, hK, hN, hNK, rfl, rfl, rfl, rfl, rfl, rfl⟩ := C
  intro H locs ls hP hD hS hl
  exact lv_astore_n hx hb hdg hi hl hn hl9 (fun ls hl => k H locs ls hP hD hS hl)
theorem bv_astore (C : O2 X cc nL ret ws own rm D cl tys al N) {i : Nat} {x : Nat} (hdg : decode cc pc = .ok (.astore i, 2)) (hn : i < nL) (hl9 : (i, Value.ref x) :: lv.filter (fun q => !(q.1 == i) && !(q.1 + 1 == i && q.2.category == 2)) = lv')
    (k : V2 X cs sl w (pc + 2) lv' st) : V2 X cs sl w pc lv (.ref x :: st) := by
  obtain ⟨p, l, e, R, s, m, args, below, meth, c, D', cl', tys', al', N', nL', Q⟩ := X
  obtain ⟨hx, hb, hml, hown, hts, hr, hlk, rfl, hK, hN, hNK, rfl, rfl, rfl, rfl, rfl, rfl⟩ := C
  intro H locs ls hP hD hS hl
  exact lv_astore hx hb hdg hl hn hl9 (fun ls hl => k H locs ls hP hD hS hl)
theorem bv_iinc (C : O2 X cc nL ret ws own rm D cl tys al N) {i : Nat} {n : Int} {x v : Int32} (j : Nat) (hdg : decode cc pc = .ok (.iinc i n, 3)) (hk : lv[j]? = some (i, .int x)) (hv : x + Int32.ofInt n = v) (hn : i < nL) (hl9 : (i, Value.int v) :: lv.filter (fun q => !(q.1 == i) && !(q.1 + 1 == i && q.2.category == 2)) = lv')
    (k : V2 X cs sl w (pc + 3) lv' st) : V2 X cs sl w pc lv st := by
  obtain ⟨p, l, e, R, s, m, args, below, meth, c, D', cl', tys', al', N', nL', Q⟩ := X
  obtain ⟨hx, hb, hml, hown, hts, hr, hlk, rfl, hK, hN, hNK, rfl, rfl, rfl, rfl, rfl, rfl⟩ := C
  intro H locs ls hP hD hS hl
  exact lv_iinc (k := j) hx hb hdg hl hk hv hn hl9 (fun ls hl => k H locs ls hP hD hS hl)
theorem bv_iadd (C : O2 X cc nL ret ws own rm D cl tys al N) {x y v : Int32} (hdg : decode cc pc = .ok (.iadd, 1)) (hv : x + y = v)
    (k : V2 X cs sl w (pc + 1) lv (.int v :: st)) : V2 X cs sl w pc lv (.int y :: .int x :: st) := by
  subst hv
  obtain ⟨p, l, e, R, s, m, args, below, meth, c, D', cl', tys', al', N', nL', Q⟩ := X
  obtain ⟨hx, hb, hml, hown, hts, hr, hlk, rfl, hK, hN, hNK, rfl, rfl, rfl, rfl, rfl, rfl⟩ := C
  intro H locs ls hP hD hS hl
  exact lv_iadd hx hb hdg (k H locs ls hP hD hS hl)
theorem bv_isub (C : O2 X cc nL ret ws own rm D cl tys al N) {x y v : Int32} (hdg : decode cc pc = .ok (.isub, 1)) (hv : x - y = v)
    (k : V2 X cs sl w (pc + 1) lv (.int v :: st)) : V2 X cs sl w pc lv (.int y :: .int x :: st) := by
  subst hv
  obtain ⟨p, l, e, R, s, m, args, below, meth, c, D', cl', tys', al', N', nL', Q⟩ := X
  obtain ⟨hx, hb, hml, hown, hts, hr, hlk, rfl, hK, hN, hNK, rfl, rfl, rfl, rfl, rfl, rfl⟩ := C
  intro H locs ls hP hD hS hl
  exact lv_isub hx hb hdg (k H locs ls hP hD hS hl)
theorem bv_imul (C : O2 X cc nL ret ws own rm D cl tys al N) {x y v : Int32} (hdg : decode cc pc = .ok (.imul, 1)) (hv : x * y = v)
    (k : V2 X cs sl w (pc + 1) lv (.int v :: st)) : V2 X cs sl w pc lv (.int y :: .int x :: st) := by
  subst hv
  obtain ⟨p, l, e, R, s, m, args, below, meth, c, D', cl', tys', al', N', nL', Q⟩ := X
  obtain ⟨hx, hb, hml, hown, hts, hr, hlk, rfl, hK, hN, hNK, rfl, rfl, rfl, rfl, rfl, rfl⟩ := C
  intro H locs ls hP hD hS hl
  exact lv_imul hx hb hdg (k H locs ls hP hD hS hl)
theorem bv_iand (C : O2 X cc nL ret ws own rm D cl tys al N) {x y v : Int32} (hdg : decode cc pc = .ok (.iand, 1)) (hv : x &&& y = v)
    (k : V2 X cs sl w (pc + 1) lv (.int v :: st)) : V2 X cs sl w pc lv (.int y :: .int x :: st) := by
  subst hv
  obtain ⟨p, l, e, R, s, m, args, below, meth, c, D', cl', tys', al', N', nL', Q⟩ := X
  obtain ⟨hx, hb, hml, hown, hts, hr, hlk, rfl, hK, hN, hNK, rfl, rfl, rfl, rfl, rfl, rfl⟩ := C
  intro H locs ls hP hD hS hl
  exact lv_iand hx hb hdg (k H locs ls hP hD hS hl)
theorem bv_ior (C : O2 X cc nL ret ws own rm D cl tys al N) {x y v : Int32} (hdg : decode cc pc = .ok (.ior, 1)) (hv : x ||| y = v)
    (k : V2 X cs sl w (pc + 1) lv (.int v :: st)) : V2 X cs sl w pc lv (.int y :: .int x :: st) := by
  subst hv
  obtain ⟨p, l, e, R, s, m, args, below, meth, c, D', cl', tys', al', N', nL', Q⟩ := X
  obtain ⟨hx, hb, hml, hown, hts, hr, hlk, rfl, hK, hN, hNK, rfl, rfl, rfl, rfl, rfl, rfl⟩ := C
  intro H locs ls hP hD hS hl
  exact lv_ior hx hb hdg (k H locs ls hP hD hS hl)
theorem bv_ishl (C : O2 X cc nL ret ws own rm D cl tys al N) {x y v : Int32} (hdg : decode cc pc = .ok (.ishl, 1)) (hv : x <<< (y &&& 31) = v)
    (k : V2 X cs sl w (pc + 1) lv (.int v :: st)) : V2 X cs sl w pc lv (.int y :: .int x :: st) := by
  subst hv
  obtain ⟨p, l, e, R, s, m, args, below, meth, c, D', cl', tys', al', N', nL', Q⟩ := X
  obtain ⟨hx, hb, hml, hown, hts, hr, hlk, rfl, hK, hN, hNK, rfl, rfl, rfl, rfl, rfl, rfl⟩ := C
  intro H locs ls hP hD hS hl
  exact lv_ishl hx hb hdg (k H locs ls hP hD hS hl)
theorem bv_ishr (C : O2 X cc nL ret ws own rm D cl tys al N) {x y v : Int32} (hdg : decode cc pc = .ok (.ishr, 1)) (hv : x >>> (y &&& 31) = v)
    (k : V2 X cs sl w (pc + 1) lv (.int v :: st)) : V2 X cs sl w pc lv (.int y :: .int x :: st) := by
  subst hv
  obtain ⟨p, l, e, R, s, m, args, below, meth, c, D', cl', tys', al', N', nL', Q⟩ := X
  obtain ⟨hx, hb, hml, hown, hts, hr, hlk, rfl, hK, hN, hNK, rfl, rfl, rfl, rfl, rfl, rfl⟩ := C
  intro H locs ls hP hD hS hl
  exact lv_ishr hx hb hdg (k H locs ls hP hD hS hl)
theorem bv_ladd (C : O2 X cc nL ret ws own rm D cl tys al N) {x y v : Int64} (hdg : decode cc pc = .ok (.ladd, 1)) (hv : x + y = v)
    (k : V2 X cs sl w (pc + 1) lv (.long v :: st)) : V2 X cs sl w pc lv (.long y :: .long x :: st) := by
  subst hv
  obtain ⟨p, l, e, R, s, m, args, below, meth, c, D', cl', tys', al', N', nL', Q⟩ := X
  obtain ⟨hx, hb, hml, hown, hts, hr, hlk, rfl, hK, hN, hNK, rfl, rfl, rfl, rfl, rfl, rfl⟩ := C
  intro H locs ls hP hD hS hl
  exact lv_ladd hx hb hdg (k H locs ls hP hD hS hl)
theorem bv_lsub (C : O2 X cc nL ret ws own rm D cl tys al N) {x y v : Int64} (hdg : decode cc pc = .ok (.lsub, 1)) (hv : x - y = v)
    (k : V2 X cs sl w (pc + 1) lv (.long v :: st)) : V2 X cs sl w pc lv (.long y :: .long x :: st) := by
  subst hv
  obtain ⟨p, l, e, R, s, m, args, below, meth, c, D', cl', tys', al', N', nL', Q⟩ := X
  obtain ⟨hx, hb, hml, hown, hts, hr, hlk, rfl, hK, hN, hNK, rfl, rfl, rfl, rfl, rfl, rfl⟩ := C
  intro H locs ls hP hD hS hl
  exact lv_lsub hx hb hdg (k H locs ls hP hD hS hl)
theorem bv_lmul (C : O2 X cc nL ret ws own rm D cl tys al N) {x y v : Int64} (hdg : decode cc pc = .ok (.lmul, 1)) (hv : x * y = v)
    (k : V2 X cs sl w (pc + 1) lv (.long v :: st)) : V2 X cs sl w pc lv (.long y :: .long x :: st) := by
  subst hv
  obtain ⟨p, l, e, R, s, m, args, below, meth, c, D', cl', tys', al', N', nL', Q⟩ := X
  obtain ⟨hx, hb, hml, hown, hts, hr, hlk, rfl, hK, hN, hNK, rfl, rfl, rfl, rfl, rfl, rfl⟩ := C
  intro H locs ls hP hD hS hl
  exact lv_lmul hx hb hdg (k H locs ls hP hD hS hl)
theorem bv_i2l (C : O2 X cc nL ret ws own rm D cl tys al N) {x : Int32} {v : Int64} (hdg : decode cc pc = .ok (.i2l, 1)) (hv : x.toInt64 = v)
    (k : V2 X cs sl w (pc + 1) lv (.long v :: st)) : V2 X cs sl w pc lv (.int x :: st) := by
  subst hv
  obtain ⟨p, l, e, R, s, m, args, below, meth, c, D', cl', tys', al', N', nL', Q⟩ := X
  obtain ⟨hx, hb, hml, hown, hts, hr, hlk, rfl, hK, hN, hNK, rfl, rfl, rfl, rfl, rfl, rfl⟩ := C
  intro H locs ls hP hD hS hl
  exact lv_i2l hx hb hdg rfl (k H locs ls hP hD hS hl)
theorem bv_l2i (C : O2 X cc nL ret ws own rm D cl tys al N) {x : Int64} {v : Int32} (hdg : decode cc pc = .ok (.l2i, 1)) (hv : x.toInt32 = v)
    (k : V2 X cs sl w (pc + 1) lv (.int v :: st)) : V2 X cs sl w pc lv (.long x :: st) := by
  subst hv
  obtain ⟨p, l, e, R, s, m, args, below, meth, c, D', cl', tys', al', N', nL', Q⟩ := X
  obtain ⟨hx, hb, hml, hown, hts, hr, hlk, rfl, hK, hN, hNK, rfl, rfl, rfl, rfl, rfl, rfl⟩ := C
  intro H locs ls hP hD hS hl
  exact lv_l2i hx hb hdg rfl (k H locs ls hP hD hS hl)
theorem bv_i2b (C : O2 X cc nL ret ws own rm D cl tys al N) {x : Int32} {v : Int32} (hdg : decode cc pc = .ok (.i2b, 1)) (hv : x.toInt8.toInt32 = v)
    (k : V2 X cs sl w (pc + 1) lv (.int v :: st)) : V2 X cs sl w pc lv (.int x :: st) := by
  subst hv
  obtain ⟨p, l, e, R, s, m, args, below, meth, c, D', cl', tys', al', N', nL', Q⟩ := X
  obtain ⟨hx, hb, hml, hown, hts, hr, hlk, rfl, hK, hN, hNK, rfl, rfl, rfl, rfl, rfl, rfl⟩ := C
  intro H locs ls hP hD hS hl
  exact lv_i2b hx hb hdg rfl (k H locs ls hP hD hS hl)
theorem bv_i2c (C : O2 X cc nL ret ws own rm D cl tys al N) {x : Int32} {v : Int32} (hdg : decode cc pc = .ok (.i2c, 1)) (hv : (x.toUInt32 % 65536).toInt32 = v)
    (k : V2 X cs sl w (pc + 1) lv (.int v :: st)) : V2 X cs sl w pc lv (.int x :: st) := by
  subst hv
  obtain ⟨p, l, e, R, s, m, args, below, meth, c, D', cl', tys', al', N', nL', Q⟩ := X
  obtain ⟨hx, hb, hml, hown, hts, hr, hlk, rfl, hK, hN, hNK, rfl, rfl, rfl, rfl, rfl, rfl⟩ := C
  intro H locs ls hP hD hS hl
  exact lv_i2c hx hb hdg rfl (k H locs ls hP hD hS hl)
theorem bv_dup (C : O2 X cc nL ret ws own rm D cl tys al N) {v : Value} (hdg : decode cc pc = .ok (.dup, 1)) (hc : v.category = 1)
    (k : V2 X cs sl w (pc + 1) lv (v :: v :: st)) : V2 X cs sl w pc lv (v :: st) := by
  obtain ⟨p, l, e, R, s, m, args, below, meth, c, D', cl', tys', al', N', nL', Q⟩ := X
  obtain ⟨hx, hb, hml, hown, hts, hr, hlk, rfl, hK, hN, hNK, rfl, rfl, rfl, rfl, rfl, rfl⟩ := C
  intro H locs ls hP hD hS hl
  exact lv_dup hx hb hdg hc (k H locs ls hP hD hS hl)
theorem bv_pop (C : O2 X cc nL ret ws own rm D cl tys al N) {v : Value} (hdg : decode cc pc = .ok (.pop, 1)) (hc : v.category = 1)
    (k : V2 X cs sl w (pc + 1) lv st) : V2 X cs sl w pc lv (v :: st) := by
  obtain ⟨p, l, e, R, s, m, args, below, meth, c, D', cl', tys', al', N', nL', Q⟩ := X
  obtain ⟨hx, hb, hml, hown, hts, hr, hlk, rfl, hK, hN, hNK, rfl, rfl, rfl, rfl, rfl, rfl⟩ := C
  intro H locs ls hP hD hS hl
  exact lv_pop hx hb hdg hc (k H locs ls hP hD hS hl)
theorem bv_goto (C : O2 X cc nL ret ws own rm D cl tys al N) {off : Int} {tgt : Nat} (hdg : decode cc pc = .ok (.goto off, 3)) (ht : (pc : Int) + off = (tgt : Int))
    (k : V2 X cs sl w tgt lv st) : V2 X cs sl w pc lv st := by
  obtain ⟨p, l, e, R, s, m, args, below, meth, c, D', cl', tys', al', N', nL', Q⟩ := X
  obtain ⟨hx, hb, hml, hown, hts, hr, hlk, rfl, hK, hN, hNK, rfl, rfl, rfl, rfl, rfl, rfl⟩ := C
  intro H locs ls hP hD hS hl
  exact lv_goto hx hb hdg ht (k H locs ls hP hD hS hl)
theorem bv_icmp_eq_t (C : O2 X cc nL ret ws own rm D cl tys al N) {x y : Int32} {off : Int} {tgt : Nat} (hdg : decode cc pc = .ok (.if_icmp .eq off, 3)) (ht : (pc : Int) + off = (tgt : Int)) (h9 : x = y)
    (k : V2 X cs sl w tgt lv st) : V2 X cs sl w pc lv (.int y :: .int x :: st) := by
  obtain ⟨p, l, e, R, s, m, args, below, meth, c, D', cl', tys', al', N', nL', Q⟩ := X
  obtain ⟨hx, hb, hml, hown, hts, hr, hlk, rfl, hK, hN, hNK, rfl, rfl, rfl, rfl, rfl, rfl⟩ := C
  intro H locs ls hP hD hS hl
  exact lv_icmp_eq hx hb hdg ht (fun _ => k H locs ls hP hD hS hl) (fun z => absurd h9 z)
theorem bv_icmp_eq_f (C : O2 X cc nL ret ws own rm D cl tys al N) {x y : Int32} {off : Int} (tgt : Nat) (hdg : decode cc pc = .ok (.if_icmp .eq off, 3)) (ht : (pc : Int) + off = (tgt : Int)) (h9 : ¬ x = y)
    (k : V2 X cs sl w (pc + 3) lv st) : V2 X cs sl w pc lv (.int y :: .int x :: st) := by
  obtain ⟨p, l, e, R, s, m, args, below, meth, c, D', cl', tys', al', N', nL', Q⟩ := X
  obtain ⟨hx, hb, hml, hown, hts, hr, hlk, rfl, hK, hN, hNK, rfl, rfl, rfl, rfl, rfl, rfl⟩ := C
  intro H locs ls hP hD hS hl
  exact lv_icmp_eq hx hb hdg ht (fun z => absurd z h9) (fun _ => k H locs ls hP hD hS hl)
theorem bv_if_eq_t (C : O2 X cc nL ret ws own rm D cl tys al N) {x : Int32} {off : Int} {tgt : Nat} (hdg : decode cc pc = .ok (.ifCond .eq off, 3)) (ht : (pc : Int) + off = (tgt : Int)) (h9 : x = 0)
    (k : V2 X cs sl w tgt lv st) : V2 X cs sl w pc lv (.int x :: st) := by
  obtain ⟨p, l, e, R, s, m, args, below, meth, c, D', cl', tys', al', N', nL', Q⟩ := X
  obtain ⟨hx, hb, hml, hown, hts, hr, hlk, rfl, hK, hN, hNK, rfl, rfl, rfl, rfl, rfl, rfl⟩ := C
  intro H locs ls hP hD hS hl
  exact lv_if_eq hx hb hdg ht (fun _ => k H locs ls hP hD hS hl) (fun z => absurd h9 z)
theorem bv_if_eq_f (C : O2 X cc nL ret ws own rm D cl tys al N) {x : Int32} {off : Int} (tgt : Nat) (hdg : decode cc pc = .ok (.ifCond .eq off, 3)) (ht : (pc : Int) + off = (tgt : Int)) (h9 : ¬ x = 0)
    (k : V2 X cs sl w (pc + 3) lv st) : V2 X cs sl w pc lv (.int x :: st) := by
  obtain ⟨p, l, e, R, s, m, args, below, meth, c, D', cl', tys', al', N', nL', Q⟩ := X
  obtain ⟨hx, hb, hml, hown, hts, hr, hlk, rfl, hK, hN, hNK, rfl, rfl, rfl, rfl, rfl, rfl⟩ := C
  intro H locs ls hP hD hS hl
  exact lv_if_eq hx hb hdg ht (fun z => absurd z h9) (fun _ => k H locs ls hP hD hS hl)
theorem bv_icmp_ne_t (C : O2 X cc nL ret ws own rm D cl tys al N) {x y : Int32} {off : Int} {tgt : Nat} (hdg : decode cc pc = .ok (.if_icmp .ne off, 3)) (ht : (pc : Int) + off = (tgt : Int)) (h9 : x ≠ y)
    (k : V2 X cs sl w tgt lv st) : V2 X cs sl w pc lv (.int y :: .int x :: st) := by
  obtain ⟨p, l, e, R, s, m, args, below, meth, c, D', cl', tys', al', N', nL', Q⟩ := X
  obtain ⟨hx, hb, hml, hown, hts, hr, hlk, rfl, hK, hN, hNK, rfl, rfl, rfl, rfl, rfl, rfl⟩ := C
  intro H locs ls hP hD hS hl
  exact lv_icmp_ne hx hb hdg ht (fun _ => k H locs ls hP hD hS hl) (fun z => absurd z h9)
theorem bv_icmp_ne_f (C : O2 X cc nL ret ws own rm D cl tys al N) {x y : Int32} {off : Int} (tgt : Nat) (hdg : decode cc pc = .ok (.if_icmp .ne off, 3)) (ht : (pc : Int) + off = (tgt : Int)) (h9 : x = y)
    (k : V2 X cs sl w (pc + 3) lv st) : V2 X cs sl w pc lv (.int y :: .int x :: st) := by
  obtain ⟨p, l, e, R, s, m, args, below, meth, c, D', cl', tys', al', N', nL', Q⟩ := X
  obtain ⟨hx, hb, hml, hown, hts, hr, hlk, rfl, hK, hN, hNK, rfl, rfl, rfl, rfl, rfl, rfl⟩ := C
  intro H locs ls hP hD hS hl
  exact lv_icmp_ne hx hb hdg ht (fun z => absurd h9 z) (fun _ => k H locs ls hP hD hS hl)
theorem bv_if_ne_t (C : O2 X cc nL ret ws own rm D cl tys al N) {x : Int32} {off : Int} {tgt : Nat} (hdg : decode cc pc = .ok (.ifCond .ne off, 3)) (ht : (pc : Int) + off = (tgt : Int)) (h9 : x ≠ 0)
    (k : V2 X cs sl w tgt lv st) : V2 X cs sl w pc lv (.int x :: st) := by
  obtain ⟨p, l, e, R, s, m, args, below, meth, c, D', cl', tys', al', N', nL', Q⟩ := X
  obtain ⟨hx, hb, hml, hown, hts, hr, hlk, rfl, hK, hN, hNK, rfl, rfl, rfl, rfl, rfl, rfl⟩ := C
  intro H locs ls hP hD hS hl
  exact lv_if_ne hx hb hdg ht (fun _ => k H locs ls hP hD hS hl) (fun z => absurd z h9)
theorem bv_if_ne_f (C : O2 X cc nL ret ws own rm D cl tys al N) {x : Int32} {off : Int} (tgt : Nat) (hdg : decode cc pc = .ok (.ifCond .ne off, 3)) (ht : (pc : Int) + off = (tgt : Int)) (h9 : x = 0)
    (k : V2 X cs sl w (pc + 3) lv st) : V2 X cs sl w pc lv (.int x :: st) := by
  obtain ⟨p, l, e, R, s, m, args, below, meth, c, D', cl', tys', al', N', nL', Q⟩ := X
  obtain ⟨hx, hb, hml, hown, hts, hr, hlk, rfl, hK, hN, hNK, rfl, rfl, rfl, rfl, rfl, rfl⟩ := C
  intro H locs ls hP hD hS hl
  exact lv_if_ne hx hb hdg ht (fun z => absurd h9 z) (fun _ => k H locs ls hP hD hS hl)
theorem bv_icmp_lt_t (C : O2 X cc nL ret ws own rm D cl tys al N) {x y : Int32} {off : Int} {tgt : Nat} (hdg : decode cc pc = .ok (.if_icmp .lt off, 3)) (ht : (pc : Int) + off = (tgt : Int)) (h9 : x < y)
    (k : V2 X cs sl w tgt lv st) : V2 X cs sl w pc lv (.int y :: .int x :: st) := by
  obtain ⟨p, l, e, R, s, m, args, below, meth, c, D', cl', tys', al', N', nL', Q⟩ := X
  obtain ⟨hx, hb, hml, hown, hts, hr, hlk, rfl, hK, hN, hNK, rfl, rfl, rfl, rfl, rfl, rfl⟩ := C
  intro H locs ls hP hD hS hl
  exact lv_icmp_lt hx hb hdg ht (fun _ => k H locs ls hP hD hS hl) (fun z => absurd h9 z)
theorem bv_icmp_lt_f (C : O2 X cc nL ret ws own rm D cl tys al N) {x y : Int32} {off : Int} (tgt : Nat) (hdg : decode cc pc = .ok (.if_icmp .lt off, 3)) (ht : (pc : Int) + off = (tgt : Int)) (h9 : ¬ x < y)
    (k : V2 X cs sl w (pc + 3) lv st) : V2 X cs sl w pc lv (.int y :: .int x :: st) := by
  obtain ⟨p, l, e, R, s, m, args, below, meth, c, D', cl', tys', al', N', nL', Q⟩ := X
  obtain ⟨hx, hb, hml, hown, hts, hr, hlk, rfl, hK, hN, hNK, rfl, rfl, rfl, rfl, rfl, rfl⟩ := C
  intro H locs ls hP hD hS hl
  exact lv_icmp_lt hx hb hdg ht (fun z => absurd z h9) (fun _ => k H locs ls hP hD hS hl)
theorem bv_if_lt_t (C : O2 X cc nL ret ws own rm D cl tys al N) {x : Int32} {off : Int} {tgt : Nat} (hdg : decode cc pc = .ok (.ifCond .lt off, 3)) (ht : (pc : Int) + off = (tgt : Int)) (h9 : x < 0)
    (k : V2 X cs sl w tgt lv st) : V2 X cs sl w pc lv (.int x :: st) := by
  obtain ⟨p, l, e, R, s, m, args, below, meth, c, D', cl', tys', al', N', nL', Q⟩ := X
  obtain ⟨hx, hb, hml, hown, hts, hr, hlk, rfl, hK, hN, hNK, rfl, rfl, rfl, rfl, rfl, rfl⟩ := C
  intro H locs ls hP hD hS hl
  exact lv_if_lt hx hb hdg ht (fun _ => k H locs ls hP hD hS hl) (fun z => absurd h9 z)
theorem bv_if_lt_f (C : O2 X cc nL ret ws own rm D cl tys al N) {x : Int32} {off : Int} (tgt : Nat) (hdg : decode cc pc = .ok (.ifCond .lt off, 3)) (ht : (pc : Int) + off = (tgt : Int)) (h9 : ¬ x < 0)
    (k : V2 X cs sl w (pc + 3) lv st) : V2 X cs sl w pc lv (.int x :: st) := by
  obtain ⟨p, l, e, R, s, m, args, below, meth, c, D', cl', tys', al', N', nL', Q⟩ := X
  obtain ⟨hx, hb, hml, hown, hts, hr, hlk, rfl, hK, hN, hNK, rfl, rfl, rfl, rfl, rfl, rfl⟩ := C
  intro H locs ls hP hD hS hl
  exact lv_if_lt hx hb hdg ht (fun z => absurd z h9) (fun _ => k H locs ls hP hD hS hl)
theorem bv_icmp_ge_t (C : O2 X cc nL ret ws own rm D cl tys al N) {x y : Int32} {off : Int} {tgt : Nat} (hdg : decode cc pc = .ok (.if_icmp .ge off, 3)) (ht : (pc : Int) + off = (tgt : Int)) (h9 : y ≤ x)
    (k : V2 X cs sl w tgt lv st) : V2 X cs sl w pc lv (.int y :: .int x :: st) := by
  obtain ⟨p, l, e, R, s, m, args, below, meth, c, D', cl', tys', al', N', nL', Q⟩ := X
  obtain ⟨hx, hb, hml, hown, hts, hr, hlk, rfl, hK, hN, hNK, rfl, rfl, rfl, rfl, rfl, rfl⟩ := C
  intro H locs ls hP hD hS hl
  exact lv_icmp_ge hx hb hdg ht (fun _ => k H locs ls hP hD hS hl) (fun z => absurd h9 z)
theorem bv_icmp_ge_f (C : O2 X cc nL ret ws own rm D cl tys al N) {x y : Int32} {off : Int} (tgt : Nat) (hdg : decode cc pc = .ok (.if_icmp .ge off, 3)) (ht : (pc : Int) + off = (tgt : Int)) (h9 : ¬ y ≤ x)
    (k : V2 X cs sl w (pc + 3) lv st) : V2 X cs sl w pc lv (.int y :: .int x :: st) := by
  obtain ⟨p, l, e, R, s, m, args, below, meth, c, D', cl', tys', al', N', nL', Q⟩ := X
  obtain ⟨hx, hb, hml, hown, hts, hr, hlk, rfl, hK, hN, hNK, rfl, rfl, rfl, rfl, rfl, rfl⟩ := C
  intro H locs ls hP hD hS hl
  exact lv_icmp_ge hx hb hdg ht (fun z => absurd z h9) (fun _ => k H locs ls hP hD hS hl)
theorem bv_if_ge_t (C : O2 X cc nL ret ws own rm D cl tys al N) {x : Int32} {off : Int} {tgt : Nat} (hdg : decode cc pc = .ok (.ifCond .ge off, 3)) (ht : (pc : Int) + off = (tgt : Int)) (h9 : 0 ≤ x)
    (k : V2 X cs sl w tgt lv st) : V2 X cs sl w pc lv (.int x :: st) := by
  obtain ⟨p, l, e, R, s, m, args, below, meth, c, D', cl', tys', al', N', nL', Q⟩ := X
  obtain ⟨hx, hb, hml, hown, hts, hr, hlk, rfl, hK, hN, hNK, rfl, rfl, rfl, rfl, rfl, rfl⟩ := C
  intro H locs ls hP hD hS hl
  exact lv_if_ge hx hb hdg ht (fun _ => k H locs ls hP hD hS hl) (fun z => absurd h9 z)
theorem bv_if_ge_f (C : O2 X cc nL ret ws own rm D cl tys al N) {x : Int32} {off : Int} (tgt : Nat) (hdg : decode cc pc = .ok (.ifCond .ge off, 3)) (ht : (pc : Int) + off = (tgt : Int)) (h9 : ¬ 0 ≤ x)
    (k : V2 X cs sl w (pc + 3) lv st) : V2 X cs sl w pc lv (.int x :: st) := by
  obtain ⟨p, l, e, R, s, m, args, below, meth, c, D', cl', tys', al', N', nL', Q⟩ := X
  obtain ⟨hx, hb, hml, hown, hts, hr, hlk, rfl, hK, hN, hNK, rfl, rfl, rfl, rfl, rfl, rfl⟩ := C
  intro H locs ls hP hD hS hl
  exact lv_if_ge hx hb hdg ht (fun z => absurd z h9) (fun _ => k H locs ls hP hD hS hl)
theorem bv_icmp_gt_t (C : O2 X cc nL ret ws own rm D cl tys al N) {x y : Int32} {off : Int} {tgt : Nat} (hdg : decode cc pc = .ok (.if_icmp .gt off, 3)) (ht : (pc : Int) + off = (tgt : Int)) (h9 : y < x)
    (k : V2 X cs sl w tgt lv st) : V2 X cs sl w pc lv (.int y :: .int x :: st) := by
  obtain ⟨p, l, e, R, s, m, args, below, meth, c, D', cl', tys', al', N', nL', Q⟩ := X
  obtain ⟨hx, hb, hml, hown, hts, hr, hlk, rfl, hK, hN, hNK, rfl, rfl, rfl, rfl, rfl, rfl⟩ := C
  intro H locs ls hP hD hS hl
  exact lv_icmp_gt hx hb hdg ht (fun _ => k H locs ls hP hD hS hl) (fun z => absurd h9 z)
theorem bv_icmp_gt_f (C : O2 X cc nL ret ws own rm D cl tys al N) {x y : Int32} {off : Int} (tgt : Nat) (hdg : decode cc pc = .ok (.if_icmp .gt off, 3)) (ht : (pc : Int) + off = (tgt : Int)) (h9 : ¬ y < x)
    (k : V2 X cs sl w (pc + 3) lv st) : V2 X cs sl w pc lv (.int y :: .int x :: st) := by
  obtain ⟨p, l, e, R, s, m, args, below, meth, c, D', cl', tys', al', N', nL', Q⟩ := X
  obtain ⟨hx, hb, hml, hown, hts, hr, hlk, rfl, hK, hN, hNK, rfl, rfl, rfl, rfl, rfl, rfl⟩ := C
  intro H locs ls hP hD hS hl
  exact lv_icmp_gt hx hb hdg ht (fun z => absurd z h9) (fun _ => k H locs ls hP hD hS hl)
theorem bv_if_gt_t (C : O2 X cc nL ret ws own rm D cl tys al N) {x : Int32} {off : Int} {tgt : Nat} (hdg : decode cc pc = .ok (.ifCond .gt off, 3)) (ht : (pc : Int) + off = (tgt : Int)) (h9 : 0 < x)
    (k : V2 X cs sl w tgt lv st) : V2 X cs sl w pc lv (.int x :: st) := by
  obtain ⟨p, l, e, R, s, m, args, below, meth, c, D', cl', tys', al', N', nL', Q⟩ := X
  obtain ⟨hx, hb, hml, hown, hts, hr, hlk, rfl, hK, hN, hNK, rfl, rfl, rfl, rfl, rfl, rfl⟩ := C
  intro H locs ls hP hD hS hl
  exact lv_if_gt hx hb hdg ht (fun _ => k H locs ls hP hD hS hl) (fun z => absurd h9 z)
theorem bv_if_gt_f (C : O2 X cc nL ret ws own rm D cl tys al N) {x : Int32} {off : Int} (tgt : Nat) (hdg : decode cc pc = .ok (.ifCond .gt off, 3)) (ht : (pc : Int) + off = (tgt : Int)) (h9 : ¬ 0 < x)
    (k : V2 X cs sl w (pc + 3) lv st) : V2 X cs sl w pc lv (.int x :: st) := by
  obtain ⟨p, l, e, R, s, m, args, below, meth, c, D', cl', tys', al', N', nL', Q⟩ := X
  obtain ⟨hx, hb, hml, hown, hts, hr, hlk, rfl, hK, hN, hNK, rfl, rfl, rfl, rfl, rfl, rfl⟩ := C
  intro H locs ls hP hD hS hl
  exact lv_if_gt hx hb hdg ht (fun z => absurd z h9) (fun _ => k H locs ls hP hD hS hl)
theorem bv_icmp_le_t (C : O2 X cc nL ret ws own rm D cl tys al N) {x y : Int32} {off : Int} {tgt : Nat} (hdg : decode cc pc = .ok (.if_icmp .le off, 3)) (ht : (pc : Int) + off = (tgt : Int)) (h9 : x ≤ y)
    (k : V2 X cs sl w tgt lv st) : V2 X cs sl w pc lv (.int y :: .int x :: st) := by
  obtain ⟨p, l, e, R, s, m, args, below, meth, c, D', cl', tys', al', N', nL', Q⟩ := X
  obtain ⟨hx, hb, hml, hown, hts, hr, hlk, rfl, hK, hN, hNK, rfl, rfl, rfl, rfl, rfl, rfl⟩ := C
  intro H locs ls hP hD hS hl
  exact lv_icmp_le hx hb hdg ht (fun _ => k H locs ls hP hD hS hl) (fun z => absurd h9 z)
theorem bv_icmp_le_f (C : O2 X cc nL ret ws own rm D cl tys al N) {x y : Int32} {off : Int} (tgt : Nat) (hdg : decode cc pc = .ok (.if_icmp .le off, 3)) (ht : (pc : Int) + off = (tgt : Int)) (h9 : ¬ x ≤ y)
    (k : V2 X cs sl w (pc + 3) lv st) : V2 X cs sl w pc lv (.int y :: .int x :: st) := by
  obtain ⟨p, l, e, R, s, m, args, below, meth, c, D', cl', tys', al', N', nL', Q⟩ := X
  obtain ⟨hx, hb, hml, hown, hts, hr, hlk, rfl, hK, hN, hNK, rfl, rfl, rfl, rfl, rfl, rfl⟩ := C
  intro H locs ls hP hD hS hl
  exact lv_icmp_le hx hb hdg ht (fun z => absurd z h9) (fun _ => k H locs ls hP hD hS hl)
theorem bv_if_le_t (C : O2 X cc nL ret ws own rm D cl tys al N) {x : Int32} {off : Int} {tgt : Nat} (hdg : decode cc pc = .ok (.ifCond .le off, 3)) (ht : (pc : Int) + off = (tgt : Int)) (h9 : x ≤ 0)
    (k : V2 X cs sl w tgt lv st) : V2 X cs sl w pc lv (.int x :: st) := by
  obtain ⟨p, l, e, R, s, m, args, below, meth, c, D', cl', tys', al', N', nL', Q⟩ := X
  obtain ⟨hx, hb, hml, hown, hts, hr, hlk, rfl, hK, hN, hNK, rfl, rfl, rfl, rfl, rfl, rfl⟩ := C
  intro H locs ls hP hD hS hl
  exact lv_if_le hx hb hdg ht (fun _ => k H locs ls hP hD hS hl) (fun z => absurd h9 z)
theorem bv_if_le_f (C : O2 X cc nL ret ws own rm D cl tys al N) {x : Int32} {off : Int} (tgt : Nat) (hdg : decode cc pc = .ok (.ifCond .le off, 3)) (ht : (pc : Int) + off = (tgt : Int)) (h9 : ¬ x ≤ 0)
    (k : V2 X cs sl w (pc + 3) lv st) : V2 X cs sl w pc lv (.int x :: st) := by
  obtain ⟨p, l, e, R, s, m, args, below, meth, c, D', cl', tys', al', N', nL', Q⟩ := X
  obtain ⟨hx, hb, hml, hown, hts, hr, hlk, rfl, hK, hN, hNK, rfl, rfl, rfl, rfl, rfl, rfl⟩ := C
  intro H locs ls hP hD hS hl
  exact lv_if_le hx hb hdg ht (fun z => absurd z h9) (fun _ => k H locs ls hP hD hS hl)
theorem bv_ifnonnull (C : O2 X cc nL ret ws own rm D cl tys al N) {x : Nat} {off : Int} {tgt : Nat} (hdg : decode cc pc = .ok (.ifnonnull off, 3)) (ht : (pc : Int) + off = (tgt : Int))
    (k : V2 X cs sl w tgt lv st) : V2 X cs sl w pc lv (.ref x :: st) := by
  obtain ⟨p, l, e, R, s, m, args, below, meth, c, D', cl', tys', al', N', nL', Q⟩ := X
  obtain ⟨hx, hb, hml, hown, hts, hr, hlk, rfl, hK, hN, hNK, rfl, rfl, rfl, rfl, rfl, rfl⟩ := C
  intro H locs ls hP hD hS hl
  exact lv_ifnonnull hx hb hdg ht (k H locs ls hP hD hS hl)
theorem bv_null (C : O2 X cc nL ret ws own rm D cl tys al N) (hdg : decode cc pc = .ok (.aconst_null, 1))
    (k : V2 X cs sl w (pc + 1) lv (.null :: st)) : V2 X cs sl w pc lv st := by
  obtain ⟨p, l, e, R, s, m, args, below, meth, c, D', cl', tys', al', N', nL', Q⟩ := X
  obtain ⟨hx, hb, hml, hown, hts, hr, hlk, rfl, hK, hN, hNK, rfl, rfl, rfl, rfl, rfl, rfl⟩ := C
  intro H locs ls hP hD hS hl
  exact lv_null hx hb hdg (k H locs ls hP hD hS hl)
theorem bv_if_eq (C : O2 X cc nL ret ws own rm D cl tys al N) {x : Int32} {off : Int} {tgt : Nat} (hdg : decode cc pc = .ok (.ifCond .eq off, 3)) (ht : (pc : Int) + off = (tgt : Int))
    (kt : x = 0 → V2 X cs sl w tgt lv st) (kf : ¬ x = 0 → V2 X cs sl w (pc + 3) lv st) : V2 X cs sl w pc lv (.int x :: st) := by
  obtain ⟨p, l, e, R, s, m, args, below, meth, c, D', cl', tys', al', N', nL', Q⟩ := X
  obtain ⟨hx, hb, hml, hown, hts, hr, hlk, rfl, hK, hN, hNK, rfl, rfl, rfl, rfl, rfl, rfl⟩ := C
  intro H locs ls hP hD hS hl
  exact lv_if_eq hx hb hdg ht (fun z => kt z H locs ls hP hD hS hl) (fun z => kf z H locs ls hP hD hS hl)
theorem bv_icmp_eq (C : O2 X cc nL ret ws own rm D cl tys al N) {x y : Int32} {off : Int} {tgt : Nat} (hdg : decode cc pc = .ok (.if_icmp .eq off, 3)) (ht : (pc : Int) + off = (tgt : Int))
    (kt : x = y → V2 X cs sl w tgt lv st) (kf : ¬ x = y → V2 X cs sl w (pc + 3) lv st) : V2 X cs sl w pc lv (.int y :: .int x :: st) := by
  obtain ⟨p, l, e, R, s, m, args, below, meth, c, D', cl', tys', al', N', nL', Q⟩ := X
  obtain ⟨hx, hb, hml, hown, hts, hr, hlk, rfl, hK, hN, hNK, rfl, rfl, rfl, rfl, rfl, rfl⟩ := C
  intro H locs ls hP hD hS hl
  exact lv_icmp_eq hx hb hdg ht (fun z => kt z H locs ls hP hD hS hl) (fun z => kf z H locs ls hP hD hS hl)
theorem bv_if_ne (C : O2 X cc nL ret ws own rm D cl tys al N) {x : Int32} {off : Int} {tgt : Nat} (hdg : decode cc pc = .ok (.ifCond .ne off, 3)) (ht : (pc : Int) + off = (tgt : Int))
    (kt : x ≠ 0 → V2 X cs sl w tgt lv st) (kf : x = 0 → V2 X cs sl w (pc + 3) lv st) : V2 X cs sl w pc lv (.int x :: st) := by
  obtain ⟨p, l, e, R, s, m, args, below, meth, c, D', cl', tys', al', N', nL', Q⟩ := X
  obtain ⟨hx, hb, hml, hown, hts, hr, hlk, rfl, hK, hN, hNK, rfl, rfl, rfl, rfl, rfl, rfl⟩ := C
  intro H locs ls hP hD hS hl
  exact lv_if_ne hx hb hdg ht (fun z => kt z H locs ls hP hD hS hl) (fun z => kf z H locs ls hP hD hS hl)
theorem bv_icmp_ne (C : O2 X cc nL ret ws own rm D cl tys al N) {x y : Int32} {off : Int} {tgt : Nat} (hdg : decode cc pc = .ok (.if_icmp .ne off, 3)) (ht : (pc : Int) + off = (tgt : Int))
    (kt : x ≠ y → V2 X cs sl w tgt lv st) (kf : x = y → V2 X cs sl w (pc + 3) lv st) : V2 X cs sl w pc lv (.int y :: .int x :: st) := by
  obtain ⟨p, l, e, R, s, m, args, below, meth, c, D', cl', tys', al', N', nL', Q⟩ := X
  obtain ⟨hx, hb, hml, hown, hts, hr, hlk, rfl, hK, hN, hNK, rfl, rfl, rfl, rfl, rfl, rfl⟩ := C
  intro H locs ls hP hD hS hl
  exact lv_icmp_ne hx hb hdg ht (fun z => kt z H locs ls hP hD hS hl) (fun z => kf z H locs ls hP hD hS hl)
theorem bv_if_lt (C : O2 X cc nL ret ws own rm D cl tys al N) {x : Int32} {off : Int} {tgt : Nat} (hdg : decode cc pc = .ok (.ifCond .lt off, 3)) (ht : (pc : Int) + off = (tgt : Int))
    (kt : x < 0 → V2 X cs sl w tgt lv st) (kf : ¬ x < 0 → V2 X cs sl w (pc + 3) lv st) : V2 X cs sl w pc lv (.int x :: st) := by
  obtain ⟨p, l, e, R, s, m, args, below, meth, c, D', cl', tys', al', N', nL', Q⟩ := X
  obtain ⟨hx, hb, hml, hown, hts, hr, hlk, rfl, hK, hN, hNK, rfl, rfl, rfl, rfl, rfl, rfl⟩ := C
  intro H locs ls hP hD hS hl
  exact lv_if_lt hx hb hdg ht (fun z => kt z H locs ls hP hD hS hl) (fun z => kf z H locs ls hP hD hS hl)
theorem bv_icmp_lt (C : O2 X cc nL ret ws own rm D cl tys al N) {x y : Int32} {off : Int} {tgt : Nat} (hdg : decode cc pc = .ok (.if_icmp .lt off, 3)) (ht : (pc : Int) + off = (tgt : Int))
    (kt : x < y → V2 X cs sl w tgt lv st) (kf : ¬ x < y → V2 X cs sl w (pc + 3) lv st) : V2 X cs sl w pc lv (.int y :: .int x :: st) := by
  obtain ⟨p, l, e, R, s, m, args, below, meth, c, D', cl', tys', al', N', nL', Q⟩ := X
  obtain ⟨hx, hb, hml, hown, hts, hr, hlk, rfl, hK, hN, hNK, rfl, rfl, rfl, rfl, rfl, rfl⟩ := C
  intro H locs ls hP hD hS hl
  exact lv_icmp_lt hx hb hdg ht (fun z => kt z H locs ls hP hD hS hl) (fun z => kf z H locs ls hP hD hS hl)
theorem bv_if_ge (C : O2 X cc nL ret ws own rm D cl tys al N) {x : Int32} {off : Int} {tgt : Nat} (hdg : decode cc pc = .ok (.ifCond .ge off, 3)) (ht : (pc : Int) + off = (tgt : Int))
    (kt : 0 ≤ x → V2 X cs sl w tgt lv st) (kf : ¬ 0 ≤ x → V2 X cs sl w (pc + 3) lv st) : V2 X cs sl w pc lv (.int x :: st) := by
  obtain ⟨p, l, e, R, s, m, args, below, meth, c, D', cl', tys', al', N', nL', Q⟩ := X
  obtain ⟨hx, hb, hml, hown, hts, hr, hlk, rfl, hK, hN, hNK, rfl, rfl, rfl, rfl, rfl, rfl⟩ := C
  intro H locs ls hP hD hS hl
  exact lv_if_ge hx hb hdg ht (fun z => kt z H locs ls hP hD hS hl) (fun z => kf z H locs ls hP hD hS hl)
theorem bv_icmp_ge (C : O2 X cc nL ret ws own rm D cl tys al N) {x y : Int32} {off : Int} {tgt : Nat} (hdg : decode cc pc = .ok (.if_icmp .ge off, 3)) (ht : (pc : Int) + off = (tgt : Int))
    (kt : y ≤ x → V2 X cs sl w tgt lv st) (kf : ¬ y ≤ x → V2 X cs sl w (pc + 3) lv st) : V2 X cs sl w pc lv (.int y :: .int x :: st) := by
  obtain ⟨p, l, e, R, s, m, args, below, meth, c, D', cl', tys', al', N', nL', Q⟩ := X
  obtain ⟨hx, hb, hml, hown, hts, hr, hlk, rfl, hK, hN, hNK, rfl, rfl, rfl, rfl, rfl, rfl⟩ := C
  intro H locs ls hP hD hS hl
  exact lv_icmp_ge hx hb hdg ht (fun z => kt z H locs ls hP hD hS hl) (fun z => kf z H locs ls hP hD hS hl)
theorem bv_if_gt (C : O2 X cc nL ret ws own rm D cl tys al N) {x : Int32} {off : Int} {tgt : Nat} (hdg : decode cc pc = .ok (.ifCond .gt off, 3)) (ht : (pc : Int) + off = (tgt : Int))
    (kt : 0 < x → V2 X cs sl w tgt lv st) (kf : ¬ 0 < x → V2 X cs sl w (pc + 3) lv st) : V2 X cs sl w pc lv (.int x :: st) := by
  obtain ⟨p, l, e, R, s, m, args, below, meth, c, D', cl', tys', al', N', nL', Q⟩ := X
  obtain ⟨hx, hb, hml, hown, hts, hr, hlk, rfl, hK, hN, hNK, rfl, rfl, rfl, rfl, rfl, rfl⟩ := C
  intro H locs ls hP hD hS hl
  exact lv_if_gt hx hb hdg ht (fun z => kt z H locs ls hP hD hS hl) (fun z => kf z H locs ls hP hD hS hl)
theorem bv_icmp_gt (C : O2 X cc nL ret ws own rm D cl tys al N) {x y : Int32} {off : Int} {tgt : Nat} (hdg : decode cc pc = .ok (.if_icmp .gt off, 3)) (ht : (pc : Int) + off = (tgt : Int))
    (kt : y < x → V2 X cs sl w tgt lv st) (kf : ¬ y < x → V2 X cs sl w (pc + 3) lv st) : V2 X cs sl w pc lv (.int y :: .int x :: st) := by
  obtain ⟨p, l, e, R, s, m, args, below, meth, c, D', cl', tys', al', N', nL', Q⟩ := X
  obtain ⟨hx, hb, hml, hown, hts, hr, hlk, rfl, hK, hN, hNK, rfl, rfl, rfl, rfl, rfl, rfl⟩ := C
  intro H locs ls hP hD hS hl
  exact lv_icmp_gt hx hb hdg ht (fun z => kt z H locs ls hP hD hS hl) (fun z => kf z H locs ls hP hD hS hl)
theorem bv_if_le (C : O2 X cc nL ret ws own rm D cl tys al N) {x : Int32} {off : Int} {tgt : Nat} (hdg : decode cc pc = .ok (.ifCond .le off, 3)) (ht : (pc : Int) + off = (tgt : Int))
    (kt : x ≤ 0 → V2 X cs sl w tgt lv st) (kf : ¬ x ≤ 0 → V2 X cs sl w (pc + 3) lv st) : V2 X cs sl w pc lv (.int x :: st) := by
  obtain ⟨p, l, e, R, s, m, args, below, meth, c, D', cl', tys', al', N', nL', Q⟩ := X
  obtain ⟨hx, hb, hml, hown, hts, hr, hlk, rfl, hK, hN, hNK, rfl, rfl, rfl, rfl, rfl, rfl⟩ := C
  intro H locs ls hP hD hS hl
  exact lv_if_le hx hb hdg ht (fun z => kt z H locs ls hP hD hS hl) (fun z => kf z H locs ls hP hD hS hl)
theorem bv_icmp_le (C : O2 X cc nL ret ws own rm D cl tys al N) {x y : Int32} {off : Int} {tgt : Nat} (hdg : decode cc pc = .ok (.if_icmp .le off, 3)) (ht : (pc : Int) + off = (tgt : Int))
    (kt : x ≤ y → V2 X cs sl w tgt lv st) (kf : ¬ x ≤ y → V2 X cs sl w (pc + 3) lv st) : V2 X cs sl w pc lv (.int y :: .int x :: st) := by
  obtain ⟨p, l, e, R, s, m, args, below, meth, c, D', cl', tys', al', N', nL', Q⟩ := X
  obtain ⟨hx, hb, hml, hown, hts, hr, hlk, rfl, hK, hN, hNK, rfl, rfl, rfl, rfl, rfl, rfl⟩ := C
  intro H locs ls hP hD hS hl
  exact lv_icmp_le hx hb hdg ht (fun z => kt z H locs ls hP hD hS hl) (fun z => kf z H locs ls hP hD hS hl)
theorem bv_lcmp_eq (C : O2 X cc nL ret ws own rm D cl tys al N) {x y : Int64} {off : Int} {tgt : Nat} (hd0 : decode cc pc = .ok (.lcmp, 1)) (hdg : decode cc (pc + 1) = .ok (.ifCond .eq off, 3)) (ht : ((pc + 1 : Nat) : Int) + off = (tgt : Int))
    (kt : x = y → V2 X cs sl w tgt lv st) (kf : ¬ x = y → V2 X cs sl w (pc + 4) lv st) : V2 X cs sl w pc lv (.long y :: .long x :: st) := by
  obtain ⟨p, l, e, R, s, m, args, below, meth, c, D', cl', tys', al', N', nL', Q⟩ := X
  obtain ⟨hx, hb, hml, hown, hts, hr, hlk, rfl, hK, hN, hNK, rfl, rfl, rfl, rfl, rfl, rfl⟩ := C
  intro H locs ls hP hD hS hl
  exact W.lcmp hx hb hd0 (lv_if_eq hx hb hdg ht (fun z => kt ((lg_cmp_eq x y).mp z) H locs ls hP hD hS hl) (fun z => kf (fun h => z ((lg_cmp_eq x y).mpr h)) H locs ls hP hD hS hl))
theorem bv_lcmp_ne (C : O2 X cc nL ret ws own rm D cl tys al N) {x y : Int64} {off : Int} {tgt : Nat} (hd0 : decode cc pc = .ok (.lcmp, 1)) (hdg : decode cc (pc + 1) = .ok (.ifCond .ne off, 3)) (ht : ((pc + 1 : Nat) : Int) + off = (tgt : Int))
    (kt : x ≠ y → V2 X cs sl w tgt lv st) (kf : x = y → V2 X cs sl w (pc + 4) lv st) : V2 X cs sl w pc lv (.long y :: .long x :: st) := by
  obtain ⟨p, l, e, R, s, m, args, below, meth, c, D', cl', tys', al', N', nL', Q⟩ := X
  obtain ⟨hx, hb, hml, hown, hts, hr, hlk, rfl, hK, hN, hNK, rfl, rfl, rfl, rfl, rfl, rfl⟩ := C
  intro H locs ls hP hD hS hl
  exact W.lcmp hx hb hd0 (lv_if_ne hx hb hdg ht (fun z => kt (fun h => z ((lg_cmp_eq x y).mpr h)) H locs ls hP hD hS hl) (fun z => kf ((lg_cmp_eq x y).mp z) H locs ls hP hD hS hl))
theorem bv_sub (is : List Nat) (h : lv_pick lv is = lv') (k : V2 X cs sl w pc lv' st) : V2 X cs sl w pc lv st := by
  obtain ⟨p, l, e, R, s, m, args, below, meth, c, D', cl', tys', al', N', nL', Q⟩ := X
  exact fun H locs ls hP hD hS hl => k H locs ls hP hD hS (lv_sub hl is h)
theorem bv_w (is : List Nat) (h : is.map (fun i => w[i]?) = w1.map some) (hn : va_nd is = true) (k : V2 X cs sl w1 pc lv st) : V2 X cs sl w pc lv st := by
  obtain ⟨p, l, e, R, s, m, args, below, meth, c, D', cl', tys', al', N', nL', Q⟩ := X
  exact fun H locs ls hP hD hS hl => k H locs ls (bv_P hP is h) (hD.sub is hn h) hS hl
theorem bv_eqw (h : w = w1) (k : V2 X cs sl w1 pc lv st) : V2 X cs sl w pc lv st := h ▸ k
theorem bv_eqs {st1 : List Value} (h : st = st1) (k : V2 X cs sl w pc lv st1) : V2 X cs sl w pc lv st := h ▸ k
theorem bv_eqc {cs1 sl1 : Nat} (h : cs = cs1) (h2 : sl = sl1) (k : V2 X cs1 sl1 w pc lv st) : V2 X cs sl w pc lv st := h ▸ h2 ▸ k
theorem bv_widen {cs1 sl1 : Nat} (h : cs ≤ cs1) (h2 : sl ≤ sl1) (k : V2 X cs1 sl1 w pc lv st) : V2 X cs sl w pc lv st := by
  obtain ⟨p, l, e, R, s, m, args, below, meth, c, D', cl', tys', al', N', nL', Q⟩ := X
  exact fun H locs ls hP hD hS hl => W.widen h h2 (k H locs ls hP hD hS hl)
/-- what the cells' being apart says -/
theorem bv_apart (k : (w.map Prod.fst).Nodup → V2 X cs sl w pc lv st) : V2 X cs sl w pc lv st := by
  obtain ⟨p, l, e, R, s, m, args, below, meth, c, D', cl', tys', al', N', nL', Q⟩ := X
  exact fun H locs ls hP hD hS hl => k (bv_nodup hD) H locs ls hP hD hS hl
theorem bv_get (C : O2 X cc nL ret ws own rm D cl tys al N) {ref C9 : String} {T : u_T} {n ci index q : Nat} (hin : ∀ w ∈ u_ws C9 T n, w ∈ ws) (q0 : Nat) {fs : List Value} (he : w[q0]? = some (q, .inr (ci, fs))) (hc : cl[ci]? = some (C9, T, n)) (j : Nat) (hj : j < n) (hlink : Cond.fieldLink own index ref (T j).2.1 (T j).2.2.1 ∈ ws) (href : (T j).1 = ref) {v : Value} (hv : fs[j]? = some v) (hdg : decode cc pc = .ok (.getfield index, 3))
    (k : V2 X cs sl w (pc + 3) lv (v :: st)) : V2 X cs sl w pc lv (.ref q :: st) := by
  obtain ⟨p, l, e, R, s, m, args, below, meth, c, D', cl', tys', al', N', nL', Q⟩ := X
  obtain ⟨hx, hb, hml, hown, hts, hr, hlk, rfl, hK, hN, hNK, rfl, rfl, rfl, rfl, rfl, rfl⟩ := C
  intro H locs ls hP hD hS hl
  exact va_get hx hb hts hin hown hK hP q0 he hc j hj (hts _ hlink) (fun x h => by rw [← href]; exact h) hv hdg (k H locs ls hP hD hS hl)
theorem bv_put (C : O2 X cc nL ret ws own rm D cl tys al N) {v : Value} {ref C9 : String} {T : u_T} {n ci index q : Nat} {ty0 : Nat → FieldType} {ty : FieldType} (hin : ∀ w ∈ u_ws C9 T n, w ∈ ws) (hty : ∀ k, k < n → parseFieldDescriptor (T k).2.2.1 = some (ty0 k)) (hnm : ∀ a, a < n → ∀ b, b < n → a ≠ b → (T a).2.1 ≠ (T b).2.1) (q0 : Nat) {fs : List Value} (he : w[q0]? = some (q, .inr (ci, fs))) (hc : cl[ci]? = some (C9, T, n)) (j : Nat) (hj : j < n) (hlink : Cond.fieldLink own index ref (T j).2.1 (T j).2.2.1 ∈ ws) (href : (T j).1 = ref) (hfin : (T j).2.2.2 = false) (hd : ty0 j = ty) (hn : narrow ty v = v) (hfit : fits ty v = true) (hlen : j < fs.length) (hwf : w.set q0 (q, .inr (ci, fs.set j v)) = w1) (hdg : decode cc pc = .ok (.putfield index, 3))
    (k : V2 X cs sl w1 (pc + 3) lv st) : V2 X cs sl w pc lv (v :: .ref q :: st) := by
  subst hwf
  obtain ⟨p, l, e, R, s, m, args, below, meth, c, D', cl', tys', al', N', nL', Q⟩ := X
  obtain ⟨hx, hb, hml, hown, hts, hr, hlk, rfl, hK, hN, hNK, rfl, rfl, rfl, rfl, rfl, rfl⟩ := C
  intro H locs ls hP hD hS hl
  exact va_put hx hb hts hin ty0 hty hnm hown hK hP hD hS q0 he hc j hj (hts _ hlink) (fun x h => by rw [← href]; exact h) hfin (by rw [hty j hj, hd]) hn hfit hlen hdg (fun H1 locs1 hP1 hD1 hS1 => k H1 locs1 ls hP1 hD1 hS1 hl)
theorem bv_putF (C : O2 X cc nL ret ws own rm D cl tys al N) (hI : I2 X) {v : Value} {ref C9 : String} {T : u_T} {n ci index q : Nat} {ty0 : Nat → FieldType} {ty : FieldType} (hin : ∀ w ∈ u_ws C9 T n, w ∈ ws) (hty : ∀ k, k < n → parseFieldDescriptor (T k).2.2.1 = some (ty0 k)) (hnm : ∀ a, a < n → ∀ b, b < n → a ≠ b → (T a).2.1 ≠ (T b).2.1) (q0 : Nat) {fs : List Value} (he : w[q0]? = some (q, .inr (ci, fs))) (hc : cl[ci]? = some (C9, T, n)) (j : Nat) (hj : j < n) (hlink : Cond.fieldLink own index ref (T j).2.1 (T j).2.2.1 ∈ ws) (href : (T j).1 = ref) (hfin : (T j).2.2.2 = true) (hdecl : (T j).1 = own) (hd : ty0 j = ty) (hn : narrow ty v = v) (hfit : fits ty v = true) (hlen : j < fs.length) (hwf : w.set q0 (q, .inr (ci, fs.set j v)) = w1) (hdg : decode cc pc = .ok (.putfield index, 3))
    (k : V2 X cs sl w1 (pc + 3) lv st) : V2 X cs sl w pc lv (v :: .ref q :: st) := by
  subst hwf
  obtain ⟨p, l, e, R, s, m, args, below, meth, c, D', cl', tys', al', N', nL', Q⟩ := X
  obtain ⟨hx, hb, hml, hown, hts, hr, hlk, rfl, hK, hN, hNK, rfl, rfl, rfl, rfl, rfl, rfl⟩ := C
  intro H locs ls hP hD hS hl
  exact va_putF hx hb hts hin ty0 hty hnm hown hK hP hD hS q0 he hc j hj (hts _ hlink) (fun x h => by rw [← href]; exact h) hfin hI hdecl (by rw [hty j hj, hd]) hn hfit hlen hdg (fun H1 locs1 hP1 hD1 hS1 => k H1 locs1 ls hP1 hD1 hS1 hl)
theorem bv_gets (C : O2 X cc nL ret ws own rm D cl tys al N) {C9 n9 d9 ref : String} {v : Value} {index : Nat} (hz : ∀ (A : Nat → Prop) (U : State), N A U → va_Z C9 n9 d9 v A U U.heap) (hlink : Cond.fieldLink own index ref n9 d9 ∈ ws) (href : C9 = ref) (hdg : decode cc pc = .ok (.getstatic index, 3))
    (k : V2 X cs sl w (pc + 3) lv (v :: st)) : V2 X cs sl w pc lv st := by
  obtain ⟨p, l, e, R, s, m, args, below, meth, c, D', cl', tys', al', N', nL', Q⟩ := X
  obtain ⟨hx, hb, hml, hown, hts, hr, hlk, rfl, hK, hN, hNK, rfl, rfl, rfl, rfl, rfl, rfl⟩ := C
  intro H locs ls hP hD hS hl
  exact va_gets hx hb (hz _ _ hN) hS hown (hts _ hlink) (fun x h => by rw [← href]; exact h) hdg (k H locs ls hP hD hS hl)
theorem bv_getr (C : O2 X cc nL ret ws own rm D cl tys al N) {o9 n9 d9 ref : String} {v : Value} {index q : Nat} (hz : ∀ (A : Nat → Prop) (U : State), N A U → va_OF o9 n9 d9 v q A U U.heap) (hlink : Cond.fieldLink own index ref n9 d9 ∈ ws) (href : o9 = ref) (hdg : decode cc pc = .ok (.getfield index, 3))
    (k : V2 X cs sl w (pc + 3) lv (v :: st)) : V2 X cs sl w pc lv (.ref q :: st) := by
  obtain ⟨p, l, e, R, s, m, args, below, meth, c, D', cl', tys', al', N', nL', Q⟩ := X
  obtain ⟨hx, hb, hml, hown, hts, hr, hlk, rfl, hK, hN, hNK, rfl, rfl, rfl, rfl, rfl, rfl⟩ := C
  intro H locs ls hP hD hS hl
  exact vk_getf hx hb (hz _ _ hN) hS hown (hts _ hlink) (fun x h => by rw [← href]; exact h) hdg (k H locs ls hP hD hS hl)
theorem bv_tlen (C : O2 X cc nL ret ws own rm D cl tys al N) {t n : Nat} {f : Nat → Value} {ty : FieldType} {v : Int32} (hz : ∀ (A : Nat → Prop) (U : State), N A U → va_T ty t n f A U U.heap) (hv : Int32.ofNat n = v) (hdg : decode cc pc = .ok (.arraylength, 1))
    (k : V2 X cs sl w (pc + 1) lv (.int v :: st)) : V2 X cs sl w pc lv (.ref t :: st) := by
  obtain ⟨p, l, e, R, s, m, args, below, meth, c, D', cl', tys', al', N', nL', Q⟩ := X
  obtain ⟨hx, hb, hml, hown, hts, hr, hlk, rfl, hK, hN, hNK, rfl, rfl, rfl, rfl, rfl, rfl⟩ := C
  intro H locs ls hP hD hS hl
  exact va_tlen hx hb (hz _ _ hN) hS hv hdg (k H locs ls hP hD hS hl)
theorem bv_tb (C : O2 X cc nL ret ws own rm D cl tys al N) {t n : Nat} {f : Nat → Value} {i : Int32} {v : Value} (hz : ∀ (A : Nat → Prop) (U : State), N A U → va_T .byte t n f A U U.heap) (hi : vp_in i n) (hv : f i.toNatClampNeg = v) (hdg : decode cc pc = .ok (.baload, 1))
    (k : V2 X cs sl w (pc + 1) lv (v :: st)) : V2 X cs sl w pc lv (.int i :: .ref t :: st) := by
  obtain ⟨p, l, e, R, s, m, args, below, meth, c, D', cl', tys', al', N', nL', Q⟩ := X
  obtain ⟨hx, hb, hml, hown, hts, hr, hlk, rfl, hK, hN, hNK, rfl, rfl, rfl, rfl, rfl, rfl⟩ := C
  intro H locs ls hP hD hS hl
  exact va_tb hx hb (hz _ _ hN) hS hi hv hdg (k H locs ls hP hD hS hl)
theorem bv_alen (C : O2 X cc nL ret ws own rm D cl tys al N) {cA : ClassId} {q : Nat} {x : vp_A} (q0 t0 : Nat) (he : w[q0]? = some (q, .inl (cA, x))) {ty : FieldType} (ht : tys[t0]? = some (cA, ty)) {v : Int32} (hv : Int32.ofNat x.1 = v) (hdg : decode cc pc = .ok (.arraylength, 1))
    (k : V2 X cs sl w (pc + 1) lv (.int v :: st)) : V2 X cs sl w pc lv (.ref q :: st) := by
  obtain ⟨p, l, e, R, s, m, args, below, meth, c, D', cl', tys', al', N', nL', Q⟩ := X
  obtain ⟨hx, hb, hml, hown, hts, hr, hlk, rfl, hK, hN, hNK, rfl, rfl, rfl, rfl, rfl, rfl⟩ := C
  intro H locs ls hP hD hS hl
  exact va_alen hx hb hK hP q0 t0 he ht hv hdg (k H locs ls hP hD hS hl)
theorem bv_ldcS (C : O2 X cc nL ret ws own rm D cl tys al N) {index q : Nat} {tx : String} (hz : ∀ (A : Nat → Prop) (U : State), N A U → vk_R own index tx q U) (hdg : decode cc pc = .ok (.ldc index, 2))
    (k : V2 X cs sl w (pc + 2) lv (.ref q :: st)) : V2 X cs sl w pc lv st := by
  obtain ⟨p, l, e, R, s, m, args, below, meth, c, D', cl', tys', al', N', nL', Q⟩ := X
  obtain ⟨hx, hb, hml, hown, hts, hr, hlk, rfl, hK, hN, hNK, rfl, rfl, rfl, rfl, rfl, rfl⟩ := C
  intro H locs ls hP hD hS hl
  exact va_ldcS hx hb hown (hz _ _ hN) hdg (k H locs ls hP hD hS hl)
theorem bv_ldcwS (C : O2 X cc nL ret ws own rm D cl tys al N) {index q : Nat} {tx : String} (hz : ∀ (A : Nat → Prop) (U : State), N A U → vk_R own index tx q U) (hdg : decode cc pc = .ok (.ldc_w index, 3))
    (k : V2 X cs sl w (pc + 3) lv (.ref q :: st)) : V2 X cs sl w pc lv st := by
  obtain ⟨p, l, e, R, s, m, args, below, meth, c, D', cl', tys', al', N', nL', Q⟩ := X
  obtain ⟨hx, hb, hml, hown, hts, hr, hlk, rfl, hK, hN, hNK, rfl, rfl, rfl, rfl, rfl, rfl⟩ := C
  intro H locs ls hP hD hS hl
  intro T hT X9
  obtain ⟨t, a1, b1⟩ := k H locs ls hP hD hS hl T hT X9
  exact ⟨t, X9.ldcStringW hx hown (text := tx) (a := q) (hz _ _ hN).1 (hz _ _ hN).2 (g := F0 m pc ls st) rfl (by rw [hb]; exact hdg) t a1, b1⟩
theorem bv_copyb (C : O2 X cc nL ret ws own rm D cl tys al N) {index q q9 : Nat} {c0 c1 : ClassId} {n0 n1 : Nat} {f g : Nat → Int32} {sp dp n : Int32} (h1 : Cond.methodLink own index arraycopyName ∈ ws) (h2 : Cond.native arraycopyName ∈ ws) (h3 : Cond.static arraycopyName ∈ ws) (h4 : Cond.initialized "java/lang/System" ∈ ws) (q0 q1 t0 t1 : Nat) (ha0 : w[q0]? = some (q9, .inl (c0, n0, .inl f))) (ha1 : w[q1]? = some (q, .inl (c1, n1, .inl g))) (ht0 : tys[t0]? = some (c0, .byte)) (ht1 : tys[t1]? = some (c1, .byte)) (g1 : ¬ sp < 0) (g2 : ¬ dp < 0) (g3 : ¬ n < 0) (g4 : sp.toNatClampNeg + n.toNatClampNeg ≤ n0) (g5 : dp.toNatClampNeg + n.toNatClampNeg ≤ n1) (gf : ∀ i, i < n.toNatClampNeg → fits .byte (.int (f (sp.toNatClampNeg + i))) = true) (hwf : w.set q1 (q, .inl (c1, n1, .inl (va_cpy f g sp.toNatClampNeg dp.toNatClampNeg n.toNatClampNeg))) = w1) (hfr : 1 ≤ rm.frames) (hlo : (st.map fun v => v.category).sum + (nativeFrameWords "java/lang/System" "arraycopy" 5 + 11) ≤ rm.locals) (hdg : decode cc pc = .ok (.invokestatic index, 3))
    (k : V2 X cs sl w1 (pc + 3) lv st) : V2 X cs sl w pc lv (.int n :: .int dp :: .ref q :: .int sp :: .ref q9 :: st) := by
  subst hwf
  obtain ⟨p, l, e, R, s, m, args, below, meth, c, D', cl', tys', al', N', nL', Q⟩ := X
  obtain ⟨hx, hb, hml, hown, hts, hr, hlk, rfl, hK, hN, hNK, rfl, rfl, rfl, rfl, rfl, rfl⟩ := C
  intro H locs ls hP hD hS hl
  exact va_copyi hx hb (hml.trans hl.1.symm) hown (hts _ h1) (hts _ h2) (hts _ h3) (hts _ h4) hK hP hD hS q0 q1 t0 t1 ha0 ha1 ht0 ht1 rfl g1 g2 g3 g4 g5 gf hfr hlo hdg (fun H1 locs1 hP1 hD1 hS1 => k H1 locs1 ls hP1 hD1 hS1 hl)
theorem bv_copyt (C : O2 X cc nL ret ws own rm D cl tys al N) {index q b0 : Nat} {c1 : ClassId} {n0 n1 : Nat} {f g : Nat → Int32} {sp dp n : Int32} (h1 : Cond.methodLink own index arraycopyName ∈ ws) (h2 : Cond.native arraycopyName ∈ ws) (h3 : Cond.static arraycopyName ∈ ws) (h4 : Cond.initialized "java/lang/System" ∈ ws) (hz : ∀ (A : Nat → Prop) (U : State), N A U → va_T .byte b0 n0 (fun j => .int (f j)) A U U.heap) (q1 t1 : Nat) (ha1 : w[q1]? = some (q, .inl (c1, n1, .inl g))) (ht1 : tys[t1]? = some (c1, .byte)) (g1 : ¬ sp < 0) (g2 : ¬ dp < 0) (g3 : ¬ n < 0) (g4 : sp.toNatClampNeg + n.toNatClampNeg ≤ n0) (g5 : dp.toNatClampNeg + n.toNatClampNeg ≤ n1) (gf : ∀ i, i < n.toNatClampNeg → fits .byte (.int (f (sp.toNatClampNeg + i))) = true) (hwf : w.set q1 (q, .inl (c1, n1, .inl (va_cpy f g sp.toNatClampNeg dp.toNatClampNeg n.toNatClampNeg))) = w1) (hfr : 1 ≤ rm.frames) (hlo : (st.map fun v => v.category).sum + (nativeFrameWords "java/lang/System" "arraycopy" 5 + 11) ≤ rm.locals) (hdg : decode cc pc = .ok (.invokestatic index, 3))
    (k : V2 X cs sl w1 (pc + 3) lv st) : V2 X cs sl w pc lv (.int n :: .int dp :: .ref q :: .int sp :: .ref b0 :: st) := by
  subst hwf
  obtain ⟨p, l, e, R, s, m, args, below, meth, c, D', cl', tys', al', N', nL', Q⟩ := X
  obtain ⟨hx, hb, hml, hown, hts, hr, hlk, rfl, hK, hN, hNK, rfl, rfl, rfl, rfl, rfl, rfl⟩ := C
  intro H locs ls hP hD hS hl
  exact vk_copyt hx hb (hml.trans hl.1.symm) hown (hts _ h1) (hts _ h2) (hts _ h3) (hts _ h4) hK hP hD hS (hz _ _ hN) q1 t1 ha1 ht1 g1 g2 g3 g4 g5 gf hfr hlo hdg (fun H1 locs1 hP1 hD1 hS1 => k H1 locs1 ls hP1 hD1 hS1 hl)
theorem bv_lald (C : O2 X cc nL ret ws own rm D cl tys al N) {cA : ClassId} {n q : Nat} {f : Nat → Int64} {i : Int32} {x : Int64} (q0 t0 : Nat) (he : w[q0]? = some (q, .inl (cA, n, .inr (.inl f)))) (ht : tys[t0]? = some (cA, .long)) (hi : vp_in i n) (hx9 : f i.toNatClampNeg = x) (hdg : decode cc pc = .ok (.laload, 1))
    (k : V2 X cs sl w (pc + 1) lv (.long x :: st)) : V2 X cs sl w pc lv (.int i :: .ref q :: st) := by
  subst hx9
  obtain ⟨p, l, e, R, s, m, args, below, meth, c, D', cl', tys', al', N', nL', Q⟩ := X
  obtain ⟨hx, hb, hml, hown, hts, hr, hlk, rfl, hK, hN, hNK, rfl, rfl, rfl, rfl, rfl, rfl⟩ := C
  intro H locs ls hP hD hS hl
  exact va_lald hx hb hK hP q0 t0 he ht hi hdg (k H locs ls hP hD hS hl)
theorem bv_iast (C : O2 X cc nL ret ws own rm D cl tys al N) {cA : ClassId} {n q : Nat} {f : Nat → Int32} {i : Int32} {x : Int32} (q0 t0 : Nat) (he : w[q0]? = some (q, .inl (cA, n, .inl f))) (ht : tys[t0]? = some (cA, .int)) (hi : vp_in i n) (hwf : w.set q0 (q, .inl (cA, n, .inl (upd f i.toNatClampNeg x))) = w1) (hdg : decode cc pc = .ok (.iastore, 1))
    (k : V2 X cs sl w1 (pc + 1) lv st) : V2 X cs sl w pc lv (.int x :: .int i :: .ref q :: st) := by
  subst hwf
  obtain ⟨p, l, e, R, s, m, args, below, meth, c, D', cl', tys', al', N', nL', Q⟩ := X
  obtain ⟨hx, hb, hml, hown, hts, hr, hlk, rfl, hK, hN, hNK, rfl, rfl, rfl, rfl, rfl, rfl⟩ := C
  intro H locs ls hP hD hS hl
  exact va_iast hx hb hK hP hD hS q0 t0 he ht hi hdg (fun H1 locs1 hP1 hD1 hS1 => k H1 locs1 ls hP1 hD1 hS1 hl)
theorem bv_last (C : O2 X cc nL ret ws own rm D cl tys al N) {cA : ClassId} {n q : Nat} {f : Nat → Int64} {i : Int32} {x : Int64} (q0 t0 : Nat) (he : w[q0]? = some (q, .inl (cA, n, .inr (.inl f)))) (ht : tys[t0]? = some (cA, .long)) (hi : vp_in i n) (hwf : w.set q0 (q, .inl (cA, n, .inr (.inl (vp_updL f i.toNatClampNeg x)))) = w1) (hdg : decode cc pc = .ok (.lastore, 1))
    (k : V2 X cs sl w1 (pc + 1) lv st) : V2 X cs sl w pc lv (.long x :: .int i :: .ref q :: st) := by
  subst hwf
  obtain ⟨p, l, e, R, s, m, args, below, meth, c, D', cl', tys', al', N', nL', Q⟩ := X
  obtain ⟨hx, hb, hml, hown, hts, hr, hlk, rfl, hK, hN, hNK, rfl, rfl, rfl, rfl, rfl, rfl⟩ := C
  intro H locs ls hP hD hS hl
  exact va_last hx hb hK hP hD hS q0 t0 he ht hi hdg (fun H1 locs1 hP1 hD1 hS1 => k H1 locs1 ls hP1 hD1 hS1 hl)
theorem bv_mmax (C : O2 X cc nL ret ws own rm D cl tys al N) {index : Nat} {x y v : Int32} (h1 : Cond.methodLink own index Lib.Math.max.name ∈ ws) (h2 : Cond.static Lib.Math.max.name ∈ ws) (h3 : Cond.initialized "java/lang/Math" ∈ ws) (h4 : Cond.code Lib.Math.max.name Lib.Math.max.code 2 (some .int) ∈ ws) (hfr : 1 ≤ rm.frames) (hlo : (st.map fun v => v.category).sum + 15 ≤ rm.locals) (hcs : cs ≤ rm.cells) (hsl : sl ≤ rm.slots) (hv : iMax x y = v) (hdg : decode cc pc = .ok (.invokestatic index, 3))
    (k : V2 X cs sl w (pc + 3) lv (.int v :: st)) : V2 X cs sl w pc lv (.int y :: .int x :: st) := by
  subst hv
  obtain ⟨p, l, e, R, s, m, args, below, meth, c, D', cl', tys', al', N', nL', Q⟩ := X
  obtain ⟨hx, hb, hml, hown, hts, hr, hlk, rfl, hK, hN, hNK, rfl, rfl, rfl, rfl, rfl, rfl⟩ := C
  intro H locs ls hP hD hS hl
  exact va_mmax hx hb (hml.trans hl.1.symm) hown (hts _ h1) (hts _ h2) (hts _ h3) (hts _ h4) hfr (by omega) hcs hsl hdg (k H locs ls hP hD hS hl)
theorem bv_mmin (C : O2 X cc nL ret ws own rm D cl tys al N) {index : Nat} {x y v : Int32} (h1 : Cond.methodLink own index Lib.Math.min.name ∈ ws) (h2 : Cond.static Lib.Math.min.name ∈ ws) (h3 : Cond.initialized "java/lang/Math" ∈ ws) (h4 : Cond.code Lib.Math.min.name Lib.Math.min.code 2 (some .int) ∈ ws) (hfr : 1 ≤ rm.frames) (hlo : (st.map fun v => v.category).sum + 15 ≤ rm.locals) (hcs : cs ≤ rm.cells) (hsl : sl ≤ rm.slots) (hv : iMin x y = v) (hdg : decode cc pc = .ok (.invokestatic index, 3))
    (k : V2 X cs sl w (pc + 3) lv (.int v :: st)) : V2 X cs sl w pc lv (.int y :: .int x :: st) := by
  subst hv
  obtain ⟨p, l, e, R, s, m, args, below, meth, c, D', cl', tys', al', N', nL', Q⟩ := X
  obtain ⟨hx, hb, hml, hown, hts, hr, hlk, rfl, hK, hN, hNK, rfl, rfl, rfl, rfl, rfl, rfl⟩ := C
  intro H locs ls hP hD hS hl
  exact va_mmin hx hb (hml.trans hl.1.symm) hown (hts _ h1) (hts _ h2) (hts _ h3) (hts _ h4) hfr (by omega) hcs hsl hdg (k H locs ls hP hD hS hl)
theorem bv_new (C : O2 X cc nL ret ws own rm D cl tys al N) {C9 : String} {T : u_T} {n ci index : Nat} (hin : ∀ w ∈ u_ws C9 T n, w ∈ ws) (ty : Nat → FieldType) (hty : ∀ k, k < n → parseFieldDescriptor (T k).2.2.1 = some (ty k)) (hcl : Cond.classLink own index C9 ∈ ws) (hinst : Cond.instantiable C9 n ∈ ws) (hini : Cond.initialized C9 ∈ ws) (hc : cl[ci]? = some (C9, T, n)) {fs : List Value} (hfs : ∀ j, j < n → defaultValue (ty j) = vp_V fs j) (hcells : cs + 1 ≤ rm.cells) (hslots : sl + n ≤ rm.slots) (hdg : decode cc pc = .ok (.new index, 3))
    (k : ∀ q : Nat, V2 X (cs + 1) (sl + n) (w ++ [(q, .inr (ci, fs))]) (pc + 3) lv (.ref q :: st)) : V2 X cs sl w pc lv st := by
  obtain ⟨p, l, e, R, s, m, args, below, meth, c, D', cl', tys', al', N', nL', Q⟩ := X
  obtain ⟨hx, hb, hml, hown, hts, hr, hlk, rfl, hK, hN, hNK, rfl, rfl, rfl, rfl, rfl, rfl⟩ := C
  intro H locs ls hP hD hS hl
  exact va_new hx hb hts hin ty hty hown (hts _ hcl) (hts _ hinst) (hts _ hini) hK hP hD hS (fun q h => Or.inr h) hc hfs hcells hslots hdg (fun q H1 hP1 hD1 hS1 => k q H1 locs ls hP1 hD1 hS1 hl)
theorem bv_newa (C : O2 X cc nL ret ws own rm D cl tys al N) {atype : ArrayType} {cA : ClassId} {ty : FieldType} (hty : newarray.typeOf atype = ty) (harr : Cond.arrayClass ty ∈ ws) (t0 : Nat) (ht0 : tys[t0]? = some (cA, ty)) {n : Int32} {n9 : Nat} {a0 : vp_A} (ha : ∀ cA : ClassId, vp_cell cA a0 = arrV cA n9 (fun _ => defaultValue ty)) (hn : ¬ n < 0) (hn9 : n.toNatClampNeg = n9) (hbytes : n9 * componentBytes ty ≤ 536870912) (hcells : cs + 1 ≤ rm.cells) (hslots : sl + n9 ≤ rm.slots) (hra : ∀ U, va_RA U cA ty → U.vm.findClass ("[" ++ ty.toString) = some cA) (hdg : decode cc pc = .ok (.newarray atype, 2))
    (k : ∀ q : Nat, V2 X (cs + 1) (sl + n9) (w ++ [(q, .inl (cA, a0))]) (pc + 2) lv (.ref q :: st)) : V2 X cs sl w pc lv (.int n :: st) := by
  obtain ⟨p, l, e, R, s, m, args, below, meth, c, D', cl', tys', al', N', nL', Q⟩ := X
  obtain ⟨hx, hb, hml, hown, hts, hr, hlk, rfl, hK, hN, hNK, rfl, rfl, rfl, rfl, rfl, rfl⟩ := C
  intro H locs ls hP hD hS hl
  subst hty
  refine va_newaK hx hb (hts _ harr) rfl hdg rfl hn hn9 hbytes hcells hslots rfl fun H1 cB e1 z1 o1 hAr hNm => ?_
  have hcc : cB = cA := Option.some.inj (hNm.symm.trans (hra _ (hK.2 t0 _ ht0).2))
  subst hcc
  have hk : ∀ (k : Nat) (x : Nat × va_E), w[k]? = some x → H1[x.1]? = H[x.1]? := fun k x hx => o1 x.1 ((hP k x hx).lt)
  refine k H.size H1 locs ls ((hP.kept hk).app (fun k x hx => ?_)) (hD.push hP rfl (Or.inr hS.1)) ⟨Nat.le_trans hS.1 (by omega), fun x h1 h2 => (o1 x (Nat.lt_of_lt_of_le h1 hS.1)).trans (hS.2.1 x h1 h2), hS.2.2⟩ hl
  have hz : k < 1 := (List.getElem?_eq_some_iff.mp hx).1
  rw [show k = 0 by omega] at hx
  cases hx
  show H1[H.size]? = some (vp_cell _ _)
  rw [ha]
  exact e1
theorem fit_cell {cA : ClassId} {n : Nat} {f : Nat → Int32} (h : sb_Fit f) : ∀ (i : Nat) (v : Value), (vp_cell cA (n, .inl f)).slots[i]? = some v → fits .byte v = true := by
  intro i v hv
  have hl : i < (arrV cA n (fun j => .int (f j))).slots.size := (Array.getElem?_eq_some_iff.mp hv).1
  rw [arrV_size] at hl
  have h1 : (arrV cA n (fun j => .int (f j))).slots[i]? = some (.int (f i)) := arrV_read _ _ hl
  have h2 : some (Value.int (f i)) = some v := h1.symm.trans hv
  rw [← Option.some.inj h2]
  exact h i
theorem bv_clone (C : O2 X cc nL ret ws own rm D cl tys al N) {ad : String} {index a : Nat} (h1 : Cond.methodLink own index ⟨ad, "clone", "()Ljava/lang/Object;"⟩ ∈ ws) (h2 : Cond.sameMethod ad "java/lang/Object" "clone" "()Ljava/lang/Object;" ∈ ws) (h3 : Cond.native ⟨"java/lang/Object", "clone", "()Ljava/lang/Object;"⟩ ∈ ws) (h4 : Cond.instanceMethod ⟨"java/lang/Object", "clone", "()Ljava/lang/Object;"⟩ ∈ ws) (h5 : Cond.selects ad ⟨ad, "clone", "()Ljava/lang/Object;"⟩ ⟨"java/lang/Object", "clone", "()Ljava/lang/Object;"⟩ ∈ ws) (hcl : ∀ (A : Nat → Prop) (U : State), N A U → va_Nw (.castable ad "java/lang/Cloneable") U) (q0 t0 : Nat) {cA : ClassId} {x : vp_A} {ty : FieldType} (ha : w[q0]? = some (a, .inl (cA, x))) (ht : tys[t0]? = some (cA, ty)) (hra : ∀ U, va_RA U cA ty → U.vm.findClass ad = some cA) (hfit : ∀ (i : Nat) (v : Value), (vp_cell cA x).slots[i]? = some v → fits ty v = true) (hfr : 1 ≤ rm.frames) (hlo : (st.map fun v => v.category).sum + 14 ≤ rm.locals) (hcells : cs + 1 ≤ rm.cells) (hslots : sl + x.1 ≤ rm.slots) (hdg : decode cc pc = .ok (.invokevirtual index, 3))
    (k : ∀ q : Nat, V2 X (cs + 1) (sl + x.1) (w ++ [(q, .inl (cA, x))]) (pc + 3) lv (.ref q :: st)) : V2 X cs sl w pc lv (.ref a :: st) := by
  obtain ⟨p, l, e, R, s, m, args, below, meth, c, D', cl', tys', al', N', nL', Q⟩ := X
  obtain ⟨hx, hb, hml, hown, hts, hr, hlk, rfl, hK, hN, hNK, rfl, rfl, rfl, rfl, rfl, rfl⟩ := C
  intro H locs ls hP hD hS hl
  exact va_clone hx hb (hml.trans hl.1.symm) hown (hts _ h1) (hts _ h2) (hts _ h3) (hts _ h4) (hts _ h5) (hcl _ _ hN) hK hP hD hS (fun q h => Or.inr h) q0 t0 ha ht (hra _ (hK.2 t0 _ ht).2) hfit hfr hlo hcells hslots hdg (fun q H1 _ hP1 hD1 hS1 => k q H1 locs ls hP1 hD1 hS1 hl)
theorem bv_castA (C : O2 X cc nL ret ws own rm D cl tys al N) {nm : String} {index a : Nat} (hlink : Cond.classLink own index nm ∈ ws) (q0 t0 : Nat) {cA : ClassId} {x : vp_A} {ty : FieldType} (ha : w[q0]? = some (a, .inl (cA, x))) (ht : tys[t0]? = some (cA, ty)) (hra : ∀ U, va_RA U cA ty → U.vm.findClass nm = some cA) (hdg : decode cc pc = .ok (.checkcast index, 3))
    (k : V2 X cs sl w (pc + 3) lv (.ref a :: st)) : V2 X cs sl w pc lv (.ref a :: st) := by
  obtain ⟨p, l, e, R, s, m, args, below, meth, c, D', cl', tys', al', N', nL', Q⟩ := X
  obtain ⟨hx, hb, hml, hown, hts, hr, hlk, rfl, hK, hN, hNK, rfl, rfl, rfl, rfl, rfl, rfl⟩ := C
  intro H locs ls hP hD hS hl
  exact va_castA hx hb hown (hts _ hlink) hP q0 ha (hra _ (hK.2 t0 _ ht).2) hdg (k H locs ls hP hD hS hl)
theorem bv_vret (C : O2 X cc nL none ws own rm D cl tys al N) {mc ms : Nat} {P : Option Value → va_W → Prop} (hE : E2 X mc ms P) (hcs : cs ≤ mc) (hsl : sl ≤ ms) (hp : P none w) (hdg : decode cc pc = .ok (.return_, 1)) : V2 X cs sl w pc lv [] := by
  obtain ⟨p, l, e, R, s, m, args, below, meth, c, D', cl', tys', al', N', nL', Q⟩ := X
  obtain ⟨hx, hb, hml, hown, hts, hr, hlk, rfl, hK, hN, hNK, rfl, rfl, rfl, rfl, rfl, rfl⟩ := C
  cases hE
  intro H locs ls hP hD hS hl
  exact W.widen hcs hsl (W.vret hx hb hr (fun t ht hW => ⟨⟨_, _, rfl, hp, by rw [ht]; exact hP, hD⟩, hS.F ht⟩) hS.2.2 hdg hlk)
theorem bv_iret (C : O2 X cc nL (some .int) ws own rm D cl tys al N) {mc ms : Nat} {P : Option Value → va_W → Prop} (hE : E2 X mc ms P) {x : Int32} (hcs : cs ≤ mc) (hsl : sl ≤ ms) (hp : P (some (.int x)) w) (hdg : decode cc pc = .ok (.ireturn, 1)) : V2 X cs sl w pc lv [.int x] := by
  obtain ⟨p, l, e, R, s, m, args, below, meth, c, D', cl', tys', al', N', nL', Q⟩ := X
  obtain ⟨hx, hb, hml, hown, hts, hr, hlk, rfl, hK, hN, hNK, rfl, rfl, rfl, rfl, rfl, rfl⟩ := C
  cases hE
  intro H locs ls hP hD hS hl
  exact W.widen hcs hsl (W.iret (v := x) hx hb hr (fun t ht hW => ⟨⟨_, _, rfl, hp, by rw [ht]; exact hP, hD⟩, hS.F ht⟩) hS.2.2 hdg hlk)
theorem bv_zret {ty9 : FieldType} (C : O2 X cc nL (some ty9) ws own rm D cl tys al N) {mc ms : Nat} {P : Option Value → va_W → Prop} (hE : E2 X mc ms P) {x : Int32} (hn9 : narrow ty9 (.int x) = .int x) (hcs : cs ≤ mc) (hsl : sl ≤ ms) (hp : P (some (.int x)) w) (hdg : decode cc pc = .ok (.ireturn, 1)) : V2 X cs sl w pc lv [.int x] := by
  obtain ⟨p, l, e, R, s, m, args, below, meth, c, D', cl', tys', al', N', nL', Q⟩ := X
  obtain ⟨hx, hb, hml, hown, hts, hr, hlk, rfl, hK, hN, hNK, rfl, rfl, rfl, rfl, rfl, rfl⟩ := C
  cases hE
  intro H locs ls hP hD hS hl
  exact W.widen hcs hsl (W.zret (v := x) hx hb hr hn9 (fun t ht hW => ⟨⟨_, _, rfl, hp, by rw [ht]; exact hP, hD⟩, hS.F ht⟩) hS.2.2 hdg hlk)
theorem bv_lret (C : O2 X cc nL (some .long) ws own rm D cl tys al N) {mc ms : Nat} {P : Option Value → va_W → Prop} (hE : E2 X mc ms P) {x : Int64} (hcs : cs ≤ mc) (hsl : sl ≤ ms) (hp : P (some (.long x)) w) (hdg : decode cc pc = .ok (.lreturn, 1)) : V2 X cs sl w pc lv [.long x] := by
  obtain ⟨p, l, e, R, s, m, args, below, meth, c, D', cl', tys', al', N', nL', Q⟩ := X
  obtain ⟨hx, hb, hml, hown, hts, hr, hlk, rfl, hK, hN, hNK, rfl, rfl, rfl, rfl, rfl, rfl⟩ := C
  cases hE
  intro H locs ls hP hD hS hl
  exact W.widen hcs hsl (W.lret (v := x) hx hb hr (fun t ht hW => ⟨⟨_, _, rfl, hp, by rw [ht]; exact hP, hD⟩, hS.F ht⟩) hS.2.2 hdg hlk)
theorem bv_aret {ty9 : FieldType} (C : O2 X cc nL (some ty9) ws own rm D cl tys al N) {mc ms : Nat} {P : Option Value → va_W → Prop} (hE : E2 X mc ms P) {x : Nat} (hrt : (∃ n, ty9 = .object n) ∨ ∃ t, ty9 = .array t) (hcs : cs ≤ mc) (hsl : sl ≤ ms) (hp : P (some (.ref x)) w) (hdg : decode cc pc = .ok (.areturn, 1)) : V2 X cs sl w pc lv [.ref x] := by
  obtain ⟨p, l, e, R, s, m, args, below, meth, c, D', cl', tys', al', N', nL', Q⟩ := X
  obtain ⟨hx, hb, hml, hown, hts, hr, hlk, rfl, hK, hN, hNK, rfl, rfl, rfl, rfl, rfl, rfl⟩ := C
  cases hE
  intro H locs ls hP hD hS hl
  exact W.widen hcs hsl (W.aret (v := .ref x) hx hb hr hrt (Or.inr ⟨x, rfl⟩) (fun t ht hW => ⟨⟨_, _, rfl, hp, by rw [ht]; exact hP, hD⟩, hS.F ht⟩) hS.2.2 hdg hlk)
theorem bv_objInit (C : O2 X cc nL ret ws own rm D cl tys al N) {index a : Nat} (h1 : Cond.methodLink own index Lib.objectInit ∈ ws) (h2 : Cond.instanceMethod Lib.objectInit ∈ ws) (h3 : Cond.code Lib.objectInit ⟨#[0xb1]⟩ 1 none ∈ ws) (hfr : 1 ≤ rm.frames) (hlo : (st.map fun v => v.category).sum + 12 ≤ rm.locals) (hdg : decode cc pc = .ok (.invokespecial index, 3))
    (k : V2 X cs sl w (pc + 3) lv st) : V2 X cs sl w pc lv (.ref a :: st) := by
  obtain ⟨p, l, e, R, s, m, args, below, meth, c, D', cl', tys', al', N', nL', Q⟩ := X
  obtain ⟨hx, hb, hml, hown, hts, hr, hlk, rfl, hK, hN, hNK, rfl, rfl, rfl, rfl, rfl, rfl⟩ := C
  intro H locs ls hP hD hS hl
  exact W.objInit hx hb hown (hts _ h1) (hts _ h2) (hts _ h3) rfl (hl.1.trans hml.symm) rfl hdg hfr (by show 2 * 0 + _ + 12 ≤ _; omega) (k H locs ls hP hD hS hl)
end VV2
def Rm2 (rmc rm : Room) (maxL mc ms cs sl : Nat) : Prop := rmc.cells = mc ∧ rmc.slots = ms ∧ rmc.frames + 1 ≤ rm.frames ∧ 8 + (maxL + 11) + rmc.locals ≤ rm.locals ∧ cs + mc ≤ rm.cells ∧ sl + ms ≤ rm.slots
section VC2
variable {X : CX} {cs sl : Nat} {w w' w1 : va_W} {pc : Nat} {lv lv' : List (Nat × Value)} {st stk : List Value} {cc : ByteArray} {nL : Nat} {ret : Option FieldType} {ws : List Cond} {own : String} {rm : Room} {D : va_G} {cl : List vw_C} {tys : List (ClassId × FieldType)} {al : List Nat} {N : (Nat → Prop) → State → Prop}
variable {y : MethodName} {bytes : ByteArray} {maxL index mc ms : Nat} {retc : Option FieldType} {wsc wsc' : List Cond} {rmc : Room} {tysc : List (ClassId × FieldType)} {Nc : (Nat → Prop) → State → Prop} {alc : List Nat} {As : List Value} {b : Nat} {wc wr wc' : va_W} {isC isR : List Nat} {P : Option Value → va_W → Prop} {rvc : Option Value}
theorem bv_aS (C : O2 X cc nL ret ws own rm D cl tys al N) (hM : ∀ l : Launch, aMet l y wsc rmc D cl tysc Nc alc As wc mc ms P) (hcut : Cut w wc wr isC isR) (halc : wc.map Prod.fst = alc) (hKc : ∀ U, va_K D cl tys U → va_K D cl tysc U) (hNt : NTo ws D cl tys N al w Nc alc) (hNc : NOK Nc) (hG : GoodIn ws (va_wsS own index y wsc)) (hw : wsc = Cond.code y bytes maxL retc :: wsc') (hnm : NameIn y As.length) (hrm : Rm2 rmc rm maxL mc ms cs sl) (hdg : decode cc pc = .ok (.invokestatic index, 3)) (hst : (st.map fun v => v.category).sum ≤ 8) (hstk : stk = As.reverse ++ st)
    (k : ∀ (rv : Option Value) (w' : va_W), P rv w' → V2 X (cs + mc) (sl + ms) (wr ++ w') (pc + 3) lv (rv.toList ++ st)) : V2 X cs sl w pc lv stk := by
  obtain ⟨p, l, e, R, s, m, args, below, meth, c, D', cl', tys', al', N', nL', Q⟩ := X
  obtain ⟨hx, hb, hml, hown, hts, hr, hlk, rfl, hK, hN, hNK, rfl, rfl, rfl, rfl, rfl, rfl⟩ := C
  intro H locs ls hP hD hS hl
  exact bv_go (va_runS (As := As) (rest := st) ⟨hx, hb, hml, hown, hts⟩ (hM l H.size) (va_cwS As.length hts hG hw hrm.1 hrm.2.1 hnm ⟨hrm.2.2.1, hrm.2.2.2.1⟩) ⟨aPre_blind hNc, fun U hU hW => ⟨rfl, bv_pre hts hP hD hK hN hS hcut halc hKc hNt U hU hW⟩⟩ rfl rfl hl.1 hstk (lv_room hst) hdg hrm.2.2.2.2) hS (gA_to hD hS isC hcut.1 halc) (fun rv w' H1 locs1 hp hP1 hD1 hk1 hS1 => k rv w' hp H1 locs1 ls (bv_join hP hD hS hcut halc hk1 hP1 hD1).1 (bv_join hP hD hS hcut halc hk1 hP1 hD1).2 hS1 hl)
theorem bv_pre0 {A : Nat → Prop} {sz : Nat} (hD : va_D A w) (hcut : Cut w wc wr isC isR) (halc : wc.map Prod.fst = alc) : va_D (gA alc sz) wc :=
  ⟨(hD.sub isC hcut.2.2.1 hcut.1).1, fun k q hk => (gA_va halc).mpr (va_A.in hk)⟩
theorem bv_kS (C : O2 X cc nL ret ws own rm D cl tys al N) (hM : ∀ l : Launch, kMet l y wsc rmc D cl tysc Nc alc As wc rvc wc') (hfst : wc'.map Prod.fst = wc.map Prod.fst) (hcut : Cut w wc wr isC isR) (halc : wc.map Prod.fst = alc) (hKc : ∀ U, va_K D cl tys U → va_K D cl tysc U) (hNt : NTo ws D cl tys N al w Nc alc) (hNc : NOK Nc) (hG : GoodIn ws (va_wsS own index y wsc)) (hw : wsc = Cond.code y bytes maxL retc :: wsc') (hnm : NameIn y As.length) (hrm : Rm2 rmc rm maxL 0 0 cs sl) (hdg : decode cc pc = .ok (.invokestatic index, 3)) (hst : (st.map fun v => v.category).sum ≤ 8) (hstk : stk = As.reverse ++ st)
    (k : V2 X cs sl (wr ++ wc') (pc + 3) lv (rvc.toList ++ st)) : V2 X cs sl w pc lv stk := by
  obtain ⟨p, l, e, R, s, m, args, below, meth, c, D', cl', tys', al', N', nL', Q⟩ := X
  obtain ⟨hx, hb, hml, hown, hts, hr, hlk, rfl, hK, hN, hNK, rfl, rfl, rfl, rfl, rfl, rfl⟩ := C
  intro H locs ls hP hD hS hl
  have hDc : va_D (gA alc H.size) wc' := bv_Dfst (bv_pre0 hD hcut halc) hfst
  refine bv_go (a := args) (mc := 0) (ms := 0) (P := fun rv w' => rv = rvc ∧ w' = wc') (va_Run.mono (va_runS (As := As) (rest := st) ⟨hx, hb, hml, hown, hts⟩ (hM l H.size) (va_cwS As.length hts hG hw hrm.1 hrm.2.1 hnm ⟨hrm.2.2.1, hrm.2.2.2.1⟩) ⟨kPre_blind hNc, fun U hU hW => ⟨rfl, (bv_pre hts hP hD hK hN hS hcut halc hKc hNt U hU hW).1⟩⟩ rfl rfl hl.1 hstk (lv_room hst) hdg hrm.2.2.2.2) (fun st o t h => ⟨⟨rvc, wc', h.1.1, ⟨rfl, rfl⟩, h.1.2, hDc⟩, h.2⟩)) hS (gA_to hD hS isC hcut.1 halc) (fun rv w' H1 locs1 hp hP1 hD1 hk1 hS1 => ?_)
  obtain ⟨rfl, rfl⟩ := hp
  exact k H1 locs1 ls (bv_join hP hD hS hcut halc hk1 hP1 hD1).1 (bv_join hP hD hS hcut halc hk1 hP1 hD1).2 hS1 hl
theorem bv_aV (C : O2 X cc nL ret ws own rm D cl tys al N) (hM : ∀ l : Launch, aMet l y wsc rmc D cl tysc Nc alc (.ref b :: As) wc mc ms P) (hcut : Cut w wc wr isC isR) (halc : wc.map Prod.fst = alc) (hKc : ∀ U, va_K D cl tys U → va_K D cl tysc U) (hNt : NTo ws D cl tys N al w Nc alc) (hNc : NOK Nc) (hG : GoodIn ws (wsV own index y.cls y wsc)) {q9 : vw_C} {ci9 : Nat} {fs9 : List Value} (q0 : Nat) (he9 : w[q0]? = some (b, .inr (ci9, fs9))) (hc9 : cl[ci9]? = some q9) (hq9 : q9.1 = y.cls) (hw : wsc = Cond.code y bytes maxL retc :: wsc') (hnm : NameIn y As.length) (hrm : Rm2 rmc rm maxL mc ms cs sl) (hdg : decode cc pc = .ok (.invokevirtual index, 3)) (hst : (st.map fun v => v.category).sum ≤ 8) (hstk : stk = As.reverse ++ .ref b :: st)
    (k : ∀ (rv : Option Value) (w' : va_W), P rv w' → V2 X (cs + mc) (sl + ms) (wr ++ w') (pc + 3) lv (rv.toList ++ st)) : V2 X cs sl w pc lv stk := by
  obtain ⟨p, l, e, R, s, m, args, below, meth, c, D', cl', tys', al', N', nL', Q⟩ := X
  obtain ⟨hx, hb, hml, hown, hts, hr, hlk, rfl, hK, hN, hNK, rfl, rfl, rfl, rfl, rfl, rfl⟩ := C
  intro H locs ls hP hD hS hl
  have hrc' : ∃ cell : Cell, H[b]? = some cell ∧ cell.vm.isStatics = false ∧ s.vm.findClass y.cls = some cell.cls := hq9 ▸ va_recv hK hP hc9 he9
  exact bv_go (va_runV (C := y.cls) (As := As) (rest := st) ⟨hx, hb, hml, hown, hts⟩ (hM l H.size) (cwV As.length hts hG hw hrm.1 hrm.2.1 ⟨rfl, hnm⟩ ⟨hrm.2.2.1, hrm.2.2.2.1⟩) ⟨aPre_blind hNc, hrc' , fun U hU hW => ⟨rfl, bv_pre hts hP hD hK hN hS hcut halc hKc hNt U hU hW⟩⟩ rfl rfl hl.1 hstk (lv_room hst) hdg hrm.2.2.2.2) hS (gA_to hD hS isC hcut.1 halc) (fun rv w' H1 locs1 hp hP1 hD1 hk1 hS1 => k rv w' hp H1 locs1 ls (bv_join hP hD hS hcut halc hk1 hP1 hD1).1 (bv_join hP hD hS hcut halc hk1 hP1 hD1).2 hS1 hl)
theorem bv_kV (C : O2 X cc nL ret ws own rm D cl tys al N) (hM : ∀ l : Launch, kMet l y wsc rmc D cl tysc Nc alc (.ref b :: As) wc rvc wc') (hfst : wc'.map Prod.fst = wc.map Prod.fst) (hcut : Cut w wc wr isC isR) (halc : wc.map Prod.fst = alc) (hKc : ∀ U, va_K D cl tys U → va_K D cl tysc U) (hNt : NTo ws D cl tys N al w Nc alc) (hNc : NOK Nc) (hG : GoodIn ws (wsV own index y.cls y wsc)) {q9 : vw_C} {ci9 : Nat} {fs9 : List Value} (q0 : Nat) (he9 : w[q0]? = some (b, .inr (ci9, fs9))) (hc9 : cl[ci9]? = some q9) (hq9 : q9.1 = y.cls) (hw : wsc = Cond.code y bytes maxL retc :: wsc') (hnm : NameIn y As.length) (hrm : Rm2 rmc rm maxL 0 0 cs sl) (hdg : decode cc pc = .ok (.invokevirtual index, 3)) (hst : (st.map fun v => v.category).sum ≤ 8) (hstk : stk = As.reverse ++ .ref b :: st)
    (k : V2 X cs sl (wr ++ wc') (pc + 3) lv (rvc.toList ++ st)) : V2 X cs sl w pc lv stk := by
  obtain ⟨p, l, e, R, s, m, args, below, meth, c, D', cl', tys', al', N', nL', Q⟩ := X
  obtain ⟨hx, hb, hml, hown, hts, hr, hlk, rfl, hK, hN, hNK, rfl, rfl, rfl, rfl, rfl, rfl⟩ := C
  intro H locs ls hP hD hS hl
  have hrc' : ∃ cell : Cell, H[b]? = some cell ∧ cell.vm.isStatics = false ∧ s.vm.findClass y.cls = some cell.cls := hq9 ▸ va_recv hK hP hc9 he9
  have hDc : va_D (gA alc H.size) wc' := bv_Dfst (bv_pre0 hD hcut halc) hfst
  refine bv_go (a := args) (mc := 0) (ms := 0) (P := fun rv w' => rv = rvc ∧ w' = wc') (va_Run.mono (va_runV (C := y.cls) (As := As) (rest := st) ⟨hx, hb, hml, hown, hts⟩ (hM l H.size) (cwV As.length hts hG hw hrm.1 hrm.2.1 ⟨rfl, hnm⟩ ⟨hrm.2.2.1, hrm.2.2.2.1⟩) ⟨kPre_blind hNc, hrc' , fun U hU hW => ⟨rfl, (bv_pre hts hP hD hK hN hS hcut halc hKc hNt U hU hW).1⟩⟩ rfl rfl hl.1 hstk (lv_room hst) hdg hrm.2.2.2.2) (fun st o t h => ⟨⟨rvc, wc', h.1.1, ⟨rfl, rfl⟩, h.1.2, hDc⟩, h.2⟩)) hS (gA_to hD hS isC hcut.1 halc) (fun rv w' H1 locs1 hp hP1 hD1 hk1 hS1 => ?_)
  obtain ⟨rfl, rfl⟩ := hp
  exact k H1 locs1 ls (bv_join hP hD hS hcut halc hk1 hP1 hD1).1 (bv_join hP hD hS hcut halc hk1 hP1 hD1).2 hS1 hl
theorem bv_aVr (C : O2 X cc nL ret ws own rm D cl tys al N) (hM : ∀ l : Launch, aMet l y wsc rmc D cl tysc Nc alc (.ref b :: As) wc mc ms P) (hcut : Cut w wc wr isC isR) (halc : wc.map Prod.fst = alc) (hKc : ∀ U, va_K D cl tys U → va_K D cl tysc U) (hNt : NTo ws D cl tys N al w Nc alc) (hNc : NOK Nc) (hG : GoodIn ws (wsV own index y.cls y wsc)) (hro : ∀ (A : Nat → Prop) (U : State), N A U → va_O y.cls b A U U.heap) (hw : wsc = Cond.code y bytes maxL retc :: wsc') (hnm : NameIn y As.length) (hrm : Rm2 rmc rm maxL mc ms cs sl) (hdg : decode cc pc = .ok (.invokevirtual index, 3)) (hst : (st.map fun v => v.category).sum ≤ 8) (hstk : stk = As.reverse ++ .ref b :: st)
    (k : ∀ (rv : Option Value) (w' : va_W), P rv w' → V2 X (cs + mc) (sl + ms) (wr ++ w') (pc + 3) lv (rv.toList ++ st)) : V2 X cs sl w pc lv stk := by
  obtain ⟨p, l, e, R, s, m, args, below, meth, c, D', cl', tys', al', N', nL', Q⟩ := X
  obtain ⟨hx, hb, hml, hown, hts, hr, hlk, rfl, hK, hN, hNK, rfl, rfl, rfl, rfl, rfl, rfl⟩ := C
  intro H locs ls hP hD hS hl
  have hrc' : ∃ cell : Cell, H[b]? = some cell ∧ cell.vm.isStatics = false ∧ s.vm.findClass y.cls = some cell.cls := va_Orecv (hro _ _ hN) hS
  exact bv_go (va_runV (C := y.cls) (As := As) (rest := st) ⟨hx, hb, hml, hown, hts⟩ (hM l H.size) (cwV As.length hts hG hw hrm.1 hrm.2.1 ⟨rfl, hnm⟩ ⟨hrm.2.2.1, hrm.2.2.2.1⟩) ⟨aPre_blind hNc, hrc' , fun U hU hW => ⟨rfl, bv_pre hts hP hD hK hN hS hcut halc hKc hNt U hU hW⟩⟩ rfl rfl hl.1 hstk (lv_room hst) hdg hrm.2.2.2.2) hS (gA_to hD hS isC hcut.1 halc) (fun rv w' H1 locs1 hp hP1 hD1 hk1 hS1 => k rv w' hp H1 locs1 ls (bv_join hP hD hS hcut halc hk1 hP1 hD1).1 (bv_join hP hD hS hcut halc hk1 hP1 hD1).2 hS1 hl)
theorem bv_kVr (C : O2 X cc nL ret ws own rm D cl tys al N) (hM : ∀ l : Launch, kMet l y wsc rmc D cl tysc Nc alc (.ref b :: As) wc rvc wc') (hfst : wc'.map Prod.fst = wc.map Prod.fst) (hcut : Cut w wc wr isC isR) (halc : wc.map Prod.fst = alc) (hKc : ∀ U, va_K D cl tys U → va_K D cl tysc U) (hNt : NTo ws D cl tys N al w Nc alc) (hNc : NOK Nc) (hG : GoodIn ws (wsV own index y.cls y wsc)) (hro : ∀ (A : Nat → Prop) (U : State), N A U → va_O y.cls b A U U.heap) (hw : wsc = Cond.code y bytes maxL retc :: wsc') (hnm : NameIn y As.length) (hrm : Rm2 rmc rm maxL 0 0 cs sl) (hdg : decode cc pc = .ok (.invokevirtual index, 3)) (hst : (st.map fun v => v.category).sum ≤ 8) (hstk : stk = As.reverse ++ .ref b :: st)
    (k : V2 X cs sl (wr ++ wc') (pc + 3) lv (rvc.toList ++ st)) : V2 X cs sl w pc lv stk := by
  obtain ⟨p, l, e, R, s, m, args, below, meth, c, D', cl', tys', al', N', nL', Q⟩ := X
  obtain ⟨hx, hb, hml, hown, hts, hr, hlk, rfl, hK, hN, hNK, rfl, rfl, rfl, rfl, rfl, rfl⟩ := C
  intro H locs ls hP hD hS hl
  have hrc' : ∃ cell : Cell, H[b]? = some cell ∧ cell.vm.isStatics = false ∧ s.vm.findClass y.cls = some cell.cls := va_Orecv (hro _ _ hN) hS
  have hDc : va_D (gA alc H.size) wc' := bv_Dfst (bv_pre0 hD hcut halc) hfst
  refine bv_go (a := args) (mc := 0) (ms := 0) (P := fun rv w' => rv = rvc ∧ w' = wc') (va_Run.mono (va_runV (C := y.cls) (As := As) (rest := st) ⟨hx, hb, hml, hown, hts⟩ (hM l H.size) (cwV As.length hts hG hw hrm.1 hrm.2.1 ⟨rfl, hnm⟩ ⟨hrm.2.2.1, hrm.2.2.2.1⟩) ⟨kPre_blind hNc, hrc' , fun U hU hW => ⟨rfl, (bv_pre hts hP hD hK hN hS hcut halc hKc hNt U hU hW).1⟩⟩ rfl rfl hl.1 hstk (lv_room hst) hdg hrm.2.2.2.2) (fun st o t h => ⟨⟨rvc, wc', h.1.1, ⟨rfl, rfl⟩, h.1.2, hDc⟩, h.2⟩)) hS (gA_to hD hS isC hcut.1 halc) (fun rv w' H1 locs1 hp hP1 hD1 hk1 hS1 => ?_)
  obtain ⟨rfl, rfl⟩ := hp
  exact k H1 locs1 ls (bv_join hP hD hS hcut halc hk1 hP1 hD1).1 (bv_join hP hD hS hcut halc hk1 hP1 hD1).2 hS1 hl
theorem bv_aU (C : O2 X cc nL ret ws own rm D cl tys al N) (hM : ∀ l : Launch, aMet l y wsc rmc D cl tysc Nc alc (.ref b :: As) wc mc ms P) (hcut : Cut w wc wr isC isR) (halc : wc.map Prod.fst = alc) (hKc : ∀ U, va_K D cl tys U → va_K D cl tysc U) (hNt : NTo ws D cl tys N al w Nc alc) (hNc : NOK Nc) {C9 owner : String} {x9 : MethodName} (hG : GoodIn ws (va_wsU own index C9 owner x9 y wsc)) (hyx : y = ⟨owner, x9.name, x9.desc⟩) {q9 : vw_C} {ci9 : Nat} {fs9 : List Value} (q0 : Nat) (he9 : w[q0]? = some (b, .inr (ci9, fs9))) (hc9 : cl[ci9]? = some q9) (hq9 : q9.1 = C9) (hw : wsc = Cond.code y bytes maxL retc :: wsc') (hnm : owner ≠ "java/lang/invoke/MethodHandle" ∧ owner ≠ "java/lang/invoke/VarHandle" ∧ (parseMethodDescriptor x9.desc).map (fun d => d.parameters.length) = some As.length) (hrm : Rm2 rmc rm maxL mc ms cs sl) (hdg : decode cc pc = .ok (.invokevirtual index, 3)) (hst : (st.map fun v => v.category).sum ≤ 8) (hstk : stk = As.reverse ++ .ref b :: st)
    (k : ∀ (rv : Option Value) (w' : va_W), P rv w' → V2 X (cs + mc) (sl + ms) (wr ++ w') (pc + 3) lv (rv.toList ++ st)) : V2 X cs sl w pc lv stk := by
  obtain ⟨p, l, e, R, s, m, args, below, meth, c, D', cl', tys', al', N', nL', Q⟩ := X
  obtain ⟨hx, hb, hml, hown, hts, hr, hlk, rfl, hK, hN, hNK, rfl, rfl, rfl, rfl, rfl, rfl⟩ := C
  intro H locs ls hP hD hS hl
  have hrc' : ∃ cell : Cell, H[b]? = some cell ∧ cell.vm.isStatics = false ∧ s.vm.findClass C9 = some cell.cls := hq9 ▸ va_recv hK hP hc9 he9
  exact bv_go (va_runU (C := C9) (As := As) (rest := st) ⟨hx, hb, hml, hown, hts⟩ (hM l H.size) (va_cwU As.length hts hG hw hrm.1 hrm.2.1 hyx hnm ⟨hrm.2.2.1, hrm.2.2.2.1⟩) ⟨aPre_blind hNc, hrc', fun U hU hW => ⟨rfl, bv_pre hts hP hD hK hN hS hcut halc hKc hNt U hU hW⟩⟩ rfl rfl hl.1 hstk (lv_room hst) hdg hrm.2.2.2.2) hS (gA_to hD hS isC hcut.1 halc) (fun rv w' H1 locs1 hp hP1 hD1 hk1 hS1 => k rv w' hp H1 locs1 ls (bv_join hP hD hS hcut halc hk1 hP1 hD1).1 (bv_join hP hD hS hcut halc hk1 hP1 hD1).2 hS1 hl)
theorem bv_kU (C : O2 X cc nL ret ws own rm D cl tys al N) (hM : ∀ l : Launch, kMet l y wsc rmc D cl tysc Nc alc (.ref b :: As) wc rvc wc') (hfst : wc'.map Prod.fst = wc.map Prod.fst) (hcut : Cut w wc wr isC isR) (halc : wc.map Prod.fst = alc) (hKc : ∀ U, va_K D cl tys U → va_K D cl tysc U) (hNt : NTo ws D cl tys N al w Nc alc) (hNc : NOK Nc) {C9 owner : String} {x9 : MethodName} (hG : GoodIn ws (va_wsU own index C9 owner x9 y wsc)) (hyx : y = ⟨owner, x9.name, x9.desc⟩) {q9 : vw_C} {ci9 : Nat} {fs9 : List Value} (q0 : Nat) (he9 : w[q0]? = some (b, .inr (ci9, fs9))) (hc9 : cl[ci9]? = some q9) (hq9 : q9.1 = C9) (hw : wsc = Cond.code y bytes maxL retc :: wsc') (hnm : owner ≠ "java/lang/invoke/MethodHandle" ∧ owner ≠ "java/lang/invoke/VarHandle" ∧ (parseMethodDescriptor x9.desc).map (fun d => d.parameters.length) = some As.length) (hrm : Rm2 rmc rm maxL 0 0 cs sl) (hdg : decode cc pc = .ok (.invokevirtual index, 3)) (hst : (st.map fun v => v.category).sum ≤ 8) (hstk : stk = As.reverse ++ .ref b :: st)
    (k : V2 X cs sl (wr ++ wc') (pc + 3) lv (rvc.toList ++ st)) : V2 X cs sl w pc lv stk := by
  obtain ⟨p, l, e, R, s, m, args, below, meth, c, D', cl', tys', al', N', nL', Q⟩ := X
  obtain ⟨hx, hb, hml, hown, hts, hr, hlk, rfl, hK, hN, hNK, rfl, rfl, rfl, rfl, rfl, rfl⟩ := C
  intro H locs ls hP hD hS hl
  have hrc' : ∃ cell : Cell, H[b]? = some cell ∧ cell.vm.isStatics = false ∧ s.vm.findClass C9 = some cell.cls := hq9 ▸ va_recv hK hP hc9 he9
  have hDc : va_D (gA alc H.size) wc' := bv_Dfst (bv_pre0 hD hcut halc) hfst
  refine bv_go (a := args) (mc := 0) (ms := 0) (P := fun rv w' => rv = rvc ∧ w' = wc') (va_Run.mono (va_runU (C := C9) (As := As) (rest := st) ⟨hx, hb, hml, hown, hts⟩ (hM l H.size) (va_cwU As.length hts hG hw hrm.1 hrm.2.1 hyx hnm ⟨hrm.2.2.1, hrm.2.2.2.1⟩) ⟨kPre_blind hNc, hrc', fun U hU hW => ⟨rfl, (bv_pre hts hP hD hK hN hS hcut halc hKc hNt U hU hW).1⟩⟩ rfl rfl hl.1 hstk (lv_room hst) hdg hrm.2.2.2.2) (fun st o t h => ⟨⟨rvc, wc', h.1.1, ⟨rfl, rfl⟩, h.1.2, hDc⟩, h.2⟩)) hS (gA_to hD hS isC hcut.1 halc) (fun rv w' H1 locs1 hp hP1 hD1 hk1 hS1 => ?_)
  obtain ⟨rfl, rfl⟩ := hp
  exact k H1 locs1 ls (bv_join hP hD hS hcut halc hk1 hP1 hD1).1 (bv_join hP hD hS hcut halc hk1 hP1 hD1).2 hS1 hl
theorem bv_aO (C : O2 X cc nL ret ws own rm D cl tys al N) (hM : ∀ l : Launch, aMet l y wsc rmc D cl tysc Nc alc (.ref b :: As) wc mc ms P) (hcut : Cut w wc wr isC isR) (halc : wc.map Prod.fst = alc) (hKc : ∀ U, va_K D cl tys U → va_K D cl tysc U) (hNt : NTo ws D cl tys N al w Nc alc) (hNc : NOK Nc) {C9 owner : String} {x9 : MethodName} (hG : GoodIn ws (va_wsO own index C9 owner x9 y wsc)) {b0 : ByteArray} {m0 : Nat} {r0 : Option FieldType} (h0 : Cond.code ⟨owner, x9.name, x9.desc⟩ b0 m0 r0 ∈ ws) {q9 : vw_C} {ci9 : Nat} {fs9 : List Value} (q0 : Nat) (he9 : w[q0]? = some (b, .inr (ci9, fs9))) (hc9 : cl[ci9]? = some q9) (hq9 : q9.1 = C9) (hw : wsc = Cond.code y bytes maxL retc :: wsc') (hnm : owner ≠ "java/lang/invoke/MethodHandle" ∧ owner ≠ "java/lang/invoke/VarHandle" ∧ (parseMethodDescriptor x9.desc).map (fun d => d.parameters.length) = some As.length) (hrm : Rm2 rmc rm maxL mc ms cs sl) (hdg : decode cc pc = .ok (.invokevirtual index, 3)) (hst : (st.map fun v => v.category).sum ≤ 8) (hstk : stk = As.reverse ++ .ref b :: st)
    (k : ∀ (rv : Option Value) (w' : va_W), P rv w' → V2 X (cs + mc) (sl + ms) (wr ++ w') (pc + 3) lv (rv.toList ++ st)) : V2 X cs sl w pc lv stk := by
  obtain ⟨p, l, e, R, s, m, args, below, meth, c, D', cl', tys', al', N', nL', Q⟩ := X
  obtain ⟨hx, hb, hml, hown, hts, hr, hlk, rfl, hK, hN, hNK, rfl, rfl, rfl, rfl, rfl, rfl⟩ := C
  intro H locs ls hP hD hS hl
  have hrc' : ∃ cell : Cell, H[b]? = some cell ∧ cell.vm.isStatics = false ∧ s.vm.findClass C9 = some cell.cls := hq9 ▸ va_recv hK hP hc9 he9
  exact bv_go (va_runU (C := C9) (As := As) (rest := st) ⟨hx, hb, hml, hown, hts⟩ (hM l H.size) (va_cwO As.length hts hG hw hrm.1 hrm.2.1 h0 hnm ⟨hrm.2.2.1, hrm.2.2.2.1⟩) ⟨aPre_blind hNc, hrc', fun U hU hW => ⟨rfl, bv_pre hts hP hD hK hN hS hcut halc hKc hNt U hU hW⟩⟩ rfl rfl hl.1 hstk (lv_room hst) hdg hrm.2.2.2.2) hS (gA_to hD hS isC hcut.1 halc) (fun rv w' H1 locs1 hp hP1 hD1 hk1 hS1 => k rv w' hp H1 locs1 ls (bv_join hP hD hS hcut halc hk1 hP1 hD1).1 (bv_join hP hD hS hcut halc hk1 hP1 hD1).2 hS1 hl)
theorem bv_kO (C : O2 X cc nL ret ws own rm D cl tys al N) (hM : ∀ l : Launch, kMet l y wsc rmc D cl tysc Nc alc (.ref b :: As) wc rvc wc') (hfst : wc'.map Prod.fst = wc.map Prod.fst) (hcut : Cut w wc wr isC isR) (halc : wc.map Prod.fst = alc) (hKc : ∀ U, va_K D cl tys U → va_K D cl tysc U) (hNt : NTo ws D cl tys N al w Nc alc) (hNc : NOK Nc) {C9 owner : String} {x9 : MethodName} (hG : GoodIn ws (va_wsO own index C9 owner x9 y wsc)) {b0 : ByteArray} {m0 : Nat} {r0 : Option FieldType} (h0 : Cond.code ⟨owner, x9.name, x9.desc⟩ b0 m0 r0 ∈ ws) {q9 : vw_C} {ci9 : Nat} {fs9 : List Value} (q0 : Nat) (he9 : w[q0]? = some (b, .inr (ci9, fs9))) (hc9 : cl[ci9]? = some q9) (hq9 : q9.1 = C9) (hw : wsc = Cond.code y bytes maxL retc :: wsc') (hnm : owner ≠ "java/lang/invoke/MethodHandle" ∧ owner ≠ "java/lang/invoke/VarHandle" ∧ (parseMethodDescriptor x9.desc).map (fun d => d.parameters.length) = some As.length) (hrm : Rm2 rmc rm maxL 0 0 cs sl) (hdg : decode cc pc = .ok (.invokevirtual index, 3)) (hst : (st.map fun v => v.category).sum ≤ 8) (hstk : stk = As.reverse ++ .ref b :: st)
    (k : V2 X cs sl (wr ++ wc') (pc + 3) lv (rvc.toList ++ st)) : V2 X cs sl w pc lv stk := by
  obtain ⟨p, l, e, R, s, m, args, below, meth, c, D', cl', tys', al', N', nL', Q⟩ := X
  obtain ⟨hx, hb, hml, hown, hts, hr, hlk, rfl, hK, hN, hNK, rfl, rfl, rfl, rfl, rfl, rfl⟩ := C
  intro H locs ls hP hD hS hl
  have hrc' : ∃ cell : Cell, H[b]? = some cell ∧ cell.vm.isStatics = false ∧ s.vm.findClass C9 = some cell.cls := hq9 ▸ va_recv hK hP hc9 he9
  have hDc : va_D (gA alc H.size) wc' := bv_Dfst (bv_pre0 hD hcut halc) hfst
  refine bv_go (a := args) (mc := 0) (ms := 0) (P := fun rv w' => rv = rvc ∧ w' = wc') (va_Run.mono (va_runU (C := C9) (As := As) (rest := st) ⟨hx, hb, hml, hown, hts⟩ (hM l H.size) (va_cwO As.length hts hG hw hrm.1 hrm.2.1 h0 hnm ⟨hrm.2.2.1, hrm.2.2.2.1⟩) ⟨kPre_blind hNc, hrc', fun U hU hW => ⟨rfl, (bv_pre hts hP hD hK hN hS hcut halc hKc hNt U hU hW).1⟩⟩ rfl rfl hl.1 hstk (lv_room hst) hdg hrm.2.2.2.2) (fun st o t h => ⟨⟨rvc, wc', h.1.1, ⟨rfl, rfl⟩, h.1.2, hDc⟩, h.2⟩)) hS (gA_to hD hS isC hcut.1 halc) (fun rv w' H1 locs1 hp hP1 hD1 hk1 hS1 => ?_)
  obtain ⟨rfl, rfl⟩ := hp
  exact k H1 locs1 ls (bv_join hP hD hS hcut halc hk1 hP1 hD1).1 (bv_join hP hD hS hcut halc hk1 hP1 hD1).2 hS1 hl
theorem bv_aSU (C : O2 X cc nL ret ws own rm D cl tys al N) (hM : ∀ l : Launch, aMet l y wsc rmc D cl tysc Nc alc (.ref b :: As) wc mc ms P) (hcut : Cut w wc wr isC isR) (halc : wc.map Prod.fst = alc) (hKc : ∀ U, va_K D cl tys U → va_K D cl tysc U) (hNt : NTo ws D cl tys N al w Nc alc) (hNc : NOK Nc) (hG : GoodIn ws (va_wsSU own index y wsc)) {q9 : vw_C} {ci9 : Nat} {fs9 : List Value} (q0 : Nat) (he9 : w[q0]? = some (b, .inr (ci9, fs9))) (hc9 : cl[ci9]? = some q9) (hw : wsc = Cond.code y bytes maxL retc :: wsc') (hnm : y.name ≠ "<init>" ∧ (parseMethodDescriptor y.desc).map (fun d => d.parameters.length) = some As.length) (hrm : Rm2 rmc rm maxL mc ms cs sl) (hdg : decode cc pc = .ok (.invokespecial index, 3)) (hst : (st.map fun v => v.category).sum ≤ 8) (hstk : stk = As.reverse ++ .ref b :: st)
    (k : ∀ (rv : Option Value) (w' : va_W), P rv w' → V2 X (cs + mc) (sl + ms) (wr ++ w') (pc + 3) lv (rv.toList ++ st)) : V2 X cs sl w pc lv stk := by
  obtain ⟨p, l, e, R, s, m, args, below, meth, c, D', cl', tys', al', N', nL', Q⟩ := X
  obtain ⟨hx, hb, hml, hown, hts, hr, hlk, rfl, hK, hN, hNK, rfl, rfl, rfl, rfl, rfl, rfl⟩ := C
  intro H locs ls hP hD hS hl
  have hrc' : ∃ cell : Cell, H[b]? = some cell ∧ cell.vm.isStatics = false ∧ s.vm.findClass q9.1 = some cell.cls := va_recv hK hP hc9 he9
  have hat := (hK.1 ci9 _ hc9).2
  exact bv_go (va_runSU hat (As := As) (rest := st) ⟨hx, hb, hml, hown, hts⟩ (hM l H.size) (va_cwSU As.length hts hG hw hrm.1 hrm.2.1 hnm ⟨hrm.2.2.1, hrm.2.2.2.1⟩) ⟨aPre_blind hNc, hrc', fun U hU hW => ⟨rfl, bv_pre hts hP hD hK hN hS hcut halc hKc hNt U hU hW⟩⟩ rfl rfl hl.1 hstk (lv_room hst) hdg hrm.2.2.2.2) hS (gA_to hD hS isC hcut.1 halc) (fun rv w' H1 locs1 hp hP1 hD1 hk1 hS1 => k rv w' hp H1 locs1 ls (bv_join hP hD hS hcut halc hk1 hP1 hD1).1 (bv_join hP hD hS hcut halc hk1 hP1 hD1).2 hS1 hl)
theorem bv_kSU (C : O2 X cc nL ret ws own rm D cl tys al N) (hM : ∀ l : Launch, kMet l y wsc rmc D cl tysc Nc alc (.ref b :: As) wc rvc wc') (hfst : wc'.map Prod.fst = wc.map Prod.fst) (hcut : Cut w wc wr isC isR) (halc : wc.map Prod.fst = alc) (hKc : ∀ U, va_K D cl tys U → va_K D cl tysc U) (hNt : NTo ws D cl tys N al w Nc alc) (hNc : NOK Nc) (hG : GoodIn ws (va_wsSU own index y wsc)) {q9 : vw_C} {ci9 : Nat} {fs9 : List Value} (q0 : Nat) (he9 : w[q0]? = some (b, .inr (ci9, fs9))) (hc9 : cl[ci9]? = some q9) (hw : wsc = Cond.code y bytes maxL retc :: wsc') (hnm : y.name ≠ "<init>" ∧ (parseMethodDescriptor y.desc).map (fun d => d.parameters.length) = some As.length) (hrm : Rm2 rmc rm maxL 0 0 cs sl) (hdg : decode cc pc = .ok (.invokespecial index, 3)) (hst : (st.map fun v => v.category).sum ≤ 8) (hstk : stk = As.reverse ++ .ref b :: st)
    (k : V2 X cs sl (wr ++ wc') (pc + 3) lv (rvc.toList ++ st)) : V2 X cs sl w pc lv stk := by
  obtain ⟨p, l, e, R, s, m, args, below, meth, c, D', cl', tys', al', N', nL', Q⟩ := X
  obtain ⟨hx, hb, hml, hown, hts, hr, hlk, rfl, hK, hN, hNK, rfl, rfl, rfl, rfl, rfl, rfl⟩ := C
  intro H locs ls hP hD hS hl
  have hrc' : ∃ cell : Cell, H[b]? = some cell ∧ cell.vm.isStatics = false ∧ s.vm.findClass q9.1 = some cell.cls := va_recv hK hP hc9 he9
  have hat := (hK.1 ci9 _ hc9).2
  have hDc : va_D (gA alc H.size) wc' := bv_Dfst (bv_pre0 hD hcut halc) hfst
  refine bv_go (a := args) (mc := 0) (ms := 0) (P := fun rv w' => rv = rvc ∧ w' = wc') (va_Run.mono (va_runSU hat (As := As) (rest := st) ⟨hx, hb, hml, hown, hts⟩ (hM l H.size) (va_cwSU As.length hts hG hw hrm.1 hrm.2.1 hnm ⟨hrm.2.2.1, hrm.2.2.2.1⟩) ⟨kPre_blind hNc, hrc', fun U hU hW => ⟨rfl, (bv_pre hts hP hD hK hN hS hcut halc hKc hNt U hU hW).1⟩⟩ rfl rfl hl.1 hstk (lv_room hst) hdg hrm.2.2.2.2) (fun st o t h => ⟨⟨rvc, wc', h.1.1, ⟨rfl, rfl⟩, h.1.2, hDc⟩, h.2⟩)) hS (gA_to hD hS isC hcut.1 halc) (fun rv w' H1 locs1 hp hP1 hD1 hk1 hS1 => ?_)
  obtain ⟨rfl, rfl⟩ := hp
  exact k H1 locs1 ls (bv_join hP hD hS hcut halc hk1 hP1 hD1).1 (bv_join hP hD hS hcut halc hk1 hP1 hD1).2 hS1 hl
theorem bv_aI (C : O2 X cc nL ret ws own rm D cl tys al N) (hM : ∀ l : Launch, aMet l y wsc rmc D cl tysc Nc alc (.ref b :: As) wc mc ms P) (hcut : Cut w wc wr isC isR) (halc : wc.map Prod.fst = alc) (hKc : ∀ U, va_K D cl tys U → va_K D cl tysc U) (hNt : NTo ws D cl tys N al w Nc alc) (hNc : NOK Nc) (hG : GoodIn ws wsc) (hi1 : Cond.initialized y.cls ∈ ws) (hi2 : Cond.methodLink own index y ∈ ws) (hi3 : Cond.instanceMethod y ∈ ws) (hy1 : y.name = "<init>") (hw : wsc = Cond.code y bytes maxL none :: wsc') (hnm : NameIn y As.length) (hrm : Rm2 rmc rm maxL mc ms cs sl) (hdg : decode cc pc = .ok (.invokespecial index, 3)) (hst : (st.map fun v => v.category).sum ≤ 8) (hstk : stk = As.reverse ++ .ref b :: st)
    (k : ∀ (rv : Option Value) (w' : va_W), P rv w' → V2 X (cs + mc) (sl + ms) (wr ++ w') (pc + 3) lv (rv.toList ++ st)) : V2 X cs sl w pc lv stk := by
  obtain ⟨p, l, e, R, s, m, args, below, meth, c, D', cl', tys', al', N', nL', Q⟩ := X
  obtain ⟨hx, hb, hml, hown, hts, hr, hlk, rfl, hK, hN, hNK, rfl, rfl, rfl, rfl, rfl, rfl⟩ := C
  intro H locs ls hP hD hS hl
  exact bv_go (va_runI (As := As) (rest := st) ⟨hx, hb, hml, hown, hts⟩ (hM l H.size) (cwI As.length hts hG hw hrm.1 hrm.2.1 (hts _ hi1) (hts _ hi2) (hts _ hi3) hy1 hnm ⟨hrm.2.2.1, hrm.2.2.2.1⟩) ⟨aPre_blind hNc, fun U hU hW => ⟨rfl, bv_pre hts hP hD hK hN hS hcut halc hKc hNt U hU hW⟩⟩ rfl rfl hl.1 hstk (lv_room hst) hdg hrm.2.2.2.2) hS (gA_to hD hS isC hcut.1 halc) (fun rv w' H1 locs1 hp hP1 hD1 hk1 hS1 => k rv w' hp H1 locs1 ls (bv_join hP hD hS hcut halc hk1 hP1 hD1).1 (bv_join hP hD hS hcut halc hk1 hP1 hD1).2 hS1 hl)
theorem bv_kI (C : O2 X cc nL ret ws own rm D cl tys al N) (hM : ∀ l : Launch, kMet l y wsc rmc D cl tysc Nc alc (.ref b :: As) wc rvc wc') (hfst : wc'.map Prod.fst = wc.map Prod.fst) (hcut : Cut w wc wr isC isR) (halc : wc.map Prod.fst = alc) (hKc : ∀ U, va_K D cl tys U → va_K D cl tysc U) (hNt : NTo ws D cl tys N al w Nc alc) (hNc : NOK Nc) (hG : GoodIn ws wsc) (hi1 : Cond.initialized y.cls ∈ ws) (hi2 : Cond.methodLink own index y ∈ ws) (hi3 : Cond.instanceMethod y ∈ ws) (hy1 : y.name = "<init>") (hw : wsc = Cond.code y bytes maxL none :: wsc') (hnm : NameIn y As.length) (hrm : Rm2 rmc rm maxL 0 0 cs sl) (hdg : decode cc pc = .ok (.invokespecial index, 3)) (hst : (st.map fun v => v.category).sum ≤ 8) (hstk : stk = As.reverse ++ .ref b :: st)
    (k : V2 X cs sl (wr ++ wc') (pc + 3) lv (rvc.toList ++ st)) : V2 X cs sl w pc lv stk := by
  obtain ⟨p, l, e, R, s, m, args, below, meth, c, D', cl', tys', al', N', nL', Q⟩ := X
  obtain ⟨hx, hb, hml, hown, hts, hr, hlk, rfl, hK, hN, hNK, rfl, rfl, rfl, rfl, rfl, rfl⟩ := C
  intro H locs ls hP hD hS hl
  have hDc : va_D (gA alc H.size) wc' := bv_Dfst (bv_pre0 hD hcut halc) hfst
  refine bv_go (a := args) (mc := 0) (ms := 0) (P := fun rv w' => rv = rvc ∧ w' = wc') (va_Run.mono (va_runI (As := As) (rest := st) ⟨hx, hb, hml, hown, hts⟩ (hM l H.size) (cwI As.length hts hG hw hrm.1 hrm.2.1 (hts _ hi1) (hts _ hi2) (hts _ hi3) hy1 hnm ⟨hrm.2.2.1, hrm.2.2.2.1⟩) ⟨kPre_blind hNc, fun U hU hW => ⟨rfl, (bv_pre hts hP hD hK hN hS hcut halc hKc hNt U hU hW).1⟩⟩ rfl rfl hl.1 hstk (lv_room hst) hdg hrm.2.2.2.2) (fun st o t h => ⟨⟨rvc, wc', h.1.1, ⟨rfl, rfl⟩, h.1.2, hDc⟩, h.2⟩)) hS (gA_to hD hS isC hcut.1 halc) (fun rv w' H1 locs1 hp hP1 hD1 hk1 hS1 => ?_)
  obtain ⟨rfl, rfl⟩ := hp
  exact k H1 locs1 ls (bv_join hP hD hS hcut halc hk1 hP1 hD1).1 (bv_join hP hD hS hcut halc hk1 hP1 hD1).2 hS1 hl
theorem bv_aIN (C : O2 X cc nL ret ws own rm D cl tys al N) (hM : ∀ l : Launch, aMet l y wsc rmc D cl tysc Nc alc (.ref b :: As) wc mc ms P) (hcut : Cut w wc wr isC isR) (halc : wc.map Prod.fst = alc) (hKc : ∀ U, va_K D cl tys U → va_K D cl tysc U) (hNt : NTo ws D cl tys N al w Nc alc) (hNc : NOK Nc) {host : String} (hG : GoodIn ws wsc) (hi1 : Cond.initialized y.cls ∈ ws) (hnl : ∀ (A : Nat → Prop) (U : State), N A U → va_Nw (.methodLinkNest own index y host) U) (hi3 : Cond.instanceMethod y ∈ ws) (hy1 : y.name = "<init>") (hw : wsc = Cond.code y bytes maxL none :: wsc') (hnm : NameIn y As.length) (hrm : Rm2 rmc rm maxL mc ms cs sl) (hdg : decode cc pc = .ok (.invokespecial index, 3)) (hst : (st.map fun v => v.category).sum ≤ 8) (hstk : stk = As.reverse ++ .ref b :: st)
    (k : ∀ (rv : Option Value) (w' : va_W), P rv w' → V2 X (cs + mc) (sl + ms) (wr ++ w') (pc + 3) lv (rv.toList ++ st)) : V2 X cs sl w pc lv stk := by
  obtain ⟨p, l, e, R, s, m, args, below, meth, c, D', cl', tys', al', N', nL', Q⟩ := X
  obtain ⟨hx, hb, hml, hown, hts, hr, hlk, rfl, hK, hN, hNK, rfl, rfl, rfl, rfl, rfl, rfl⟩ := C
  intro H locs ls hP hD hS hl
  exact bv_go (va_runIN (As := As) (rest := st) ⟨hx, hb, hml, hown, hts⟩ (hM l H.size) ⟨va_cnB As.length hts hG hw hrm.1 hrm.2.1 (hnl _ _ hN) (hts _ hi1) hnm ⟨hrm.2.2.1, hrm.2.2.2.1⟩, hy1, hts _ hi3⟩ ⟨aPre_blind hNc, fun U hU hW => ⟨rfl, bv_pre hts hP hD hK hN hS hcut halc hKc hNt U hU hW⟩⟩ rfl rfl hl.1 hstk (lv_room hst) hdg hrm.2.2.2.2) hS (gA_to hD hS isC hcut.1 halc) (fun rv w' H1 locs1 hp hP1 hD1 hk1 hS1 => k rv w' hp H1 locs1 ls (bv_join hP hD hS hcut halc hk1 hP1 hD1).1 (bv_join hP hD hS hcut halc hk1 hP1 hD1).2 hS1 hl)
theorem bv_kIN (C : O2 X cc nL ret ws own rm D cl tys al N) (hM : ∀ l : Launch, kMet l y wsc rmc D cl tysc Nc alc (.ref b :: As) wc rvc wc') (hfst : wc'.map Prod.fst = wc.map Prod.fst) (hcut : Cut w wc wr isC isR) (halc : wc.map Prod.fst = alc) (hKc : ∀ U, va_K D cl tys U → va_K D cl tysc U) (hNt : NTo ws D cl tys N al w Nc alc) (hNc : NOK Nc) {host : String} (hG : GoodIn ws wsc) (hi1 : Cond.initialized y.cls ∈ ws) (hnl : ∀ (A : Nat → Prop) (U : State), N A U → va_Nw (.methodLinkNest own index y host) U) (hi3 : Cond.instanceMethod y ∈ ws) (hy1 : y.name = "<init>") (hw : wsc = Cond.code y bytes maxL none :: wsc') (hnm : NameIn y As.length) (hrm : Rm2 rmc rm maxL 0 0 cs sl) (hdg : decode cc pc = .ok (.invokespecial index, 3)) (hst : (st.map fun v => v.category).sum ≤ 8) (hstk : stk = As.reverse ++ .ref b :: st)
    (k : V2 X cs sl (wr ++ wc') (pc + 3) lv (rvc.toList ++ st)) : V2 X cs sl w pc lv stk := by
  obtain ⟨p, l, e, R, s, m, args, below, meth, c, D', cl', tys', al', N', nL', Q⟩ := X
  obtain ⟨hx, hb, hml, hown, hts, hr, hlk, rfl, hK, hN, hNK, rfl, rfl, rfl, rfl, rfl, rfl⟩ := C
  intro H locs ls hP hD hS hl
  have hDc : va_D (gA alc H.size) wc' := bv_Dfst (bv_pre0 hD hcut halc) hfst
  refine bv_go (a := args) (mc := 0) (ms := 0) (P := fun rv w' => rv = rvc ∧ w' = wc') (va_Run.mono (va_runIN (As := As) (rest := st) ⟨hx, hb, hml, hown, hts⟩ (hM l H.size) ⟨va_cnB As.length hts hG hw hrm.1 hrm.2.1 (hnl _ _ hN) (hts _ hi1) hnm ⟨hrm.2.2.1, hrm.2.2.2.1⟩, hy1, hts _ hi3⟩ ⟨kPre_blind hNc, fun U hU hW => ⟨rfl, (bv_pre hts hP hD hK hN hS hcut halc hKc hNt U hU hW).1⟩⟩ rfl rfl hl.1 hstk (lv_room hst) hdg hrm.2.2.2.2) (fun st o t h => ⟨⟨rvc, wc', h.1.1, ⟨rfl, rfl⟩, h.1.2, hDc⟩, h.2⟩)) hS (gA_to hD hS isC hcut.1 halc) (fun rv w' H1 locs1 hp hP1 hD1 hk1 hS1 => ?_)
  obtain ⟨rfl, rfl⟩ := hp
  exact k H1 locs1 ls (bv_join hP hD hS hcut halc hk1 hP1 hD1).1 (bv_join hP hD hS hcut halc hk1 hP1 hD1).2 hS1 hl
theorem bv_pS (C : O2 X cc nL ret ws own rm D cl tys al N) (hM : ∀ l : Launch, pMet l y wsc rmc As rvc) (hG : GoodIn ws (va_wsS own index y wsc)) (hw : wsc = Cond.code y bytes maxL retc :: wsc') (hnm : NameIn y As.length) (hrm : Rm2 rmc rm maxL 0 0 cs sl) (hdg : decode cc pc = .ok (.invokestatic index, 3)) (hst : (st.map fun v => v.category).sum ≤ 8) (hstk : stk = As.reverse ++ st)
    (k : V2 X cs sl w (pc + 3) lv (rvc.toList ++ st)) : V2 X cs sl w pc lv stk := by
  obtain ⟨p, l, e, R, s, m, args, below, meth, c, D', cl', tys', al', N', nL', Q⟩ := X
  obtain ⟨hx, hb, hml, hown, hts, hr, hlk, rfl, hK, hN, hNK, rfl, rfl, rfl, rfl, rfl, rfl⟩ := C
  intro H locs ls hP hD hS hl
  refine bv_go (a := args) (D := D') (cl := []) (mc := 0) (ms := 0) (P := fun rv w' => rv = rvc ∧ w' = []) (va_Run.mono (va_runS (As := As) (rest := st) ⟨hx, hb, hml, hown, hts⟩ (hM l D' H.size) (va_cwS As.length hts hG hw hrm.1 hrm.2.1 hnm ⟨hrm.2.2.1, hrm.2.2.2.1⟩) ⟨kPre_blind NT_ok, fun U hU hW => ⟨rfl, k_pre0 U hU D'⟩⟩ rfl rfl hl.1 hstk (lv_room hst) hdg hrm.2.2.2.2) (fun st o t h => ⟨⟨rvc, [], h.1.1, ⟨rfl, rfl⟩, h.1.2, ⟨fun i j p q hi => by simp at hi, fun k q hk => by simp at hk⟩⟩, h.2⟩)) hS (fun q h => h.elim (fun z => by simp at z) (fun z => Or.inr (Nat.le_trans hS.1 z))) (fun rv w' H1 locs1 hp hP1 hD1 hk1 hS1 => ?_)
  obtain ⟨rfl, rfl⟩ := hp
  exact k H1 locs1 ls (k_keep hP hk1) hD hS1 hl
end VC2
