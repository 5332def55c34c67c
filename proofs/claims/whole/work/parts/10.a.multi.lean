/-! TWO DIMENSIONS AT ONCE, AND CONSTRUCTORS. -/
theorem arrV_congr {cI : ClassId} {N : Nat} {f g : Nat → Value} (h : ∀ j, j < N → f j = g j) : arrV cI N f = arrV cI N g := by
  unfold arrV
  congr 1
  apply Array.ext
  · simp
  · intro j a b
    simpa using h j (by simpa using a)
theorem outerC_arrV (c : ClassId) (N h0 : Nat) : ∀ i, Jvm.Free.Multi.outerC c N h0 i = arrV c N (fun j => if j < i then .ref (h0 + 1 + j) else .null)
  | 0 => (arrV_new c N .null).trans (arrV_congr (fun j _ => by rw [if_neg (Nat.not_lt_zero j)]))
  | i + 1 => by
    show (Jvm.Free.Multi.outerC c N h0 i).setSlot i (.ref (h0 + 1 + i)) = _
    rw [outerC_arrV c N h0 i, arrV_store]
    refine arrV_congr (fun j _ => ?_)
    unfold updV
    by_cases h : j = i
    · subst h
      rw [if_pos rfl, if_pos (Nat.lt_succ_self _)]
    · rw [if_neg h]
      by_cases h2 : j < i
      · exact (if_pos h2).trans (if_pos (Nat.lt_succ_of_lt h2)).symm
      · exact (if_neg h2).trans (if_neg (fun z => by omega)).symm
section WM
variable {p : Program} {l : Launch} {e : Env} {R : Room} {s : State} {m : MethodId} {args : Array Value} {below : List Frame} {meth : Method} {c : Code} {H : Heap} {locs : List Loc} {cells slots : Nat} {Q : State → Prop}
theorem W.multiL {cc : ByteArray} (hexec : p.tables.exec = Jvm.exec) (hb : c.code = cc) {own : String} {index : Nat} (hown : s.vm.findClass own = some m.cls) (hcl : (Cond.classLink own index ("[" ++ (FieldType.array .long).toString)).before args s = true) (hov : (Cond.arrayOver (.array .long)).before args s = true) (harr : (Cond.arrayClass .long).before args s = true) {pc : Nat} {ls : Array Slot} {n k : Int32} {rest : List Value} {N K : Nat} (hdg : decode cc pc = .ok (.multianewarray index 2, 4)) (hn : ¬ n < 0) (hk : ¬ k < 0) (hN : n.toNatClampNeg = N) (hK : k.toNatClampNeg = K) (hb1 : N * 4 ≤ 536870912) (hb2 : K * 8 ≤ 536870912) (hcells : cells + (1 + N) ≤ R.cells) (hslots : slots + (N + N * K) ≤ R.slots)
    (kk : ∀ (H1 : Heap) (cA cI : ClassId), s.vm.findClass ("[" ++ (FieldType.array .long).toString) = some cA → s.vm.findClass (FieldType.array .long).toString = some cI → H1.size = H.size + 1 + N → (∀ q, q < H.size → H1[q]? = H[q]?) → H1[H.size]? = some (arrV cA N (fun j => .ref (H.size + 1 + j))) → (∀ j, j < N → H1[H.size + 1 + j]? = some (arrV cI K (fun _ => .long 0))) →
      W p l e R s m args below meth c H1 locs (cells + 1 + N) (slots + N + N * K) Q (F0 m (pc + 4) ls (.ref H.size :: rest))) : W p l e R s m args below meth c H locs cells slots Q (F0 m pc ls (.int k :: .int n :: rest)) := by
  subst hN
  subst hK
  intro T hT X
  subst hT; subst hb
  obtain ⟨vm1, cA, cI, hW, hfA, hfC, -, -, X1, step⟩ := X.multianewarray2F hexec hown hcl hov harr (g := F0 m pc ls (.int k :: .int n :: rest)) rfl hdg rfl hn hk hb1 hb2 (by omega) rfl rfl hcells hslots
  obtain ⟨f1, f2, f3, f4⟩ := Jvm.Free.Multi.fill_facts (T.setVm vm1) cA cI n.toNatClampNeg k.toNatClampNeg (defaultValue .long) n.toNatClampNeg
  have e2 : Jvm.Free.Multi.outerC cA n.toNatClampNeg (T.setVm vm1).heap.size n.toNatClampNeg = arrV cA n.toNatClampNeg (fun j => .ref (T.heap.size + 1 + j)) := (outerC_arrV _ _ _ _).trans (arrV_congr (fun j hj => if_pos hj))
  obtain ⟨t, a1, b1⟩ := kk _ cA cI hfA hfC f1 (fun q hq => Jvm.Free.Multi.fill_old (T.setVm vm1) cA cI _ _ _ hq _) (f2.trans (congrArg some e2)) (fun j hj => (Jvm.Free.Multi.fill_inner (T.setVm vm1) cA cI _ _ _ _ j hj).trans (congrArg some (arrV_new cI _ _))) _ rfl X1
  exact ⟨t, step t a1, b1⟩
end WM
theorem va_AOA.same {ty : FieldType} {u U : State} (h : u.vm = U.vm) (hZ : va_AOA ty u) : va_AOA ty U := by
  unfold va_AOA at *
  simp only [Cond.before, Cond.holds, Cond.value] at *
  rw [← h]
  exact hZ
theorem NOK.ao : NOK (fun _ U => va_AOA .long U) :=
  ⟨fun A U g mk ar h => va_AOA.same (u := U) (U := U.calling g mk ar) rfl h, fun A B s U h hW hk hB => va_AOA.same (rfl : (s.setVm U.vm).vm = U.vm) ((Cond.arrayOver_setVmC (args := #[]) hW.alike _).trans h)⟩
/-- five new cells: an array of four arrays of longs -/
def mu_w (h K : Nat) (cO cI : ClassId) : va_W := [(h, .inl (cO, 4, .inr (.inr (.inr (.inr (fun j => if j < 4 then some (h + 1 + j) else none)))))), (h + 1, .inl (cI, K, .inr (.inl (fun _ => 0)))), (h + 2, .inl (cI, K, .inr (.inl (fun _ => 0)))), (h + 3, .inl (cI, K, .inr (.inl (fun _ => 0)))), (h + 4, .inl (cI, K, .inr (.inl (fun _ => 0))))]
theorem mu_at {h K : Nat} {cO cI : ClassId} {k : Nat} {x : Nat × va_E} (hx : (mu_w h K cO cI)[k]? = some x) : x.1 = h + k := by
  have hz : k < 5 := (List.getElem?_eq_some_iff.mp hx).1
  match k, hz with
  | 0, _ => cases hx; rfl
  | 1, _ => cases hx; rfl
  | 2, _ => cases hx; rfl
  | 3, _ => cases hx; rfl
  | 4, _ => cases hx; rfl
section BM
variable {X : CX} {cc : ByteArray} {nL : Nat} {ret : Option FieldType} {ws : List Cond} {own : String} {rm : Room} {D : va_G} {cl : List vw_C} {tys : List (ClassId × FieldType)} {al : List Nat} {N : (Nat → Prop) → State → Prop} {cs sl : Nat} {w : va_W} {pc : Nat} {lv : List (Nat × Value)} {st : List Value}
theorem bv_multi (C : O2 X cc nL ret ws own rm D cl tys al N) {index : Nat} {cO cI : ClassId} {k : Int32} {K : Nat} (h1 : Cond.classLink own index "[[J" ∈ ws) (hao : ∀ (A : Nat → Prop) (U : State), N A U → va_AOA .long U) (h3 : Cond.arrayClass .long ∈ ws) (t0 t1 : Nat) (ht0 : tys[t0]? = some (cO, .array .long)) (ht1 : tys[t1]? = some (cI, .long)) (hk : ¬ k < 0) (hK : k.toNatClampNeg = K) (hb2 : K * 8 ≤ 536870912) (hcells : cs + 5 ≤ rm.cells) (hslots : sl + (4 + 4 * K) ≤ rm.slots) (hdg : decode cc pc = .ok (.multianewarray index 2, 4))
    (kk : ∀ h : Nat, V2 X (cs + 5) (sl + (4 + 4 * K)) (w ++ mu_w h K cO cI) (pc + 4) lv (.ref h :: st)) : V2 X cs sl w pc lv (.int k :: .int 4 :: st) := by
  obtain ⟨p, l, e, R, s, m, args, below, meth, c, D', cl', tys', al', N', nL', Q⟩ := X
  obtain ⟨hx, hb, hml, hown, hts, hr, hlk, rfl, hKK, hN, hNK, rfl, rfl, rfl, rfl, rfl, rfl⟩ := C
  intro H locs ls hP hD hS hl
  refine W.multiL hx hb hown (hts _ h1) (va_AOA.use (hao _ _ hN)) (hts _ h3) hdg (by decide) hk (N := 4) (by decide) hK (by decide) hb2 hcells hslots fun H1 cA cB e1 e2 z1 o1 n1 n2 => ?_
  have hcO : cA = cO := Option.some.inj (e1.symm.trans (hKK.2 t0 _ ht0).2)
  have hcI : cB = cI := Option.some.inj (e2.symm.trans (hKK.2 t1 _ ht1).2)
  subst hcO hcI
  have hk9 : ∀ (k : Nat) (x : Nat × va_E), w[k]? = some x → H1[x.1]? = H[x.1]? := fun k x hx => o1 x.1 ((hP k x hx).lt)
  have hk0 := kk H.size H1 locs ls ((hP.kept hk9).app (fun k x hx => ?_)) (va_D.app hD ⟨fun i j p q hp hq hpq => ?_, fun k q hq => ?_⟩ (fun i j p q hp hq => ?_)) ⟨Nat.le_trans hS.1 (by omega), fun x h1 h2 => (o1 x (Nat.lt_of_lt_of_le h1 hS.1)).trans (hS.2.1 x h1 h2), hS.2.2⟩ hl
  · exact (show sl + 4 + 4 * K = sl + (4 + 4 * K) by omega) ▸ (show cs + 1 + 4 = cs + 5 by omega) ▸ hk0
  · have hz : k < 5 := (List.getElem?_eq_some_iff.mp hx).1
    match k, hz with
    | 0, _ =>
      cases hx
      show H1[H.size]? = some (vp_cell _ _)
      rw [n1, vp_cell_q]
      refine congrArg some (arrV_congr (fun j hj => ?_))
      rw [if_pos hj]
      rfl
    | 1, _ => cases hx; exact n2 0 (by decide)
    | 2, _ => cases hx; exact n2 1 (by decide)
    | 3, _ => cases hx; exact n2 2 (by decide)
    | 4, _ => cases hx; exact n2 3 (by decide)
  · have := mu_at hp
    have := mu_at hq
    omega
  · exact Or.inr (by rw [mu_at hq]; exact Nat.le_trans hS.1 (Nat.le_add_right _ _))
  · have := (hP i p hp).lt
    have := mu_at hq
    omega
end BM
