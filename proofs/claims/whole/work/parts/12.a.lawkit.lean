/-! THE LAW'S ROWS: worlds one after the other, the script, the switch. -/
theorem nd_iff : ∀ l : List Nat, va_nd l = true ↔ l.Nodup
  | [] => by simp [va_nd]
  | a :: l => by simp [va_nd, nd_iff l]
theorem rg_left {a b : va_W} : (List.range a.length).map (fun i => (a ++ b)[i]?) = a.map some := by
  apply List.ext_getElem?
  intro i
  by_cases h : i < a.length
  · rw [List.getElem?_map, List.getElem?_map, List.getElem?_range h]
    show some ((a ++ b)[i]?) = _
    rw [List.getElem?_append_left h, List.getElem?_eq_getElem h]
    rfl
  · rw [List.getElem?_eq_none (by simpa using h), List.getElem?_eq_none (by simpa using h)]
theorem rg_right {a b : va_W} : ((List.range b.length).map (a.length + ·)).map (fun i => (a ++ b)[i]?) = b.map some := by
  rw [List.map_map]
  apply List.ext_getElem?
  intro i
  by_cases h : i < b.length
  · rw [List.getElem?_map, List.getElem?_map, List.getElem?_range h, List.getElem?_eq_getElem h]
    simp [h]
  · rw [List.getElem?_eq_none (by simpa using h), List.getElem?_eq_none (by simpa using h)]
theorem nd_range {n : Nat} : va_nd (List.range n) = true := (nd_iff _).mpr List.nodup_range
theorem nd_shift {n k : Nat} : va_nd ((List.range n).map (k + ·)) = true := (nd_iff _).mpr (List.Pairwise.map _ (fun a b h z => h (by omega)) List.nodup_range)
theorem cut_left {a b : va_W} : Cut (a ++ b) a b (List.range a.length) ((List.range b.length).map (a.length + ·)) := by
  refine ⟨rg_left, rg_right, nd_range, nd_shift, fun i h z => ?_⟩
  obtain ⟨k, _, rfl⟩ := List.mem_map.mp h
  have := List.mem_range.mp z
  omega
section LK
variable {X : CX} {cs sl : Nat} {w w' w1 : va_W} {pc : Nat} {lv lv' : List (Nat × Value)} {st stk : List Value} {cc : ByteArray} {nL : Nat} {ret : Option FieldType} {ws : List Cond} {own : String} {rm : Room} {D : va_G} {cl : List vw_C} {tys : List (ClassId × FieldType)} {al : List Nat} {N : (Nat → Prop) → State → Prop}
theorem bv_swap {a b : va_W} (k : V2 X cs sl (b ++ a) pc lv st) : V2 X cs sl (a ++ b) pc lv st := by
  refine bv_w ((List.range b.length).map (a.length + ·) ++ List.range a.length) ?_ ?_ k
  · rw [List.map_append, rg_left, rg_right, List.map_append]
  · refine (nd_iff _).mpr (List.nodup_append.mpr ⟨(nd_iff _).mp nd_shift, (nd_iff _).mp nd_range, fun x hx y hy e => ?_⟩)
    obtain ⟨k, _, rfl⟩ := List.mem_map.mp hx
    have := List.mem_range.mp hy
    omega
theorem bv_rot {a b c : va_W} (k : V2 X cs sl (b ++ (c ++ a)) pc lv st) : V2 X cs sl ((a ++ b) ++ c) pc lv st :=
  bv_eqw (List.append_assoc a b c) (bv_swap (bv_eqw (List.append_assoc b c a) k))
theorem bv_land (C : O2 X cc nL ret ws own rm D cl tys al N) {x y : Int64} (hdg : decode cc pc = .ok (.land, 1))
    (k : V2 X cs sl w (pc + 1) lv (.long (x &&& y) :: st)) : V2 X cs sl w pc lv (.long y :: .long x :: st) := by
  obtain ⟨p, l, e, R, s, m, args, below, meth, c, D', cl', tys', al', N', nL', Q⟩ := X
  obtain ⟨hx, hb, hml, hown, hts, hr, hlk, rfl, hK, hN, hNK, rfl, rfl, rfl, rfl, rfl, rfl⟩ := C
  intro H locs ls hP hD hS hl
  exact lv_land hx hb hdg (k H locs ls hP hD hS hl)
theorem bv_lor (C : O2 X cc nL ret ws own rm D cl tys al N) {x y : Int64} (hdg : decode cc pc = .ok (.lor, 1))
    (k : V2 X cs sl w (pc + 1) lv (.long (x ||| y) :: st)) : V2 X cs sl w pc lv (.long y :: .long x :: st) := by
  obtain ⟨p, l, e, R, s, m, args, below, meth, c, D', cl', tys', al', N', nL', Q⟩ := X
  obtain ⟨hx, hb, hml, hown, hts, hr, hlk, rfl, hK, hN, hNK, rfl, rfl, rfl, rfl, rfl, rfl⟩ := C
  intro H locs ls hP hD hS hl
  exact lv_lor hx hb hdg (k H locs ls hP hD hS hl)
theorem bv_lshl (C : O2 X cc nL ret ws own rm D cl tys al N) {x : Int64} {y : Int32} (hdg : decode cc pc = .ok (.lshl, 1))
    (k : V2 X cs sl w (pc + 1) lv (.long (x <<< (y.toInt64 &&& 63)) :: st)) : V2 X cs sl w pc lv (.int y :: .long x :: st) := by
  obtain ⟨p, l, e, R, s, m, args, below, meth, c, D', cl', tys', al', N', nL', Q⟩ := X
  obtain ⟨hx, hb, hml, hown, hts, hr, hlk, rfl, hK, hN, hNK, rfl, rfl, rfl, rfl, rfl, rfl⟩ := C
  intro H locs ls hP hD hS hl
  exact lv_lshl hx hb hdg rfl (k H locs ls hP hD hS hl)
theorem bv_ti (C : O2 X cc nL ret ws own rm D cl tys al N) {t n : Nat} {f : Nat → Int32} {i : Int32} (hz : ∀ (A : Nat → Prop) (U : State), N A U → va_T .int t n (fun j => .int (f j)) A U U.heap) (hi : vp_in i n) (hdg : decode cc pc = .ok (.iaload, 1))
    (k : V2 X cs sl w (pc + 1) lv (.int (f i.toNatClampNeg) :: st)) : V2 X cs sl w pc lv (.int i :: .ref t :: st) := by
  obtain ⟨p, l, e, R, s, m, args, below, meth, c, D', cl', tys', al', N', nL', Q⟩ := X
  obtain ⟨hx, hb, hml, hown, hts, hr, hlk, rfl, hK, hN, hNK, rfl, rfl, rfl, rfl, rfl, rfl⟩ := C
  intro H locs ls hP hD hS hl
  exact va_ti hx hb (hz _ _ hN) hS hi rfl hdg (k H locs ls hP hD hS hl)
theorem bv_tin (C : O2 X cc nL ret ws own rm D cl tys al N) {dflt lo hi : Int} {offs : Array Int} {len : Nat} {x : Int32} {off : Int} {tgt : Nat} (hdg : decode cc pc = .ok (.tableswitch dflt lo hi offs, len)) (h1 : ¬ x.toInt < lo) (h2 : ¬ hi < x.toInt) (ho : offs[(x.toInt - lo).toNat]? = some off) (ht : (pc : Int) + off = (tgt : Int))
    (k : V2 X cs sl w tgt lv st) : V2 X cs sl w pc lv (.int x :: st) := by
  obtain ⟨p, l, e, R, s, m, args, below, meth, c, D', cl', tys', al', N', nL', Q⟩ := X
  obtain ⟨hx, hb, hml, hown, hts, hr, hlk, rfl, hK, hN, hNK, rfl, rfl, rfl, rfl, rfl, rfl⟩ := C
  intro H locs ls hP hD hS hl
  exact lv_tableIn hx hb hdg h1 h2 ho ht (k H locs ls hP hD hS hl)
theorem bv_tout (C : O2 X cc nL ret ws own rm D cl tys al N) {dflt lo hi : Int} {offs : Array Int} {len : Nat} {x : Int32} {tgt : Nat} (hdg : decode cc pc = .ok (.tableswitch dflt lo hi offs, len)) (h : x.toInt < lo ∨ hi < x.toInt) (ht : (pc : Int) + dflt = (tgt : Int))
    (k : V2 X cs sl w tgt lv st) : V2 X cs sl w pc lv (.int x :: st) := by
  obtain ⟨p, l, e, R, s, m, args, below, meth, c, D', cl', tys', al', N', nL', Q⟩ := X
  obtain ⟨hx, hb, hml, hown, hts, hr, hlk, rfl, hK, hN, hNK, rfl, rfl, rfl, rfl, rfl, rfl⟩ := C
  intro H locs ls hP hD hS hl
  exact lv_tableOut hx hb hdg h ht (k H locs ls hP hD hS hl)
def LVJ (j b x0 m0 : Nat) : List (Nat × Value) := [(3, .int (nI (5 * j))), (2, .ref m0), (1, .ref x0), (0, .ref b)]
variable {b L j x0 m0 : Nat} {xs : Nat → Int32}
/-- one argument out of the script -/
theorem lw_arg (C : O2 X cc nL ret ws own rm D cl tys al N) (hz : ∀ (A : Nat → Prop) (U : State), N A U → va_T .int b L (fun j => .int (xs j)) A U U.heap) (hL : L ≤ 2560) (hj : 5 * j + 5 ≤ L) (k : Nat) (hk : k ≤ 4) {n : Int} (hn : Int32.ofInt n = nI k) (d0 : decode cc pc = .ok (.aload_n 0, 1)) (d1 : decode cc (pc + 1) = .ok (.iload_n 3, 1)) (d2 : decode cc (pc + 2) = .ok (.iconst n, 1)) (d3 : decode cc (pc + 3) = .ok (.iadd, 1)) (d4 : decode cc (pc + 4) = .ok (.iaload, 1))
    (kk : V2 X cs sl w (pc + 5) (LVJ j b x0 m0) (.int (xs (5 * j + k)) :: st)) : V2 X cs sl w pc (LVJ j b x0 m0) st := by
  refine bv_aload_n C 3 d0 rfl ?_
  refine bv_iload_n C 0 d1 rfl ?_
  refine bv_iconst C d2 (v := nI k) hn ?_
  refine bv_iadd C d3 (v := nI (5 * j + k)) (nI_add _ _) ?_
  have e : (nI (5 * j + k)).toNatClampNeg = 5 * j + k := nI_clamp (by omega)
  refine bv_ti C hz (vp_in_nI (by omega) (by omega)) d4 ?_
  rw [e]
  exact kk
/-- the tail of every case: five on, and round again -/
theorem lw_tail (C : O2 X cc nL ret ws own rm D cl tys al N) (hnL : 3 < nL) (d0 : decode cc 2090 = .ok (.iinc 3 5, 3)) (d1 : decode cc 2093 = .ok (.goto (-2075), 3)) (kk : V2 X cs sl w 18 (LVJ (j + 1) b x0 m0) []) : V2 X cs sl w 2090 (LVJ j b x0 m0) [] := by
  refine bv_iinc C (lv' := LVJ (j + 1) b x0 m0) (v := nI (5 * (j + 1))) 0 d0 rfl (nI_add (5 * j) 5) hnL rfl ?_
  exact bv_goto C d1 (tgt := 18) (by decide) kk
end LK
