/-! ===== BEGIN words of one list among another's, by their places ===== -/
theorem goodIn_r {big : List Cond} (ws : List Cond) (ps : List Nat) (hp : ws = ps.filterMap (fun i => big[i]?)) (h : ws.all goodWord = true) : GoodIn big ws := by
  intro w hw
  have h1 := List.all_eq_true.mp h w hw
  rw [hp] at hw
  obtain ⟨i, -, hi⟩ := List.mem_filterMap.mp hw
  have hm : w ∈ big := by first | exact List.mem_of_getElem? hi | exact List.getElem?_mem hi
  exact ⟨hm, good_of_word h1⟩
theorem goodIn_app {big a b : List Cond} (ha : GoodIn big a) (hb : GoodIn big b) : GoodIn big (a ++ b) := fun w h => (List.mem_append.mp h).elim (ha w) (hb w)
theorem goodIn_ca {big a b : List Cond} {c : Cond} (ha : GoodIn big (c :: a)) (hb : GoodIn big b) : GoodIn big (c :: (a ++ b)) := fun w h => (List.mem_cons.mp h).elim (fun e => ha w (List.mem_cons.mpr (Or.inl e))) (fun h => (List.mem_append.mp h).elim (fun h => ha w (List.mem_cons.mpr (Or.inr h))) (hb w))
theorem goodIn_sub {big ws : List Cond} (hm : ∀ w ∈ ws, w ∈ big) (h : ws.all goodWord = true) : GoodIn big ws := fun w hw => ⟨hm w hw, good_of_word (List.all_eq_true.mp h w hw)⟩
/-! ===== END ===== -/

/-! ===== BEGIN new T[n][m]: the outer array a place, the inner ones among the pooled ===== -/
/-- f, but v at every address of l -/
def vr_up {α : Type} (f : Nat → α) (l : List Nat) (v : α) : Nat → α := fun a => if a ∈ l then v else f a
theorem vr_up_in {α : Type} {f : Nat → α} {l : List Nat} {v : α} {a : Nat} (h : a ∈ l) : vr_up f l v a = v := if_pos h
theorem vr_up_ne {α : Type} {f : Nat → α} {l : List Nat} {v : α} {a : Nat} (h : a ∉ l) : vr_up f l v a = f a := if_neg h
theorem vr_rows {L l : List Nat} {f : Nat → va_E} {e : va_E} (h : ∀ a, a ∈ l → a ∉ L) : va_pl L f ++ l.map (fun a => (a, e)) = va_pl (L ++ l) (vr_up f l e) := by
  unfold va_pl
  rw [List.map_append]
  congr 1
  · apply List.map_congr_left
    intro a ha
    rw [vr_up_ne (fun q => h a q ha)]
  · apply List.map_congr_left
    intro a ha
    rw [vr_up_in ha]
theorem vr_lay {X rows : va_W} {x : Nat × va_E} {pl : va_W} {D : va_G} {cl : List vw_C} {H : Heap} (hP : va_P D cl (((X ++ pl) ++ [x]) ++ rows) H) : va_P D cl ((X ++ [x]) ++ (pl ++ rows)) H := by
  rw [List.append_assoc (X ++ pl)] at hP
  have h := va_P.swap hP
  rw [← List.append_assoc X] at h
  have h2 := va_P.swap h
  rw [List.append_assoc (X ++ [x])] at h2
  exact h2
theorem vr_layD {X rows : va_W} {x : Nat × va_E} {pl : va_W} {A : Nat → Prop} (hD : va_D A (((X ++ pl) ++ [x]) ++ rows)) : va_D A ((X ++ [x]) ++ (pl ++ rows)) := by
  rw [List.append_assoc (X ++ pl)] at hD
  have h := va_D.swap hD
  rw [← List.append_assoc X] at h
  have h2 := va_D.swap h
  rw [List.append_assoc (X ++ [x])] at h2
  exact h2
theorem vr_outer (c : ClassId) (N h0 : Nat) : ∀ i : Nat, Jvm.Free.Multi.outerC c N h0 i = arrV c N (fun j => va_rf (if j < i then some (h0 + 1 + j) else none))
  | 0 => by
    show ({ cls := c, slots := Array.replicate N .null, vm := .none } : Cell) = _
    rw [arrV_new]
    refine congrArg (arrV c N) (funext fun j => ?_)
    simp [va_rf]
  | i + 1 => by
    show (Jvm.Free.Multi.outerC c N h0 i).setSlot i (.ref (h0 + 1 + i)) = _
    rw [vr_outer c N h0 i, arrV_store]
    refine congrArg (arrV c N) (funext fun j => ?_)
    by_cases e : j = i
    · subst e
      simp [updV, va_rf]
    · by_cases h : j < i
      · simp [updV, e, h, Nat.lt_succ_of_lt h]
      · simp [updV, e, h, show ¬ j < i + 1 by omega]
section VGM
variable {p : Program} {l : Launch} {e : Env} {R : Room} {s : State} {m : MethodId} {args : Array Value} {below : List Frame} {meth : Method} {c : Code} {H : Heap} {locs : List Loc} {cells slots : Nat} {Q : State → Prop}
variable {cc : ByteArray} {pc : Nat} {ls : Array Slot} {rest : List Value} {D : va_G} {cl : List vw_C} {A : Nat → Prop} {a : Nat} {tys : List (ClassId × FieldType)} {ws : va_W} {H0 : Heap}
theorem va_mna {X : va_W} {L : List Nat} {f : Nat → va_E} {cc : ByteArray} (hexec : p.tables.exec = Jvm.exec) (hb : c.code = cc) {own : String} {index : Nat} {ty : FieldType} {cy : ClassId} (hown : s.vm.findClass own = some m.cls) (hclink : (Cond.classLink own index ("[" ++ (FieldType.array ty).toString)).before args s = true) (hover : va_AOA ty s) (harr : (Cond.arrayClass ty).before args s = true) (hcy : s.vm.findClass (FieldType.array ty).toString = some cy)
    (hK : va_K D cl tys s) (hP : va_P D cl (X ++ va_pl L f) H) (hD : va_D A (X ++ va_pl L f)) (hS : va_S A H0 H locs) (hA : ∀ q, H0.size ≤ q → A q) {n k : Int32} {N' K' : Nat} {z : vp_A} (hn : ¬ n < 0) (hk : ¬ k < 0) (hN : n.toNatClampNeg = N') (hM : k.toNatClampNeg = K')
    (hb1 : N' * 4 ≤ 536870912) (hb2 : K' * componentBytes ty ≤ 536870912) (hb3 : K' ≤ 536870912) (hdf : fits ty (defaultValue ty) = true) (hdd : (defaultValue ty).isDefault = true) (hcells : cells + (1 + N') ≤ R.cells) (hslots : slots + (N' + N' * K') ≤ R.slots) (hz : ∀ c : ClassId, Jvm.Free.Multi.innerC c K' (defaultValue ty) = vp_cell c z) (hdg : decode cc pc = .ok (.multianewarray index 2, 4))
    (kk : ∀ (q : Nat) (r : Nat → Nat) (cA : ClassId) (H1 : Heap), (∀ i j : Nat, i < N' → j < N' → r i = r j → i = j) → (∀ i : Nat, i < N' → r i ∉ L) → va_K D cl (tys ++ [(cA, .array ty)]) s →
      va_P D cl ((X ++ [(q, .inl (cA, N', .inr (.inr (.inr (.inr (fun i => if i < N' then some (r i) else none))))))]) ++ va_pl (L ++ (List.range N').map r) (vr_up f ((List.range N').map r) (.inl (cy, z)))) H1 → va_D A ((X ++ [(q, .inl (cA, N', .inr (.inr (.inr (.inr (fun i => if i < N' then some (r i) else none))))))]) ++ va_pl (L ++ (List.range N').map r) (vr_up f ((List.range N').map r) (.inl (cy, z)))) → va_S A H0 H1 locs →
      W p l e R s m args below meth c H1 locs (cells + 1 + N') (slots + N' + N' * K') Q (F0 m (pc + 4) ls (.ref q :: rest))) : W p l e R s m args below meth c H locs cells slots Q (F0 m pc ls (.int k :: .int n :: rest)) := by
  subst hN
  subst hM
  intro T hT Xs
  obtain ⟨vm₁, cA, comp, -, fA, fC, hO, -, X', step⟩ := Xs.multianewarray2F hexec hown hclink (va_AOA.use hover) harr (g := F0 m pc ls (.int k :: .int n :: rest)) rfl (by rw [hb]; exact hdg) rfl hn hk hb1 hb2 hb3 hdf hdd hcells hslots
  have ec : some cy = some comp := hcy.symm.trans fC
  cases ec
  generalize hF : Jvm.Free.Multi.fill (T.setVm vm₁) cA cy n.toNatClampNeg k.toNatClampNeg (defaultValue ty) n.toNatClampNeg = F at X' step
  have hTh : (T.setVm vm₁).heap = H := hT
  obtain ⟨f1, f2, -, -⟩ := Jvm.Free.Multi.fill_facts (T.setVm vm₁) cA cy n.toNatClampNeg k.toNatClampNeg (defaultValue ty) n.toNatClampNeg
  rw [hF, hTh] at f1 f2
  have hold : ∀ x : Nat, x < H.size → F.heap[x]? = H[x]? := fun x hx => by
    have := Jvm.Free.Multi.fill_old (T.setVm vm₁) cA cy n.toNatClampNeg k.toNatClampNeg (defaultValue ty) (a := x) (by rw [hTh]; exact hx) n.toNatClampNeg
    rw [hF, hTh] at this
    exact this
  have hrow : ∀ j : Nat, j < n.toNatClampNeg → F.heap[H.size + 1 + j]? = some (vp_cell cy z) := fun j hj => by
    have := Jvm.Free.Multi.fill_inner (T.setVm vm₁) cA cy n.toNatClampNeg k.toNatClampNeg (defaultValue ty) n.toNatClampNeg j hj
    rw [hF, hTh, hz] at this
    exact this
  have hout : Jvm.Free.Multi.outerC cA n.toNatClampNeg H.size n.toNatClampNeg = vp_cell cA (n.toNatClampNeg, .inr (.inr (.inr (.inr (fun i => if i < n.toNatClampNeg then some (H.size + 1 + i) else none))))) := by
    rw [vp_cell_q]
    exact vr_outer cA n.toNatClampNeg H.size n.toNatClampNeg
  rw [hout] at f2
  have hlt : ∀ a, a ∈ L → a < H.size := fun a ha => by
    obtain ⟨k9, hk9⟩ := va_pl_get (X := X) (f := f) ha
    exact (hP k9 _ hk9).lt
  have hnl : ∀ i : Nat, i < n.toNatClampNeg → H.size + 1 + i ∉ L := fun i _ h => by
    have := hlt _ h
    omega
  have hnm : ∀ a, a ∈ (List.range n.toNatClampNeg).map (fun i => H.size + 1 + i) → a ∉ L := fun a ha h => by
    obtain ⟨i, -, rfl⟩ := List.mem_map.mp ha
    have := hlt _ h
    omega
  have hP0 : va_P D cl (X ++ va_pl L f) F.heap := hP.kept (fun k9 x hx => hold x.1 ((hP k9 x hx).lt))
  have hP1 : va_P D cl ((X ++ va_pl L f) ++ [(H.size, .inl (cA, n.toNatClampNeg, .inr (.inr (.inr (.inr (fun i => if i < n.toNatClampNeg then some (H.size + 1 + i) else none))))))]) F.heap := hP0.app (fun k9 x hx => by
    have h0 : k9 < 1 := (List.getElem?_eq_some_iff.mp hx).1
    rw [show k9 = 0 by omega] at hx
    cases hx
    exact f2)
  have hP2 : va_P D cl (((X ++ va_pl L f) ++ [(H.size, .inl (cA, n.toNatClampNeg, .inr (.inr (.inr (.inr (fun i => if i < n.toNatClampNeg then some (H.size + 1 + i) else none))))))]) ++ ((List.range n.toNatClampNeg).map (fun i => H.size + 1 + i)).map (fun a => (a, .inl (cy, z)))) F.heap := hP1.app (fun k9 x hx => by
    obtain ⟨a, ha, rfl⟩ := List.mem_map.mp (List.mem_of_getElem? hx)
    obtain ⟨i, hi, rfl⟩ := List.mem_map.mp ha
    exact hrow i (List.mem_range.mp hi))
  have hD2 : va_D A (((X ++ va_pl L f) ++ [(H.size, .inl (cA, n.toNatClampNeg, .inr (.inr (.inr (.inr (fun i => if i < n.toNatClampNeg then some (H.size + 1 + i) else none))))))]) ++ ((List.range n.toNatClampNeg).map (fun i => H.size + 1 + i)).map (fun a => (a, .inl (cy, z)))) := by
    have hD1 := hD.push (e := .inl (cA, n.toNatClampNeg, .inr (.inr (.inr (.inr (fun i => if i < n.toNatClampNeg then some (H.size + 1 + i) else none)))))) hP rfl (hA _ hS.1)
    generalize hW1 : (X ++ va_pl L f) ++ [(H.size, .inl (cA, n.toNatClampNeg, .inr (.inr (.inr (.inr (fun i => if i < n.toNatClampNeg then some (H.size + 1 + i) else none))))))] = W1 at hD1 hP1 ⊢
    have hle : ∀ (k9 : Nat) (x : Nat × va_E), W1[k9]? = some x → x.1 ≤ H.size := fun k9 x hx => by
      rw [← hW1] at hx
      by_cases hl : k9 < (X ++ va_pl L f).length
      · rw [List.getElem?_append_left hl] at hx
        exact Nat.le_of_lt ((hP k9 x hx).lt)
      · rw [List.getElem?_append_right (by omega)] at hx
        have h0 : k9 - (X ++ va_pl L f).length < 1 := (List.getElem?_eq_some_iff.mp hx).1
        rw [show k9 - (X ++ va_pl L f).length = 0 by omega] at hx
        cases hx
        exact Nat.le_refl _
    have hr : ∀ (k9 : Nat) (x : Nat × va_E), (((List.range n.toNatClampNeg).map (fun i => H.size + 1 + i)).map (fun a => ((a, .inl (cy, z)) : Nat × va_E)))[k9]? = some x → x.1 = H.size + 1 + k9 := fun k9 x hx => by
      rw [List.getElem?_map, List.getElem?_map] at hx
      by_cases h9 : k9 < n.toNatClampNeg
      · rw [List.getElem?_range h9] at hx
        cases hx
        rfl
      · have hn0 : (List.range n.toNatClampNeg)[k9]? = none := List.getElem?_eq_none (by rw [List.length_range]; omega)
        rw [hn0] at hx
        cases hx
    refine ⟨fun i j x y hi hj hxy => ?_, fun k9 x hx => ?_⟩
    · by_cases h1 : i < W1.length <;> by_cases h2 : j < W1.length
      · rw [List.getElem?_append_left h1] at hi
        rw [List.getElem?_append_left h2] at hj
        exact hD1.1 i j x y hi hj hxy
      · rw [List.getElem?_append_left h1] at hi
        rw [List.getElem?_append_right (by omega)] at hj
        have := hle _ _ hi
        have := hr _ _ hj
        omega
      · rw [List.getElem?_append_right (by omega)] at hi
        rw [List.getElem?_append_left h2] at hj
        have := hle _ _ hj
        have := hr _ _ hi
        omega
      · rw [List.getElem?_append_right (by omega)] at hi hj
        have := hr _ _ hi
        have := hr _ _ hj
        omega
    · by_cases h1 : k9 < W1.length
      · rw [List.getElem?_append_left h1] at hx
        exact hD1.2 k9 x hx
      · rw [List.getElem?_append_right (by omega)] at hx
        have := hr _ _ hx
        exact hA _ (by have := hS.1; omega)
  have hAr : ArrOfT s cA (.array ty) := fun N9 z9 => by
    obtain ⟨-, k9, hk9, cm9, hkk9⟩ := (hO 0 0 0).1
    exact ⟨(fun q hq => by cases hq), k9, hk9, cm9, hkk9⟩
  have hK2 : va_K D cl (tys ++ [(cA, .array ty)]) s := ⟨hK.1, fun k9 x hx => by
    by_cases hl : k9 < tys.length
    · rw [List.getElem?_append_left hl] at hx
      exact hK.2 k9 x hx
    · rw [List.getElem?_append_right (by omega)] at hx
      have h0 : k9 - tys.length < 1 := (List.getElem?_eq_some_iff.mp hx).1
      rw [show k9 - tys.length = 0 by omega] at hx
      cases hx
      exact ⟨hAr, fA⟩⟩
  obtain ⟨t, a1, b1⟩ := kk H.size (fun i => H.size + 1 + i) cA F.heap (fun i j _ _ h => by have h9 : H.size + 1 + i = H.size + 1 + j := h; omega) hnl hK2 (by rw [← vr_rows hnm]; exact vr_lay hP2) (by rw [← vr_rows hnm]; exact vr_layD hD2) ⟨by rw [f1]; have := hS.1; omega, fun x h1 h2 => (hold x (Nat.lt_of_lt_of_le h1 hS.1)).trans (hS.2.1 x h1 h2), hS.2.2⟩ F rfl X'
  refine ⟨t, step t ?_, b1⟩
  have e : T.heap.size = H.size := by rw [hT]
  rw [e]
  exact a1
end VGM
/-! ===== END ===== -/

/-! ===== BEGIN printed: names, fields, word lists, decode rows ===== -/
def RX0 : String := "PartnerWorth$Council"
def TX0 : u_T := fun k => match k with
  | 0 => ("PartnerWorth$Council", "n", "I", false)
  | 1 => ("PartnerWorth$Council", "needed", "I", false)
  | 2 => ("PartnerWorth$Council", "estate", "I", false)
  | 3 => ("PartnerWorth$Council", "weights", "[I", true)
  | 4 => ("PartnerWorth$Council", "unions", "[I", true)
  | 5 => ("PartnerWorth$Council", "edges", "[I", true)
  | _ => ("PartnerWorth$Council", "games", "[[J", true)
def tyX0 : Nat → FieldType := fun k => match k with
  | 0 => .int
  | 1 => .int
  | 2 => .int
  | 3 => .array .int
  | 4 => .array .int
  | 5 => .array .int
  | _ => .array (.array .long)
abbrev wsX00 : List Cond := u_ws RX0 TX0 7
theorem nmX0 : ∀ a, a < 7 → ∀ b, b < 7 → a ≠ b → (TX0 a).2.1 ≠ (TX0 b).2.1 := by decide +kernel
theorem tyX0_ok : ∀ k, k < 7 → parseFieldDescriptor (TX0 k).2.2.1 = some (tyX0 k) := by decide +kernel
abbrev cX0_init : ByteArray := prog_2_method_1_code
def yX0_init : MethodName := ⟨RX0, "<init>", "()V"⟩
abbrev cX0_begin : ByteArray := prog_2_method_2_code
def yX0_begin : MethodName := ⟨RX0, "begin", "(I)V"⟩
abbrev cX0_become : ByteArray := prog_2_method_3_code
def yX0_become : MethodName := ⟨RX0, "become", "(LPartnerWorth$Council;)V"⟩
abbrev cX0_sets : ByteArray := prog_2_method_4_code
def yX0_sets : MethodName := ⟨RX0, "sets", "()I"⟩
abbrev cX0_everyone : ByteArray := prog_2_method_5_code
def yX0_everyone : MethodName := ⟨RX0, "everyone", "()I"⟩
abbrev cX0_hasPartner : ByteArray := prog_2_method_6_code
def yX0_hasPartner : MethodName := ⟨RX0, "hasPartner", "(I)Z"⟩
abbrev cX0_hasTwo : ByteArray := prog_2_method_7_code
def yX0_hasTwo : MethodName := ⟨RX0, "hasTwo", "(II)Z"⟩
abbrev cX0_hasSet : ByteArray := prog_2_method_8_code
def yX0_hasSet : MethodName := ⟨RX0, "hasSet", "(I)Z"⟩
abbrev cX0_bringTogether : ByteArray := prog_2_method_9_code
def yX0_bringTogether : MethodName := ⟨RX0, "bringTogether", "(II)V"⟩
abbrev cX0_countUnions : ByteArray := prog_2_method_10_code
def yX0_countUnions : MethodName := ⟨RX0, "countUnions", "()I"⟩
abbrev cX0_wholeUnions : ByteArray := prog_2_method_11_code
def yX0_wholeUnions : MethodName := ⟨RX0, "wholeUnions", "(I)I"⟩
abbrev cX0_countEdges : ByteArray := prog_2_method_12_code
def yX0_countEdges : MethodName := ⟨RX0, "countEdges", "()I"⟩
abbrev cX0_weigh : ByteArray := prog_2_method_13_code
def yX0_weigh : MethodName := ⟨RX0, "weigh", "(I)I"⟩
abbrev cX0_wins : ByteArray := prog_2_method_14_code
def yX0_wins : MethodName := ⟨RX0, "wins", "(I)Z"⟩
abbrev cX0_isSwing : ByteArray := prog_2_method_15_code
def yX0_isSwing : MethodName := ⟨RX0, "isSwing", "(II)Z"⟩
abbrev cX0_winsBarely : ByteArray := prog_2_method_16_code
def yX0_winsBarely : MethodName := ⟨RX0, "winsBarely", "(I)Z"⟩
abbrev cX0_madeValue : ByteArray := prog_2_method_17_code
def yX0_madeValue : MethodName := ⟨RX0, "madeValue", "(II)J"⟩
abbrev cX0_edgesWithin : ByteArray := prog_2_method_18_code
def yX0_edgesWithin : MethodName := ⟨RX0, "edgesWithin", "(I)I"⟩
abbrev cX0_heaviestOf : ByteArray := prog_2_method_19_code
def yX0_heaviestOf : MethodName := ⟨RX0, "heaviestOf", "(I)I"⟩
def RX1 : String := "PartnerWorth$Exact"
def TX1 : u_T := fun k => match k with
  | _ => ("PartnerWorth$Exact", "beyond", "Z", false)
def tyX1 : Nat → FieldType := fun k => match k with
  | _ => .boolean
abbrev wsX10 : List Cond := u_ws RX1 TX1 1
theorem nmX1 : ∀ a, a < 1 → ∀ b, b < 1 → a ≠ b → (TX1 a).2.1 ≠ (TX1 b).2.1 := by decide +kernel
theorem tyX1_ok : ∀ k, k < 1 → parseFieldDescriptor (TX1 k).2.2.1 = some (tyX1 k) := by decide +kernel
abbrev cX1_init : ByteArray := prog_3_method_1_code
def yX1_init : MethodName := ⟨RX1, "<init>", "()V"⟩
abbrev cX1_begin : ByteArray := prog_3_method_2_code
def yX1_begin : MethodName := ⟨RX1, "begin", "()V"⟩
abbrev cX1_plus : ByteArray := prog_3_method_3_code
def yX1_plus : MethodName := ⟨RX1, "plus", "(JJ)J"⟩
abbrev cX1_less : ByteArray := prog_3_method_4_code
def yX1_less : MethodName := ⟨RX1, "less", "(JJ)J"⟩
abbrev cX1_product : ByteArray := prog_3_method_5_code
def yX1_product : MethodName := ⟨RX1, "product", "(JJ)J"⟩
def RX2 : String := "PartnerWorth$Paper"
def TX2 : u_T := fun k => match k with
  | 0 => ("PartnerWorth$Paper", "bytes", "[B", true)
  | _ => ("PartnerWorth$Paper", "length", "I", false)
def tyX2 : Nat → FieldType := fun k => match k with
  | 0 => .array .byte
  | _ => .int
abbrev wsX20 : List Cond := u_ws RX2 TX2 2
theorem nmX2 : ∀ a, a < 2 → ∀ b, b < 2 → a ≠ b → (TX2 a).2.1 ≠ (TX2 b).2.1 := by decide +kernel
theorem tyX2_ok : ∀ k, k < 2 → parseFieldDescriptor (TX2 k).2.2.1 = some (tyX2 k) := by decide +kernel
abbrev cX2_init : ByteArray := prog_4_method_1_code
def yX2_init : MethodName := ⟨RX2, "<init>", "()V"⟩
abbrev cX2_wipe : ByteArray := prog_4_method_2_code
def yX2_wipe : MethodName := ⟨RX2, "wipe", "()V"⟩
abbrev cX2_append : ByteArray := prog_4_method_3_code
def yX2_append : MethodName := ⟨RX2, "append", "(C)V"⟩
abbrev cX2_appendFraction : ByteArray := prog_4_method_4_code
def yX2_appendFraction : MethodName := ⟨RX2, "appendFraction", "(JJ)V"⟩
abbrev cX2_appendNumber : ByteArray := prog_4_method_5_code
def yX2_appendNumber : MethodName := ⟨RX2, "appendNumber", "(J)V"⟩
def RX3 : String := "PartnerWorth$Rows"
def TX3 : u_T := fun k => match k with
  | 0 => ("PartnerWorth$Rows", "places", "[[J", true)
  | _ => ("PartnerWorth$Rows", "sizes", "[I", true)
def tyX3 : Nat → FieldType := fun k => match k with
  | 0 => .array (.array .long)
  | _ => .array .int
abbrev wsX30 : List Cond := u_ws RX3 TX3 2
theorem nmX3 : ∀ a, a < 2 → ∀ b, b < 2 → a ≠ b → (TX3 a).2.1 ≠ (TX3 b).2.1 := by decide +kernel
theorem tyX3_ok : ∀ k, k < 2 → parseFieldDescriptor (TX3 k).2.2.1 = some (tyX3 k) := by decide +kernel
abbrev cX3_init : ByteArray := prog_5_method_1_code
def yX3_init : MethodName := ⟨RX3, "<init>", "()V"⟩
abbrev cX3_begin : ByteArray := prog_5_method_2_code
def yX3_begin : MethodName := ⟨RX3, "begin", "(II)V"⟩
abbrev cX3_isNothing : ByteArray := prog_5_method_3_code
def yX3_isNothing : MethodName := ⟨RX3, "isNothing", "(I)Z"⟩
abbrev cX3_holds : ByteArray := prog_5_method_4_code
def yX3_holds : MethodName := ⟨RX3, "holds", "(III)Z"⟩
def RX4 : String := "PartnerWorth$Tape"
def TX4 : u_T := fun k => match k with
  | 0 => ("PartnerWorth$Tape", "bytes", "[B", true)
  | 1 => ("PartnerWorth$Tape", "length", "I", false)
  | 2 => ("PartnerWorth$Tape", "at", "I", false)
  | _ => ("PartnerWorth$Tape", "number", "J", false)
def tyX4 : Nat → FieldType := fun k => match k with
  | 0 => .array .byte
  | 1 => .int
  | 2 => .int
  | _ => .long
abbrev wsX40 : List Cond := u_ws RX4 TX4 4
theorem nmX4 : ∀ a, a < 4 → ∀ b, b < 4 → a ≠ b → (TX4 a).2.1 ≠ (TX4 b).2.1 := by decide +kernel
theorem tyX4_ok : ∀ k, k < 4 → parseFieldDescriptor (TX4 k).2.2.1 = some (tyX4 k) := by decide +kernel
abbrev cX4_init : ByteArray := prog_6_method_1_code
def yX4_init : MethodName := ⟨RX4, "<init>", "()V"⟩
abbrev cX4_append : ByteArray := prog_6_method_2_code
def yX4_append : MethodName := ⟨RX4, "append", "(B)Z"⟩
abbrev cX4_wipe : ByteArray := prog_6_method_3_code
def yX4_wipe : MethodName := ⟨RX4, "wipe", "()V"⟩
abbrev cX4_readInto : ByteArray := prog_6_method_4_code
def yX4_readInto : MethodName := ⟨RX4, "readInto", "([JI)I"⟩
abbrev cX4_readPart : ByteArray := prog_6_method_5_code
def yX4_readPart : MethodName := ⟨RX4, "readPart", "([JI)Z"⟩
abbrev cX4_readLetters : ByteArray := prog_6_method_6_code
def yX4_readLetters : MethodName := ⟨RX4, "readLetters", "(I)I"⟩
abbrev cX4_readNumber : ByteArray := prog_6_method_7_code
def yX4_readNumber : MethodName := ⟨RX4, "readNumber", "()Z"⟩
abbrev cX4_take : ByteArray := prog_6_method_8_code
def yX4_take : MethodName := ⟨RX4, "take", "(C)Z"⟩
abbrev cX4_here : ByteArray := prog_6_method_9_code
def yX4_here : MethodName := ⟨RX4, "here", "()I"⟩
abbrev cX4_isFigure : ByteArray := prog_6_method_10_code
def yX4_isFigure : MethodName := ⟨RX4, "isFigure", "(I)Z"⟩
def RX5 : String := "PartnerWorth"
def TX5 : u_T := fun k => match k with
  | 0 => ("PartnerWorth", "now", "LPartnerWorth$Council;", true)
  | 1 => ("PartnerWorth", "kept", "LPartnerWorth$Council;", true)
  | 2 => ("PartnerWorth", "imageTaken", "Z", false)
  | 3 => ("PartnerWorth", "tape", "LPartnerWorth$Tape;", true)
  | 4 => ("PartnerWorth", "sheet", "LPartnerWorth$Paper;", true)
  | 5 => ("PartnerWorth", "rows", "LPartnerWorth$Rows;", true)
  | 6 => ("PartnerWorth", "exact", "LPartnerWorth$Exact;", true)
  | 7 => ("PartnerWorth", "work", "[J", true)
  | 8 => ("PartnerWorth", "wholes", "[J", true)
  | _ => ("PartnerWorth", "setsBySum", "[I", true)
def tyX5 : Nat → FieldType := fun k => match k with
  | 0 => .object "PartnerWorth$Council"
  | 1 => .object "PartnerWorth$Council"
  | 2 => .boolean
  | 3 => .object "PartnerWorth$Tape"
  | 4 => .object "PartnerWorth$Paper"
  | 5 => .object "PartnerWorth$Rows"
  | 6 => .object "PartnerWorth$Exact"
  | 7 => .array .long
  | 8 => .array .long
  | _ => .array .int
abbrev wsX50 : List Cond := u_ws RX5 TX5 10
theorem nmX5 : ∀ a, a < 10 → ∀ b, b < 10 → a ≠ b → (TX5 a).2.1 ≠ (TX5 b).2.1 := by decide +kernel
theorem tyX5_ok : ∀ k, k < 10 → parseFieldDescriptor (TX5 k).2.2.1 = some (tyX5 k) := by decide +kernel
abbrev cX5_init : ByteArray := prog_1_method_1_code
def yX5_init : MethodName := ⟨RX5, "<init>", "()V"⟩
abbrev cX5_partners : ByteArray := prog_1_method_2_code
def yX5_partners : MethodName := ⟨RX5, "partners", "(I)I"⟩
abbrev cX5_value : ByteArray := prog_1_method_3_code
def yX5_value : MethodName := ⟨RX5, "value", "(IIJ)I"⟩
abbrev cX5_valueOf : ByteArray := prog_1_method_4_code
def yX5_valueOf : MethodName := ⟨RX5, "valueOf", "(II)J"⟩
abbrev cX5_weight : ByteArray := prog_1_method_5_code
def yX5_weight : MethodName := ⟨RX5, "weight", "(II)I"⟩
abbrev cX5_quota : ByteArray := prog_1_method_6_code
def yX5_quota : MethodName := ⟨RX5, "quota", "(II)I"⟩
abbrev cX5_edge : ByteArray := prog_1_method_7_code
def yX5_edge : MethodName := ⟨RX5, "edge", "(III)I"⟩
abbrev cX5_cut : ByteArray := prog_1_method_8_code
def yX5_cut : MethodName := ⟨RX5, "cut", "(II)I"⟩
abbrev cX5_unite : ByteArray := prog_1_method_9_code
def yX5_unite : MethodName := ⟨RX5, "unite", "(II)I"⟩
abbrev cX5_feed : ByteArray := prog_1_method_10_code
def yX5_feed : MethodName := ⟨RX5, "feed", "(I)I"⟩
abbrev cX5_clear : ByteArray := prog_1_method_11_code
def yX5_clear : MethodName := ⟨RX5, "clear", "()I"⟩
abbrev cX5_read : ByteArray := prog_1_method_12_code
def yX5_read : MethodName := ⟨RX5, "read", "(I)I"⟩
abbrev cX5_make : ByteArray := prog_1_method_13_code
def yX5_make : MethodName := ⟨RX5, "make", "(II)I"⟩
abbrev cX5_pairs : ByteArray := prog_1_method_14_code
def yX5_pairs : MethodName := ⟨RX5, "pairs", "(III)I"⟩
abbrev cX5_copy : ByteArray := prog_1_method_15_code
def yX5_copy : MethodName := ⟨RX5, "copy", "(II)I"⟩
abbrev cX5_add : ByteArray := prog_1_method_16_code
def yX5_add : MethodName := ⟨RX5, "add", "(II)I"⟩
abbrev cX5_times : ByteArray := prog_1_method_17_code
def yX5_times : MethodName := ⟨RX5, "times", "(II)I"⟩
abbrev cX5_dual : ByteArray := prog_1_method_18_code
def yX5_dual : MethodName := ⟨RX5, "dual", "(I)I"⟩
abbrev cX5_cover : ByteArray := prog_1_method_19_code
def yX5_cover : MethodName := ⟨RX5, "cover", "(I)I"⟩
abbrev cX5_mask : ByteArray := prog_1_method_20_code
def yX5_mask : MethodName := ⟨RX5, "mask", "(II)I"⟩
abbrev cX5_unanimous : ByteArray := prog_1_method_21_code
def yX5_unanimous : MethodName := ⟨RX5, "unanimous", "(IIJ)I"⟩
abbrev cX5_without : ByteArray := prog_1_method_22_code
def yX5_without : MethodName := ⟨RX5, "without", "(II)I"⟩
abbrev cX5_join : ByteArray := prog_1_method_23_code
def yX5_join : MethodName := ⟨RX5, "join", "(III)I"⟩
abbrev cX5_swap : ByteArray := prog_1_method_24_code
def yX5_swap : MethodName := ⟨RX5, "swap", "(III)I"⟩
abbrev cX5_differ : ByteArray := prog_1_method_25_code
def yX5_differ : MethodName := ⟨RX5, "differ", "(II)I"⟩
abbrev cX5_unlike : ByteArray := prog_1_method_26_code
def yX5_unlike : MethodName := ⟨RX5, "unlike", "(I)I"⟩
abbrev cX5_adds : ByteArray := prog_1_method_27_code
def yX5_adds : MethodName := ⟨RX5, "adds", "(IIII)J"⟩
abbrev cX5_pivot : ByteArray := prog_1_method_28_code
def yX5_pivot : MethodName := ⟨RX5, "pivot", "(II)I"⟩
abbrev cX5_share : ByteArray := prog_1_method_29_code
def yX5_share : MethodName := ⟨RX5, "share", "(III)J"⟩
abbrev cX5_power : ByteArray := prog_1_method_30_code
def yX5_power : MethodName := ⟨RX5, "power", "(II)J"⟩
abbrev cX5_owen : ByteArray := prog_1_method_31_code
def yX5_owen : MethodName := ⟨RX5, "owen", "(III)J"⟩
abbrev cX5_dividend : ByteArray := prog_1_method_32_code
def yX5_dividend : MethodName := ⟨RX5, "dividend", "(II)J"⟩
abbrev cX5_swings : ByteArray := prog_1_method_33_code
def yX5_swings : MethodName := ⟨RX5, "swings", "(II)I"⟩
abbrev cX5_pivots : ByteArray := prog_1_method_34_code
def yX5_pivots : MethodName := ⟨RX5, "pivots", "(II)J"⟩
abbrev cX5_holder : ByteArray := prog_1_method_35_code
def yX5_holder : MethodName := ⟨RX5, "holder", "(II)J"⟩
abbrev cX5_votes : ByteArray := prog_1_method_36_code
def yX5_votes : MethodName := ⟨RX5, "votes", "(I)I"⟩
abbrev cX5_kind : ByteArray := prog_1_method_37_code
def yX5_kind : MethodName := ⟨RX5, "kind", "(II)I"⟩
abbrev cX5_alike : ByteArray := prog_1_method_38_code
def yX5_alike : MethodName := ⟨RX5, "alike", "(II)I"⟩
abbrev cX5_carrier : ByteArray := prog_1_method_39_code
def yX5_carrier : MethodName := ⟨RX5, "carrier", "(I)I"⟩
abbrev cX5_is : ByteArray := prog_1_method_40_code
def yX5_is : MethodName := ⟨RX5, "is", "(II)I"⟩
abbrev cX5_union : ByteArray := prog_1_method_41_code
def yX5_union : MethodName := ⟨RX5, "union", "(I)I"⟩
abbrev cX5_stable : ByteArray := prog_1_method_42_code
def yX5_stable : MethodName := ⟨RX5, "stable", "(III)I"⟩
abbrev cX5_worst : ByteArray := prog_1_method_43_code
def yX5_worst : MethodName := ⟨RX5, "worst", "(III)I"⟩
abbrev cX5_excess : ByteArray := prog_1_method_44_code
def yX5_excess : MethodName := ⟨RX5, "excess", "(IIII)J"⟩
abbrev cX5_spell : ByteArray := prog_1_method_45_code
def yX5_spell : MethodName := ⟨RX5, "spell", "(I)I"⟩
abbrev cX5_paper : ByteArray := prog_1_method_46_code
def yX5_paper : MethodName := ⟨RX5, "paper", "(I)I"⟩
abbrev cX5_told : ByteArray := prog_1_method_47_code
def yX5_told : MethodName := ⟨RX5, "told", "(I)I"⟩
abbrev cX5_worth : ByteArray := prog_1_method_48_code
def yX5_worth : MethodName := ⟨RX5, "worth", "(II)J"⟩
abbrev cX5_row : ByteArray := prog_1_method_49_code
def yX5_row : MethodName := ⟨RX5, "row", "(II)I"⟩
abbrev cX5_set : ByteArray := prog_1_method_50_code
def yX5_set : MethodName := ⟨RX5, "set", "(IIJ)I"⟩
abbrev cX5_get : ByteArray := prog_1_method_51_code
def yX5_get : MethodName := ⟨RX5, "get", "(II)J"⟩
abbrev cX5_lay : ByteArray := prog_1_method_52_code
def yX5_lay : MethodName := ⟨RX5, "lay", "(III)I"⟩
abbrev cX5_image : ByteArray := prog_1_method_53_code
def yX5_image : MethodName := ⟨RX5, "image", "()I"⟩
abbrev cX5_undo : ByteArray := prog_1_method_54_code
def yX5_undo : MethodName := ⟨RX5, "undo", "()I"⟩
abbrev cX5_isGame : ByteArray := prog_1_method_55_code
def yX5_isGame : MethodName := ⟨RX5, "isGame", "(I)Z"⟩
abbrev cX5_isRow : ByteArray := prog_1_method_56_code
def yX5_isRow : MethodName := ⟨RX5, "isRow", "(I)Z"⟩
abbrev cX5_isPart : ByteArray := prog_1_method_57_code
def yX5_isPart : MethodName := ⟨RX5, "isPart", "(I)Z"⟩
abbrev cX5_isToldValue : ByteArray := prog_1_method_58_code
def yX5_isToldValue : MethodName := ⟨RX5, "isToldValue", "(J)Z"⟩
abbrev cX5_has : ByteArray := prog_1_method_59_code
def yX5_has : MethodName := ⟨RX5, "has", "(II)Z"⟩
abbrev cX5_leastOf : ByteArray := prog_1_method_60_code
def yX5_leastOf : MethodName := ⟨RX5, "leastOf", "(I)I"⟩
abbrev cX5_nextWithin : ByteArray := prog_1_method_61_code
def yX5_nextWithin : MethodName := ⟨RX5, "nextWithin", "(II)I"⟩
abbrev cX5_edgePlace : ByteArray := prog_1_method_62_code
def yX5_edgePlace : MethodName := ⟨RX5, "edgePlace", "(II)I"⟩
abbrev cX5_settle : ByteArray := prog_1_method_63_code
def yX5_settle : MethodName := ⟨RX5, "settle", "(I)I"⟩
abbrev cX5_settleUnlessBeyond : ByteArray := prog_1_method_64_code
def yX5_settleUnlessBeyond : MethodName := ⟨RX5, "settleUnlessBeyond", "(I)I"⟩
abbrev cX5_settleMade : ByteArray := prog_1_method_65_code
def yX5_settleMade : MethodName := ⟨RX5, "settleMade", "(I)I"⟩
abbrev cX5_settleParts : ByteArray := prog_1_method_66_code
def yX5_settleParts : MethodName := ⟨RX5, "settleParts", "(II)I"⟩
abbrev cX5_bestSplit : ByteArray := prog_1_method_67_code
def yX5_bestSplit : MethodName := ⟨RX5, "bestSplit", "([JI)J"⟩
abbrev cX5_isMetBefore : ByteArray := prog_1_method_68_code
def yX5_isMetBefore : MethodName := ⟨RX5, "isMetBefore", "([JI)Z"⟩
abbrev cX5_isOrder : ByteArray := prog_1_method_69_code
def yX5_isOrder : MethodName := ⟨RX5, "isOrder", "(II)Z"⟩
abbrev cX5_partnerAt : ByteArray := prog_1_method_70_code
def yX5_partnerAt : MethodName := ⟨RX5, "partnerAt", "(II)I"⟩
abbrev cX5_factorial : ByteArray := prog_1_method_71_code
def yX5_factorial : MethodName := ⟨RX5, "factorial", "(I)I"⟩
abbrev cX5_ordersAround : ByteArray := prog_1_method_72_code
def yX5_ordersAround : MethodName := ⟨RX5, "ordersAround", "(I)I"⟩
abbrev cX5_addedBy : ByteArray := prog_1_method_73_code
def yX5_addedBy : MethodName := ⟨RX5, "addedBy", "([JII)J"⟩
abbrev cX5_shareAbove : ByteArray := prog_1_method_74_code
def yX5_shareAbove : MethodName := ⟨RX5, "shareAbove", "([JI)J"⟩
abbrev cX5_owenAbove : ByteArray := prog_1_method_75_code
def yX5_owenAbove : MethodName := ⟨RX5, "owenAbove", "([JI)J"⟩
abbrev cX5_fillWholes : ByteArray := prog_1_method_76_code
def yX5_fillWholes : MethodName := ⟨RX5, "fillWholes", "(I)Z"⟩
abbrev cX5_lessItsDividends : ByteArray := prog_1_method_77_code
def yX5_lessItsDividends : MethodName := ⟨RX5, "lessItsDividends", "(JI)J"⟩
abbrev cX5_lowest : ByteArray := prog_1_method_78_code
def yX5_lowest : MethodName := ⟨RX5, "lowest", "(JJI)J"⟩
abbrev cX5_commonDivisor : ByteArray := prog_1_method_79_code
def yX5_commonDivisor : MethodName := ⟨RX5, "commonDivisor", "(JJ)J"⟩
abbrev cX5_cutToWhole : ByteArray := prog_1_method_80_code
def yX5_cutToWhole : MethodName := ⟨RX5, "cutToWhole", "(JI)J"⟩
abbrev cX5_swingsBySets : ByteArray := prog_1_method_81_code
def yX5_swingsBySets : MethodName := ⟨RX5, "swingsBySets", "(I)I"⟩
abbrev cX5_swingsBySums : ByteArray := prog_1_method_82_code
def yX5_swingsBySums : MethodName := ⟨RX5, "swingsBySums", "(I)I"⟩
abbrev cX5_countSetsBySum : ByteArray := prog_1_method_83_code
def yX5_countSetsBySum : MethodName := ⟨RX5, "countSetsBySum", "(I)I"⟩
abbrev cX5_countWinning : ByteArray := prog_1_method_84_code
def yX5_countWinning : MethodName := ⟨RX5, "countWinning", "()I"⟩
abbrev cX5_countBarelyWinning : ByteArray := prog_1_method_85_code
def yX5_countBarelyWinning : MethodName := ⟨RX5, "countBarelyWinning", "()I"⟩
abbrev cX5_smallestWinning : ByteArray := prog_1_method_86_code
def yX5_smallestWinning : MethodName := ⟨RX5, "smallestWinning", "()I"⟩
abbrev cX5_isOfKind : ByteArray := prog_1_method_87_code
def yX5_isOfKind : MethodName := ⟨RX5, "isOfKind", "([JII)Z"⟩
abbrev cX5_addsAlways : ByteArray := prog_1_method_88_code
def yX5_addsAlways : MethodName := ⟨RX5, "addsAlways", "([JIJ)Z"⟩
abbrev cX5_hasVeto : ByteArray := prog_1_method_89_code
def yX5_hasVeto : MethodName := ⟨RX5, "hasVeto", "([JI)Z"⟩
abbrev cX5_areAlike : ByteArray := prog_1_method_90_code
def yX5_areAlike : MethodName := ⟨RX5, "areAlike", "([JII)Z"⟩
abbrev cX5_isMonotone : ByteArray := prog_1_method_91_code
def yX5_isMonotone : MethodName := ⟨RX5, "isMonotone", "([J)Z"⟩
abbrev cX5_gainsTogether : ByteArray := prog_1_method_92_code
def yX5_gainsTogether : MethodName := ⟨RX5, "gainsTogether", "([JZ)I"⟩
abbrev cX5_toldSum : ByteArray := prog_1_method_93_code
def yX5_toldSum : MethodName := ⟨RX5, "toldSum", "(III)J"⟩
def RX6 : String := "PartnerWorthModel"
def TX6 : u_T := fun k => match k with
  | 0 => ("PartnerWorthModel", "g", "[J", true)
  | 1 => ("PartnerWorthModel", "kept", "[J", true)
  | 2 => ("PartnerWorthModel", "next", "[J", true)
  | 3 => ("PartnerWorthModel", "factorial", "[J", true)
  | 4 => ("PartnerWorthModel", "isKept", "Z", false)
  | 5 => ("PartnerWorthModel", "isBeyond", "Z", false)
  | 6 => ("PartnerWorthModel", "tape", "[I", true)
  | 7 => ("PartnerWorthModel", "readSet", "[I", true)
  | 8 => ("PartnerWorthModel", "readValue", "[J", true)
  | 9 => ("PartnerWorthModel", "fed", "I", false)
  | 10 => ("PartnerWorthModel", "at", "I", false)
  | 11 => ("PartnerWorthModel", "letters", "I", false)
  | 12 => ("PartnerWorthModel", "above", "J", false)
  | 13 => ("PartnerWorthModel", "paper", "Ljava/lang/String;", false)
  | 14 => ("PartnerWorthModel", "count", "[I", true)
  | _ => ("PartnerWorthModel", "item", "[J", true)
def tyX6 : Nat → FieldType := fun k => match k with
  | 0 => .array .long
  | 1 => .array .long
  | 2 => .array .long
  | 3 => .array .long
  | 4 => .boolean
  | 5 => .boolean
  | 6 => .array .int
  | 7 => .array .int
  | 8 => .array .long
  | 9 => .int
  | 10 => .int
  | 11 => .int
  | 12 => .long
  | 13 => .object "java/lang/String"
  | 14 => .array .int
  | _ => .array .long
abbrev wsX60 : List Cond := u_ws RX6 TX6 16
theorem nmX6 : ∀ a, a < 16 → ∀ b, b < 16 → a ≠ b → (TX6 a).2.1 ≠ (TX6 b).2.1 := by decide +kernel
theorem tyX6_ok : ∀ k, k < 16 → parseFieldDescriptor (TX6 k).2.2.1 = some (tyX6 k) := by decide +kernel
abbrev cX6_init : ByteArray := prog_8_method_1_code
def yX6_init : MethodName := ⟨RX6, "<init>", "()V"⟩
abbrev cX6_begins : ByteArray := prog_8_method_2_code
def yX6_begins : MethodName := ⟨RX6, "begins", "(I)V"⟩
abbrev cX6_plus : ByteArray := prog_8_method_3_code
def yX6_plus : MethodName := ⟨RX6, "plus", "(JJ)J"⟩
abbrev cX6_minus : ByteArray := prog_8_method_4_code
def yX6_minus : MethodName := ⟨RX6, "minus", "(JJ)J"⟩
abbrev cX6_product : ByteArray := prog_8_method_5_code
def yX6_product : MethodName := ⟨RX6, "product", "(JJ)J"⟩
abbrev cX6_divisor : ByteArray := prog_8_method_6_code
def yX6_divisor : MethodName := ⟨RX6, "divisor", "(JJ)J"⟩
abbrev cX6_part : ByteArray := prog_8_method_7_code
def yX6_part : MethodName := ⟨RX6, "part", "(JJI)J"⟩
abbrev cX6_isIn : ByteArray := prog_8_method_8_code
def yX6_isIn : MethodName := ⟨RX6, "isIn", "(JJJ)Z"⟩
abbrev cX6_n : ByteArray := prog_8_method_9_code
def yX6_n : MethodName := ⟨RX6, "n", "()I"⟩
abbrev cX6_all : ByteArray := prog_8_method_10_code
def yX6_all : MethodName := ⟨RX6, "all", "()I"⟩
abbrev cX6_isPartner : ByteArray := prog_8_method_11_code
def yX6_isPartner : MethodName := ⟨RX6, "isPartner", "(I)Z"⟩
abbrev cX6_isTwo : ByteArray := prog_8_method_12_code
def yX6_isTwo : MethodName := ⟨RX6, "isTwo", "(II)Z"⟩
abbrev cX6_isGame : ByteArray := prog_8_method_13_code
def yX6_isGame : MethodName := ⟨RX6, "isGame", "(I)Z"⟩
abbrev cX6_isSet : ByteArray := prog_8_method_14_code
def yX6_isSet : MethodName := ⟨RX6, "isSet", "(I)Z"⟩
abbrev cX6_has : ByteArray := prog_8_method_15_code
def yX6_has : MethodName := ⟨RX6, "has", "(II)Z"⟩
abbrev cX6_size : ByteArray := prog_8_method_16_code
def yX6_size : MethodName := ⟨RX6, "size", "(I)I"⟩
abbrev cX6_v : ByteArray := prog_8_method_17_code
def yX6_v : MethodName := ⟨RX6, "v", "(II)J"⟩
abbrev cX6_partners : ByteArray := prog_8_method_18_code
def yX6_partners : MethodName := ⟨RX6, "partners", "(I)I"⟩
abbrev cX6_value : ByteArray := prog_8_method_19_code
def yX6_value : MethodName := ⟨RX6, "value", "(IIJ)I"⟩
abbrev cX6_valueOf : ByteArray := prog_8_method_20_code
def yX6_valueOf : MethodName := ⟨RX6, "valueOf", "(II)J"⟩
abbrev cX6_becomes : ByteArray := prog_8_method_21_code
def yX6_becomes : MethodName := ⟨RX6, "becomes", "(IJ)I"⟩
abbrev cX6_weight : ByteArray := prog_8_method_22_code
def yX6_weight : MethodName := ⟨RX6, "weight", "(II)I"⟩
abbrev cX6_quota : ByteArray := prog_8_method_23_code
def yX6_quota : MethodName := ⟨RX6, "quota", "(II)I"⟩
abbrev cX6_edgeOf : ByteArray := prog_8_method_24_code
def yX6_edgeOf : MethodName := ⟨RX6, "edgeOf", "(II)I"⟩
abbrev cX6_edge : ByteArray := prog_8_method_25_code
def yX6_edge : MethodName := ⟨RX6, "edge", "(III)I"⟩
abbrev cX6_cut : ByteArray := prog_8_method_26_code
def yX6_cut : MethodName := ⟨RX6, "cut", "(II)I"⟩
abbrev cX6_worth : ByteArray := prog_8_method_27_code
def yX6_worth : MethodName := ⟨RX6, "worth", "(II)J"⟩
abbrev cX6_unionOf : ByteArray := prog_8_method_28_code
def yX6_unionOf : MethodName := ⟨RX6, "unionOf", "(I)I"⟩
abbrev cX6_names : ByteArray := prog_8_method_29_code
def yX6_names : MethodName := ⟨RX6, "names", "(I)V"⟩
abbrev cX6_unite : ByteArray := prog_8_method_30_code
def yX6_unite : MethodName := ⟨RX6, "unite", "(II)I"⟩
abbrev cX6_union : ByteArray := prog_8_method_31_code
def yX6_union : MethodName := ⟨RX6, "union", "(I)I"⟩
abbrev cX6_feed : ByteArray := prog_8_method_32_code
def yX6_feed : MethodName := ⟨RX6, "feed", "(I)I"⟩
abbrev cX6_clear : ByteArray := prog_8_method_33_code
def yX6_clear : MethodName := ⟨RX6, "clear", "()I"⟩
abbrev cX6_here : ByteArray := prog_8_method_34_code
def yX6_here : MethodName := ⟨RX6, "here", "()I"⟩
abbrev cX6_isFigure : ByteArray := prog_8_method_35_code
def yX6_isFigure : MethodName := ⟨RX6, "isFigure", "()Z"⟩
abbrev cX6_readsSet : ByteArray := prog_8_method_36_code
def yX6_readsSet : MethodName := ⟨RX6, "readsSet", "()I"⟩
abbrev cX6_readsPart : ByteArray := prog_8_method_37_code
def yX6_readsPart : MethodName := ⟨RX6, "readsPart", "(I)Z"⟩
abbrev cX6_read : ByteArray := prog_8_method_38_code
def yX6_read : MethodName := ⟨RX6, "read", "(I)I"⟩
abbrev cX6_weighs : ByteArray := prog_8_method_39_code
def yX6_weighs : MethodName := ⟨RX6, "weighs", "(I)J"⟩
abbrev cX6_wins : ByteArray := prog_8_method_40_code
def yX6_wins : MethodName := ⟨RX6, "wins", "(I)Z"⟩
abbrev cX6_edgesIn : ByteArray := prog_8_method_41_code
def yX6_edgesIn : MethodName := ⟨RX6, "edgesIn", "(I)J"⟩
abbrev cX6_heaviest : ByteArray := prog_8_method_42_code
def yX6_heaviest : MethodName := ⟨RX6, "heaviest", "(I)J"⟩
abbrev cX6_madeOf : ByteArray := prog_8_method_43_code
def yX6_madeOf : MethodName := ⟨RX6, "madeOf", "(II)J"⟩
abbrev cX6_takes : ByteArray := prog_8_method_44_code
def yX6_takes : MethodName := ⟨RX6, "takes", "(I)I"⟩
abbrev cX6_others : ByteArray := prog_8_method_45_code
def yX6_others : MethodName := ⟨RX6, "others", "(I)I"⟩
abbrev cX6_make : ByteArray := prog_8_method_46_code
def yX6_make : MethodName := ⟨RX6, "make", "(II)I"⟩
abbrev cX6_pairs : ByteArray := prog_8_method_47_code
def yX6_pairs : MethodName := ⟨RX6, "pairs", "(III)I"⟩
abbrev cX6_done : ByteArray := prog_8_method_48_code
def yX6_done : MethodName := ⟨RX6, "done", "(I)I"⟩
abbrev cX6_copy : ByteArray := prog_8_method_49_code
def yX6_copy : MethodName := ⟨RX6, "copy", "(II)I"⟩
abbrev cX6_add : ByteArray := prog_8_method_50_code
def yX6_add : MethodName := ⟨RX6, "add", "(II)I"⟩
abbrev cX6_times : ByteArray := prog_8_method_51_code
def yX6_times : MethodName := ⟨RX6, "times", "(II)I"⟩
abbrev cX6_dual : ByteArray := prog_8_method_52_code
def yX6_dual : MethodName := ⟨RX6, "dual", "(I)I"⟩
abbrev cX6_covered : ByteArray := prog_8_method_53_code
def yX6_covered : MethodName := ⟨RX6, "covered", "(II)J"⟩
abbrev cX6_cover : ByteArray := prog_8_method_54_code
def yX6_cover : MethodName := ⟨RX6, "cover", "(I)I"⟩
abbrev cX6_mask : ByteArray := prog_8_method_55_code
def yX6_mask : MethodName := ⟨RX6, "mask", "(II)I"⟩
abbrev cX6_unanimous : ByteArray := prog_8_method_56_code
def yX6_unanimous : MethodName := ⟨RX6, "unanimous", "(IIJ)I"⟩
abbrev cX6_without : ByteArray := prog_8_method_57_code
def yX6_without : MethodName := ⟨RX6, "without", "(II)I"⟩
abbrev cX6_join : ByteArray := prog_8_method_58_code
def yX6_join : MethodName := ⟨RX6, "join", "(III)I"⟩
abbrev cX6_swap : ByteArray := prog_8_method_59_code
def yX6_swap : MethodName := ⟨RX6, "swap", "(III)I"⟩
abbrev cX6_differ : ByteArray := prog_8_method_60_code
def yX6_differ : MethodName := ⟨RX6, "differ", "(II)I"⟩
abbrev cX6_unlike : ByteArray := prog_8_method_61_code
def yX6_unlike : MethodName := ⟨RX6, "unlike", "(I)I"⟩
abbrev cX6_isRow : ByteArray := prog_8_method_62_code
def yX6_isRow : MethodName := ⟨RX6, "isRow", "(I)Z"⟩
abbrev cX6_isThere : ByteArray := prog_8_method_63_code
def yX6_isThere : MethodName := ⟨RX6, "isThere", "(II)Z"⟩
abbrev cX6_isOrder : ByteArray := prog_8_method_64_code
def yX6_isOrder : MethodName := ⟨RX6, "isOrder", "(II)Z"⟩
abbrev cX6_ahead : ByteArray := prog_8_method_65_code
def yX6_ahead : MethodName := ⟨RX6, "ahead", "(III)I"⟩
abbrev cX6_adds : ByteArray := prog_8_method_66_code
def yX6_adds : MethodName := ⟨RX6, "adds", "(IIII)J"⟩
abbrev cX6_pivot : ByteArray := prog_8_method_67_code
def yX6_pivot : MethodName := ⟨RX6, "pivot", "(II)I"⟩
abbrev cX6_gain : ByteArray := prog_8_method_68_code
def yX6_gain : MethodName := ⟨RX6, "gain", "(III)J"⟩
abbrev cX6_shares : ByteArray := prog_8_method_69_code
def yX6_shares : MethodName := ⟨RX6, "shares", "(II)V"⟩
abbrev cX6_share : ByteArray := prog_8_method_70_code
def yX6_share : MethodName := ⟨RX6, "share", "(III)J"⟩
abbrev cX6_power : ByteArray := prog_8_method_71_code
def yX6_power : MethodName := ⟨RX6, "power", "(II)J"⟩
abbrev cX6_members : ByteArray := prog_8_method_72_code
def yX6_members : MethodName := ⟨RX6, "members", "(I)I"⟩
abbrev cX6_unions : ByteArray := prog_8_method_73_code
def yX6_unions : MethodName := ⟨RX6, "unions", "()I"⟩
abbrev cX6_whole : ByteArray := prog_8_method_74_code
def yX6_whole : MethodName := ⟨RX6, "whole", "(II)I"⟩
abbrev cX6_owenOf : ByteArray := prog_8_method_75_code
def yX6_owenOf : MethodName := ⟨RX6, "owenOf", "(II)J"⟩
abbrev cX6_owen : ByteArray := prog_8_method_76_code
def yX6_owen : MethodName := ⟨RX6, "owen", "(III)J"⟩
abbrev cX6_dividendOf : ByteArray := prog_8_method_77_code
def yX6_dividendOf : MethodName := ⟨RX6, "dividendOf", "(II)J"⟩
abbrev cX6_dividend : ByteArray := prog_8_method_78_code
def yX6_dividend : MethodName := ⟨RX6, "dividend", "(II)J"⟩
abbrev cX6_isSwing : ByteArray := prog_8_method_79_code
def yX6_isSwing : MethodName := ⟨RX6, "isSwing", "(II)Z"⟩
abbrev cX6_swings : ByteArray := prog_8_method_80_code
def yX6_swings : MethodName := ⟨RX6, "swings", "(II)I"⟩
abbrev cX6_pivots : ByteArray := prog_8_method_81_code
def yX6_pivots : MethodName := ⟨RX6, "pivots", "(II)J"⟩
abbrev cX6_isLeast : ByteArray := prog_8_method_82_code
def yX6_isLeast : MethodName := ⟨RX6, "isLeast", "(I)Z"⟩
abbrev cX6_holder : ByteArray := prog_8_method_83_code
def yX6_holder : MethodName := ⟨RX6, "holder", "(II)J"⟩
abbrev cX6_votes : ByteArray := prog_8_method_84_code
def yX6_votes : MethodName := ⟨RX6, "votes", "(I)I"⟩
abbrev cX6_isOfKind : ByteArray := prog_8_method_85_code
def yX6_isOfKind : MethodName := ⟨RX6, "isOfKind", "(IIII)Z"⟩
abbrev cX6_isKind : ByteArray := prog_8_method_86_code
def yX6_isKind : MethodName := ⟨RX6, "isKind", "(III)Z"⟩
abbrev cX6_kind : ByteArray := prog_8_method_87_code
def yX6_kind : MethodName := ⟨RX6, "kind", "(II)I"⟩
abbrev cX6_isAlike : ByteArray := prog_8_method_88_code
def yX6_isAlike : MethodName := ⟨RX6, "isAlike", "(III)Z"⟩
abbrev cX6_alike : ByteArray := prog_8_method_89_code
def yX6_alike : MethodName := ⟨RX6, "alike", "(II)I"⟩
abbrev cX6_carrier : ByteArray := prog_8_method_90_code
def yX6_carrier : MethodName := ⟨RX6, "carrier", "(I)I"⟩
abbrev cX6_agree : ByteArray := prog_8_method_91_code
def yX6_agree : MethodName := ⟨RX6, "agree", "(IIII)Z"⟩
abbrev cX6_is : ByteArray := prog_8_method_92_code
def yX6_is : MethodName := ⟨RX6, "is", "(II)I"⟩
abbrev cX6_summed : ByteArray := prog_8_method_93_code
def yX6_summed : MethodName := ⟨RX6, "summed", "(III)J"⟩
abbrev cX6_stable : ByteArray := prog_8_method_94_code
def yX6_stable : MethodName := ⟨RX6, "stable", "(III)I"⟩
abbrev cX6_worst : ByteArray := prog_8_method_95_code
def yX6_worst : MethodName := ⟨RX6, "worst", "(III)I"⟩
abbrev cX6_excess : ByteArray := prog_8_method_96_code
def yX6_excess : MethodName := ⟨RX6, "excess", "(IIII)J"⟩
abbrev cX6_spell : ByteArray := prog_8_method_97_code
def yX6_spell : MethodName := ⟨RX6, "spell", "(I)I"⟩
abbrev cX6_paper : ByteArray := prog_8_method_98_code
def yX6_paper : MethodName := ⟨RX6, "paper", "(I)I"⟩
abbrev cX6_edges : ByteArray := prog_8_method_99_code
def yX6_edges : MethodName := ⟨RX6, "edges", "()I"⟩
abbrev cX6_told : ByteArray := prog_8_method_100_code
def yX6_told : MethodName := ⟨RX6, "told", "(I)I"⟩
abbrev cX6_fresh : ByteArray := prog_8_method_101_code
def yX6_fresh : MethodName := ⟨RX6, "fresh", "()[I"⟩
abbrev cX6_row : ByteArray := prog_8_method_102_code
def yX6_row : MethodName := ⟨RX6, "row", "(II)I"⟩
abbrev cX6_set : ByteArray := prog_8_method_103_code
def yX6_set : MethodName := ⟨RX6, "set", "(IIJ)I"⟩
abbrev cX6_get : ByteArray := prog_8_method_104_code
def yX6_get : MethodName := ⟨RX6, "get", "(II)J"⟩
abbrev cX6_lay : ByteArray := prog_8_method_105_code
def yX6_lay : MethodName := ⟨RX6, "lay", "(III)I"⟩
abbrev cX6_image : ByteArray := prog_8_method_106_code
def yX6_image : MethodName := ⟨RX6, "image", "()I"⟩
abbrev cX6_undo : ByteArray := prog_8_method_107_code
def yX6_undo : MethodName := ⟨RX6, "undo", "()I"⟩
def RJx145de : String := "java/io/Serializable"
def TJx145de : u_T := fun k => match k with
  | _ => ("", "", "", false)
def tyJx145de : Nat → FieldType := fun k => match k with
  | _ => .int
abbrev wsJx145de0 : List Cond := u_ws RJx145de TJx145de 0
theorem nmJx145de : ∀ a, a < 0 → ∀ b, b < 0 → a ≠ b → (TJx145de a).2.1 ≠ (TJx145de b).2.1 := by decide +kernel
theorem tyJx145de_ok : ∀ k, k < 0 → parseFieldDescriptor (TJx145de k).2.2.1 = some (tyJx145de k) := by decide +kernel
def RJ5 : String := "java/lang/AbstractStringBuilder"
def TJ5 : u_T := fun k => match k with
  | _ => ("", "", "", false)
def tyJ5 : Nat → FieldType := fun k => match k with
  | _ => .int
abbrev wsJ50 : List Cond := u_ws RJ5 TJ5 0
theorem nmJ5 : ∀ a, a < 0 → ∀ b, b < 0 → a ≠ b → (TJ5 a).2.1 ≠ (TJ5 b).2.1 := by decide +kernel
theorem tyJ5_ok : ∀ k, k < 0 → parseFieldDescriptor (TJ5 k).2.2.1 = some (tyJ5 k) := by decide +kernel
abbrev cJ5_init_d00df : ByteArray := prog_9_method_2_code
def yJ5_init_d00df : MethodName := ⟨RJ5, "<init>", "(I)V"⟩
abbrev cJ5_length_8abf5 : ByteArray := prog_9_method_6_code
def yJ5_length_8abf5 : MethodName := ⟨RJ5, "length", "()I"⟩
abbrev cJ5_ensureCapacityInternal_d00df : ByteArray := prog_9_method_9_code
def yJ5_ensureCapacityInternal_d00df : MethodName := ⟨RJ5, "ensureCapacityInternal", "(I)V"⟩
abbrev cJ5_newCapacity_0f7a4 : ByteArray := prog_9_method_10_code
def yJ5_newCapacity_0f7a4 : MethodName := ⟨RJ5, "newCapacity", "(I)I"⟩
abbrev cJ5_inflate_da8c8 : ByteArray := prog_9_method_11_code
def yJ5_inflate_da8c8 : MethodName := ⟨RJ5, "inflate", "()V"⟩
abbrev cJ5_append_cf1ce : ByteArray := prog_9_method_22_code
def yJ5_append_cf1ce : MethodName := ⟨RJ5, "append", "(Ljava/lang/String;)Ljava/lang/AbstractStringBuilder;"⟩
abbrev cJ5_appendNull_278bc : ByteArray := prog_9_method_26_code
def yJ5_appendNull_278bc : MethodName := ⟨RJ5, "appendNull", "()Ljava/lang/AbstractStringBuilder;"⟩
abbrev cJ5_append_66267 : ByteArray := prog_9_method_33_code
def yJ5_append_66267 : MethodName := ⟨RJ5, "append", "(J)Ljava/lang/AbstractStringBuilder;"⟩
abbrev cJ5_getValue_6d5f1 : ByteArray := prog_9_method_64_code
def yJ5_getValue_6d5f1 : MethodName := ⟨RJ5, "getValue", "()[B"⟩
abbrev cJ5_isLatin1_aae02 : ByteArray := prog_9_method_68_code
def yJ5_isLatin1_aae02 : MethodName := ⟨RJ5, "isLatin1", "()Z"⟩
abbrev cJ5_inflateIfNeededFor_a7421 : ByteArray := prog_9_method_71_code
def yJ5_inflateIfNeededFor_a7421 : MethodName := ⟨RJ5, "inflateIfNeededFor", "(Ljava/lang/String;)V"⟩
abbrev cJ5_putStringAt_47b60 : ByteArray := prog_9_method_73_code
def yJ5_putStringAt_47b60 : MethodName := ⟨RJ5, "putStringAt", "(ILjava/lang/String;)V"⟩
def RJx2cfe8 : String := "java/lang/Appendable"
def TJx2cfe8 : u_T := fun k => match k with
  | _ => ("", "", "", false)
def tyJx2cfe8 : Nat → FieldType := fun k => match k with
  | _ => .int
abbrev wsJx2cfe80 : List Cond := u_ws RJx2cfe8 TJx2cfe8 0
theorem nmJx2cfe8 : ∀ a, a < 0 → ∀ b, b < 0 → a ≠ b → (TJx2cfe8 a).2.1 ≠ (TJx2cfe8 b).2.1 := by decide +kernel
theorem tyJx2cfe8_ok : ∀ k, k < 0 → parseFieldDescriptor (TJx2cfe8 k).2.2.1 = some (tyJx2cfe8 k) := by decide +kernel
def RJx9f9b0 : String := "java/lang/CharSequence"
def TJx9f9b0 : u_T := fun k => match k with
  | _ => ("", "", "", false)
def tyJx9f9b0 : Nat → FieldType := fun k => match k with
  | _ => .int
abbrev wsJx9f9b00 : List Cond := u_ws RJx9f9b0 TJx9f9b0 0
theorem nmJx9f9b0 : ∀ a, a < 0 → ∀ b, b < 0 → a ≠ b → (TJx9f9b0 a).2.1 ≠ (TJx9f9b0 b).2.1 := by decide +kernel
theorem tyJx9f9b0_ok : ∀ k, k < 0 → parseFieldDescriptor (TJx9f9b0 k).2.2.1 = some (tyJx9f9b0 k) := by decide +kernel
def RJx8e188 : String := "java/lang/Cloneable"
def TJx8e188 : u_T := fun k => match k with
  | _ => ("", "", "", false)
def tyJx8e188 : Nat → FieldType := fun k => match k with
  | _ => .int
abbrev wsJx8e1880 : List Cond := u_ws RJx8e188 TJx8e188 0
theorem nmJx8e188 : ∀ a, a < 0 → ∀ b, b < 0 → a ≠ b → (TJx8e188 a).2.1 ≠ (TJx8e188 b).2.1 := by decide +kernel
theorem tyJx8e188_ok : ∀ k, k < 0 → parseFieldDescriptor (TJx8e188 k).2.2.1 = some (tyJx8e188 k) := by decide +kernel
def RJxb160c : String := "java/lang/Comparable"
def TJxb160c : u_T := fun k => match k with
  | _ => ("", "", "", false)
def tyJxb160c : Nat → FieldType := fun k => match k with
  | _ => .int
abbrev wsJxb160c0 : List Cond := u_ws RJxb160c TJxb160c 0
theorem nmJxb160c : ∀ a, a < 0 → ∀ b, b < 0 → a ≠ b → (TJxb160c a).2.1 ≠ (TJxb160c b).2.1 := by decide +kernel
theorem tyJxb160c_ok : ∀ k, k < 0 → parseFieldDescriptor (TJxb160c k).2.2.1 = some (tyJxb160c k) := by decide +kernel
def RJ6 : String := "java/lang/Integer"
def TJ6 : u_T := fun k => match k with
  | _ => ("", "", "", false)
def tyJ6 : Nat → FieldType := fun k => match k with
  | _ => .int
abbrev wsJ60 : List Cond := u_ws RJ6 TJ6 0
theorem nmJ6 : ∀ a, a < 0 → ∀ b, b < 0 → a ≠ b → (TJ6 a).2.1 ≠ (TJ6 b).2.1 := by decide +kernel
theorem tyJ6_ok : ∀ k, k < 0 → parseFieldDescriptor (TJ6 k).2.2.1 = some (tyJ6 k) := by decide +kernel
abbrev cJ6_bitCount_0f7a4 : ByteArray := prog_11_method_49_code
def yJ6_bitCount_0f7a4 : MethodName := ⟨RJ6, "bitCount", "(I)I"⟩
def RJ13 : String := "java/lang/Long"
def TJ13 : u_T := fun k => match k with
  | _ => ("", "", "", false)
def tyJ13 : Nat → FieldType := fun k => match k with
  | _ => .int
abbrev wsJ130 : List Cond := u_ws RJ13 TJ13 0
theorem nmJ13 : ∀ a, a < 0 → ∀ b, b < 0 → a ≠ b → (TJ13 a).2.1 ≠ (TJ13 b).2.1 := by decide +kernel
theorem tyJ13_ok : ∀ k, k < 0 → parseFieldDescriptor (TJ13 k).2.2.1 = some (tyJ13 k) := by decide +kernel
abbrev cJ13_getChars_11360 : ByteArray := prog_12_method_14_code
def yJ13_getChars_11360 : MethodName := ⟨RJ13, "getChars", "(JI[B)I"⟩
abbrev cJ13_stringSize_95d88 : ByteArray := prog_12_method_15_code
def yJ13_stringSize_95d88 : MethodName := ⟨RJ13, "stringSize", "(J)I"⟩
def RJ9 : String := "java/lang/Math"
def TJ9 : u_T := fun k => match k with
  | _ => ("", "", "", false)
def tyJ9 : Nat → FieldType := fun k => match k with
  | _ => .int
abbrev wsJ90 : List Cond := u_ws RJ9 TJ9 0
theorem nmJ9 : ∀ a, a < 0 → ∀ b, b < 0 → a ≠ b → (TJ9 a).2.1 ≠ (TJ9 b).2.1 := by decide +kernel
theorem tyJ9_ok : ∀ k, k < 0 → parseFieldDescriptor (TJ9 k).2.2.1 = some (tyJ9 k) := by decide +kernel
abbrev cJ9_abs_067f4 : ByteArray := prog_13_method_61_code
def yJ9_abs_067f4 : MethodName := ⟨RJ9, "abs", "(J)J"⟩
abbrev cJ9_max_7cf53 : ByteArray := prog_13_method_65_code
def yJ9_max_7cf53 : MethodName := ⟨RJ9, "max", "(II)I"⟩
abbrev cJ9_max_f86c9 : ByteArray := prog_13_method_66_code
def yJ9_max_f86c9 : MethodName := ⟨RJ9, "max", "(JJ)J"⟩
abbrev cJ9_min_7cf53 : ByteArray := prog_13_method_69_code
def yJ9_min_7cf53 : MethodName := ⟨RJ9, "min", "(II)I"⟩
def RJxd2413 : String := "java/lang/Number"
def TJxd2413 : u_T := fun k => match k with
  | _ => ("", "", "", false)
def tyJxd2413 : Nat → FieldType := fun k => match k with
  | _ => .int
abbrev wsJxd24130 : List Cond := u_ws RJxd2413 TJxd2413 0
theorem nmJxd2413 : ∀ a, a < 0 → ∀ b, b < 0 → a ≠ b → (TJxd2413 a).2.1 ≠ (TJxd2413 b).2.1 := by decide +kernel
theorem tyJxd2413_ok : ∀ k, k < 0 → parseFieldDescriptor (TJxd2413 k).2.2.1 = some (tyJxd2413 k) := by decide +kernel
def RJ0 : String := "java/lang/String"
def TJ0 : u_T := fun k => match k with
  | 0 => ("java/lang/String", "value", "[B", true)
  | 1 => ("java/lang/String", "coder", "B", true)
  | 2 => ("java/lang/String", "hash", "I", false)
  | _ => ("java/lang/String", "hashIsZero", "Z", false)
def tyJ0 : Nat → FieldType := fun k => match k with
  | 0 => .array .byte
  | 1 => .byte
  | 2 => .int
  | _ => .boolean
abbrev wsJ00 : List Cond := u_ws RJ0 TJ0 4
theorem nmJ0 : ∀ a, a < 4 → ∀ b, b < 4 → a ≠ b → (TJ0 a).2.1 ≠ (TJ0 b).2.1 := by decide +kernel
theorem tyJ0_ok : ∀ k, k < 4 → parseFieldDescriptor (TJ0 k).2.2.1 = some (tyJ0 k) := by decide +kernel
abbrev cJ0_init_81219 : ByteArray := prog_15_method_53_code
def yJ0_init_81219 : MethodName := ⟨RJ0, "<init>", "(Ljava/lang/StringBuilder;)V"⟩
abbrev cJ0_length_8abf5 : ByteArray := prog_15_method_54_code
def yJ0_length_8abf5 : MethodName := ⟨RJ0, "length", "()I"⟩
abbrev cJ0_charAt_5068e : ByteArray := prog_15_method_56_code
def yJ0_charAt_5068e : MethodName := ⟨RJ0, "charAt", "(I)C"⟩
abbrev cJ0_getBytes_840e7 : ByteArray := prog_15_method_147_code
def yJ0_getBytes_840e7 : MethodName := ⟨RJ0, "getBytes", "([BIB)V"⟩
abbrev cJ0_init_db425 : ByteArray := prog_15_method_150_code
def yJ0_init_db425 : MethodName := ⟨RJ0, "<init>", "(Ljava/lang/AbstractStringBuilder;Ljava/lang/Void;)V"⟩
abbrev cJ0_coder_7d493 : ByteArray := prog_15_method_152_code
def yJ0_coder_7d493 : MethodName := ⟨RJ0, "coder", "()B"⟩
abbrev cJ0_isLatin1_aae02 : ByteArray := prog_15_method_154_code
def yJ0_isLatin1_aae02 : MethodName := ⟨RJ0, "isLatin1", "()Z"⟩
abbrev cJ0_checkIndex_df160 : ByteArray := prog_15_method_155_code
def yJ0_checkIndex_df160 : MethodName := ⟨RJ0, "checkIndex", "(II)V"⟩
abbrev cJ0_checkBoundsOffCount_cabcc : ByteArray := prog_15_method_157_code
def yJ0_checkBoundsOffCount_cabcc : MethodName := ⟨RJ0, "checkBoundsOffCount", "(III)I"⟩
abbrev cJ0_checkBoundsBeginEnd_23922 : ByteArray := prog_15_method_158_code
def yJ0_checkBoundsBeginEnd_23922 : MethodName := ⟨RJ0, "checkBoundsBeginEnd", "(III)V"⟩
def RJ4 : String := "java/lang/StringBuilder"
def TJ4 : u_T := fun k => match k with
  | 0 => ("java/lang/AbstractStringBuilder", "value", "[B", false)
  | 1 => ("java/lang/AbstractStringBuilder", "coder", "B", false)
  | 2 => ("java/lang/AbstractStringBuilder", "maybeLatin1", "Z", false)
  | _ => ("java/lang/AbstractStringBuilder", "count", "I", false)
def tyJ4 : Nat → FieldType := fun k => match k with
  | 0 => .array .byte
  | 1 => .byte
  | 2 => .boolean
  | _ => .int
abbrev wsJ40 : List Cond := u_ws RJ4 TJ4 4
theorem nmJ4 : ∀ a, a < 4 → ∀ b, b < 4 → a ≠ b → (TJ4 a).2.1 ≠ (TJ4 b).2.1 := by decide +kernel
theorem tyJ4_ok : ∀ k, k < 4 → parseFieldDescriptor (TJ4 k).2.2.1 = some (tyJ4 k) := by decide +kernel
abbrev cJ4_init_da8c8 : ByteArray := prog_16_method_1_code
def yJ4_init_da8c8 : MethodName := ⟨RJ4, "<init>", "()V"⟩
abbrev cJ4_append_15ec4 : ByteArray := prog_16_method_7_code
def yJ4_append_15ec4 : MethodName := ⟨RJ4, "append", "(Ljava/lang/String;)Ljava/lang/StringBuilder;"⟩
abbrev cJ4_append_f7089 : ByteArray := prog_16_method_16_code
def yJ4_append_f7089 : MethodName := ⟨RJ4, "append", "(J)Ljava/lang/StringBuilder;"⟩
abbrev cJ4_toString_0e30d : ByteArray := prog_16_method_42_code
def yJ4_toString_0e30d : MethodName := ⟨RJ4, "toString", "()Ljava/lang/String;"⟩
abbrev cJ4_length_8abf5 : ByteArray := prog_16_method_93_code
def yJ4_length_8abf5 : MethodName := ⟨RJ4, "length", "()I"⟩
def RJ1 : String := "java/lang/StringLatin1"
def TJ1 : u_T := fun k => match k with
  | _ => ("", "", "", false)
def tyJ1 : Nat → FieldType := fun k => match k with
  | _ => .int
abbrev wsJ10 : List Cond := u_ws RJ1 TJ1 0
theorem nmJ1 : ∀ a, a < 0 → ∀ b, b < 0 → a ≠ b → (TJ1 a).2.1 ≠ (TJ1 b).2.1 := by decide +kernel
theorem tyJ1_ok : ∀ k, k < 0 → parseFieldDescriptor (TJ1 k).2.2.1 = some (tyJ1 k) := by decide +kernel
abbrev cJ1_charAt_3b067 : ByteArray := prog_17_method_2_code
def yJ1_charAt_3b067 : MethodName := ⟨RJ1, "charAt", "([BI)C"⟩
abbrev cJ1_inflate_0e8fd : ByteArray := prog_17_method_50_code
def yJ1_inflate_0e8fd : MethodName := ⟨RJ1, "inflate", "([BI[BII)V"⟩
def RJ2 : String := "java/lang/StringUTF16"
def TJ2 : u_T := fun k => match k with
  | _ => ("", "", "", false)
def tyJ2 : Nat → FieldType := fun k => match k with
  | _ => .int
abbrev wsJ20 : List Cond := u_ws RJ2 TJ2 0
theorem nmJ2 : ∀ a, a < 0 → ∀ b, b < 0 → a ≠ b → (TJ2 a).2.1 ≠ (TJ2 b).2.1 := by decide +kernel
theorem tyJ2_ok : ∀ k, k < 0 → parseFieldDescriptor (TJ2 k).2.2.1 = some (tyJ2 k) := by decide +kernel
abbrev cJ2_newBytesFor_77867 : ByteArray := prog_18_method_2_code
def yJ2_newBytesFor_77867 : MethodName := ⟨RJ2, "newBytesFor", "(I)[B"⟩
abbrev cJ2_newBytesLength_0f7a4 : ByteArray := prog_18_method_3_code
def yJ2_newBytesLength_0f7a4 : MethodName := ⟨RJ2, "newBytesLength", "(I)I"⟩
abbrev cJ2_putChar_b72d1 : ByteArray := prog_18_method_4_code
def yJ2_putChar_b72d1 : MethodName := ⟨RJ2, "putChar", "([BII)V"⟩
abbrev cJ2_getChar_3b067 : ByteArray := prog_18_method_5_code
def yJ2_getChar_3b067 : MethodName := ⟨RJ2, "getChar", "([BI)C"⟩
abbrev cJ2_length_9d52b : ByteArray := prog_18_method_6_code
def yJ2_length_9d52b : MethodName := ⟨RJ2, "length", "([B)I"⟩
abbrev cJ2_coderFromArrayLen_85cad : ByteArray := prog_18_method_15_code
def yJ2_coderFromArrayLen_85cad : MethodName := ⟨RJ2, "coderFromArrayLen", "([BI)B"⟩
abbrev cJ2_compress_39247 : ByteArray := prog_18_method_17_code
def yJ2_compress_39247 : MethodName := ⟨RJ2, "compress", "([BII)[B"⟩
abbrev cJ2_compress_5af95 : ByteArray := prog_18_method_22_code
def yJ2_compress_5af95 : MethodName := ⟨RJ2, "compress", "([BI[BII)I"⟩
abbrev cJ2_getChars_1ba55 : ByteArray := prog_18_method_78_code
def yJ2_getChars_1ba55 : MethodName := ⟨RJ2, "getChars", "(JII[B)I"⟩
abbrev cJ2_putCharsAt_cd4e5 : ByteArray := prog_18_method_81_code
def yJ2_putCharsAt_cd4e5 : MethodName := ⟨RJ2, "putCharsAt", "([BICCCC)I"⟩
abbrev cJ2_charAt_3b067 : ByteArray := prog_18_method_83_code
def yJ2_charAt_3b067 : MethodName := ⟨RJ2, "charAt", "([BI)C"⟩
abbrev cJ2_inflate_0e8fd : ByteArray := prog_18_method_86_code
def yJ2_inflate_0e8fd : MethodName := ⟨RJ2, "inflate", "([BI[BII)V"⟩
abbrev cJ2_getChars_11360 : ByteArray := prog_18_method_90_code
def yJ2_getChars_11360 : MethodName := ⟨RJ2, "getChars", "(JI[B)I"⟩
abbrev cJ2_checkIndex_2214a : ByteArray := prog_18_method_91_code
def yJ2_checkIndex_2214a : MethodName := ⟨RJ2, "checkIndex", "(I[B)V"⟩
abbrev cJ2_checkBoundsBeginEnd_d044e : ByteArray := prog_18_method_93_code
def yJ2_checkBoundsBeginEnd_d044e : MethodName := ⟨RJ2, "checkBoundsBeginEnd", "(II[B)V"⟩
abbrev cJ2_checkBoundsOffCount_d044e : ByteArray := prog_18_method_94_code
def yJ2_checkBoundsOffCount_d044e : MethodName := ⟨RJ2, "checkBoundsOffCount", "(II[B)V"⟩
def RJ10 : String := "java/lang/System"
def TJ10 : u_T := fun k => match k with
  | _ => ("", "", "", false)
def tyJ10 : Nat → FieldType := fun k => match k with
  | _ => .int
abbrev wsJ100 : List Cond := u_ws RJ10 TJ10 0
theorem nmJ10 : ∀ a, a < 0 → ∀ b, b < 0 → a ≠ b → (TJ10 a).2.1 ≠ (TJ10 b).2.1 := by decide +kernel
theorem tyJ10_ok : ∀ k, k < 0 → parseFieldDescriptor (TJ10 k).2.2.1 = some (tyJ10 k) := by decide +kernel
def RJxfd54e : String := "java/lang/constant/Constable"
def TJxfd54e : u_T := fun k => match k with
  | _ => ("", "", "", false)
def tyJxfd54e : Nat → FieldType := fun k => match k with
  | _ => .int
abbrev wsJxfd54e0 : List Cond := u_ws RJxfd54e TJxfd54e 0
theorem nmJxfd54e : ∀ a, a < 0 → ∀ b, b < 0 → a ≠ b → (TJxfd54e a).2.1 ≠ (TJxfd54e b).2.1 := by decide +kernel
theorem tyJxfd54e_ok : ∀ k, k < 0 → parseFieldDescriptor (TJxfd54e k).2.2.1 = some (tyJxfd54e k) := by decide +kernel
def RJx3cf43 : String := "java/lang/constant/ConstantDesc"
def TJx3cf43 : u_T := fun k => match k with
  | _ => ("", "", "", false)
def tyJx3cf43 : Nat → FieldType := fun k => match k with
  | _ => .int
abbrev wsJx3cf430 : List Cond := u_ws RJx3cf43 TJx3cf43 0
theorem nmJx3cf43 : ∀ a, a < 0 → ∀ b, b < 0 → a ≠ b → (TJx3cf43 a).2.1 ≠ (TJx3cf43 b).2.1 := by decide +kernel
theorem tyJx3cf43_ok : ∀ k, k < 0 → parseFieldDescriptor (TJx3cf43 k).2.2.1 = some (tyJx3cf43 k) := by decide +kernel
def RJ7 : String := "java/util/Arrays"
def TJ7 : u_T := fun k => match k with
  | _ => ("", "", "", false)
def tyJ7 : Nat → FieldType := fun k => match k with
  | _ => .int
abbrev wsJ70 : List Cond := u_ws RJ7 TJ7 0
theorem nmJ7 : ∀ a, a < 0 → ∀ b, b < 0 → a ≠ b → (TJ7 a).2.1 ≠ (TJ7 b).2.1 := by decide +kernel
theorem tyJ7_ok : ∀ k, k < 0 → parseFieldDescriptor (TJ7 k).2.2.1 = some (tyJ7 k) := by decide +kernel
abbrev cJ7_fill_d0a16 : ByteArray := prog_20_method_101_code
def yJ7_fill_d0a16 : MethodName := ⟨RJ7, "fill", "([JJ)V"⟩
abbrev cJ7_fill_53178 : ByteArray := prog_20_method_103_code
def yJ7_fill_53178 : MethodName := ⟨RJ7, "fill", "([II)V"⟩
abbrev cJ7_copyOf_9075b : ByteArray := prog_20_method_121_code
def yJ7_copyOf_9075b : MethodName := ⟨RJ7, "copyOf", "([BI)[B"⟩
abbrev cJ7_checkLength_df160 : ByteArray := prog_20_method_131_code
def yJ7_checkLength_df160 : MethodName := ⟨RJ7, "checkLength", "(II)V"⟩
abbrev cJ7_copyOfRange_39247 : ByteArray := prog_20_method_132_code
def yJ7_copyOfRange_39247 : MethodName := ⟨RJ7, "copyOfRange", "([BII)[B"⟩
abbrev cJ7_copyOfRangeByte_39247 : ByteArray := prog_20_method_133_code
def yJ7_copyOfRangeByte_39247 : MethodName := ⟨RJ7, "copyOfRangeByte", "([BII)[B"⟩
def RJ8 : String := "jdk/internal/util/ArraysSupport"
def TJ8 : u_T := fun k => match k with
  | _ => ("", "", "", false)
def tyJ8 : Nat → FieldType := fun k => match k with
  | _ => .int
abbrev wsJ80 : List Cond := u_ws RJ8 TJ8 0
theorem nmJ8 : ∀ a, a < 0 → ∀ b, b < 0 → a ≠ b → (TJ8 a).2.1 ≠ (TJ8 b).2.1 := by decide +kernel
theorem tyJ8_ok : ∀ k, k < 0 → parseFieldDescriptor (TJ8 k).2.2.1 = some (tyJ8 k) := by decide +kernel
abbrev cJ8_newLength_cabcc : ByteArray := prog_21_method_27_code
def yJ8_newLength_cabcc : MethodName := ⟨RJ8, "newLength", "(III)I"⟩
abbrev cJ8_hugeLength_7cf53 : ByteArray := prog_21_method_28_code
def yJ8_hugeLength_7cf53 : MethodName := ⟨RJ8, "hugeLength", "(II)I"⟩
def RJ3 : String := "jdk/internal/util/Preconditions"
def TJ3 : u_T := fun k => match k with
  | _ => ("", "", "", false)
def tyJ3 : Nat → FieldType := fun k => match k with
  | _ => .int
abbrev wsJ30 : List Cond := u_ws RJ3 TJ3 0
theorem nmJ3 : ∀ a, a < 0 → ∀ b, b < 0 → a ≠ b → (TJ3 a).2.1 ≠ (TJ3 b).2.1 := by decide +kernel
theorem tyJ3_ok : ∀ k, k < 0 → parseFieldDescriptor (TJ3 k).2.2.1 = some (tyJ3 k) := by decide +kernel
abbrev cJ3_checkIndex_8e157 : ByteArray := prog_22_method_11_code
def yJ3_checkIndex_8e157 : MethodName := ⟨RJ3, "checkIndex", "(IILjava/util/function/BiFunction;)I"⟩
abbrev cJ3_checkFromToIndex_8c36e : ByteArray := prog_22_method_12_code
def yJ3_checkFromToIndex_8c36e : MethodName := ⟨RJ3, "checkFromToIndex", "(IIILjava/util/function/BiFunction;)I"⟩
abbrev cJ3_checkFromIndexSize_8c36e : ByteArray := prog_22_method_13_code
def yJ3_checkFromIndexSize_8c36e : MethodName := ⟨RJ3, "checkFromIndexSize", "(IIILjava/util/function/BiFunction;)I"⟩
def RL : String := "PartnerWorthLaw"
abbrev cL_law : ByteArray := code
def yL_law : MethodName := ⟨RL, "law", "([I)Z"⟩
