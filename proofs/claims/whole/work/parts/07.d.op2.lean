/-! PURE PART: the tape (feed, clear), rows (row, set, get), union. -/
def RT (tl : Int32) (tb : Nat → Int32) (fed : Int32) (tp : Nat → Int32) : Prop := ∃ k : Nat, k ≤ 120 ∧ tl = nI k ∧ fed = nI k ∧ ∀ j, j < k → ∃ c : Nat, 1 ≤ c ∧ c ≤ 127 ∧ tb j = nI c ∧ tp j = nI c
def RR (sz : Nat → Int32) (P : Nat → Nat → Int64) (ct : Nat → Int32) (it : Nat → Int64) : Prop := ∀ r, r < 4 → ct r = sz r ∧ (sz r = -1 ∨ ∃ k : Nat, k ≤ 20 ∧ sz r = nI k ∧ ∀ j, j < k → P r j = it (20 * r + j))
section OP2
variable {tl fed : Int32} {tb tp sz ct : Nat → Int32} {P : Nat → Nat → Int64} {it : Nat → Int64}
theorem z_byte {c : Nat} (h : c ≤ 127) : vp_nar .byte ((nI c).toInt8.toInt32) = nI c :=
  co_dec (N := 128) (P := fun c => vp_nar .byte ((nI c).toInt8.toInt32) = nI c) (by decide +kernel) (by omega)
theorem z_rng1 {ρ : Type} (a : Int32) {x y : ρ} : (if a < 1 then x else if 127 < a then x else y) = if (decide (1 ≤ a.toInt64) && decide (a.toInt64 ≤ 127)) = true then y else x := by
  have e1 : (1 ≤ a.toInt64) = (1 ≤ a.toInt) := propext (by rw [Int64.le_iff_toInt_le, toI_toL]; rfl)
  have e2 : (a.toInt64 ≤ 127) = (a.toInt ≤ 127) := propext (by rw [Int64.le_iff_toInt_le, toI_toL]; rfl)
  have e3 : (a < 1) = (a.toInt < 1) := propext (by rw [Int32.lt_iff_toInt_lt]; rfl)
  have e4 : (127 < a) = (127 < a.toInt) := propext (by rw [Int32.lt_iff_toInt_lt]; rfl)
  simp only [e1, e2, e3, e4, Bool.and_eq_true, decide_eq_true_eq]
  by_cases c : a.toInt < 1
  · rw [if_pos c, if_neg (by omega)]
  · rw [if_neg c]
    by_cases d : 127 < a.toInt
    · rw [if_pos d, if_neg (by omega)]
    · rw [if_neg d, if_pos (by omega)]
theorem o_feed (R : RT tl tb fed tp) (a1 : Int32) : ∃ r tl' tb' fed' tp', f_X5_feed tl tb a1 = some (r, tl', tb') ∧ f_X6_feed fed tp a1 = some (r, fed', tp') ∧ RT tl' tb' fed' tp' := by
  obtain ⟨k, hk, rfl, rfl, hj⟩ := R
  simp only [f_X5_feed, f_X6_feed, f_X4_append, z_isIn, Option.bind_some, nm_eq, z_rng1]
  by_cases c1 : (decide (1 ≤ a1.toInt64) && decide (a1.toInt64 ≤ 127)) = true
  · simp only [if_pos c1]
    have c1' : 1 ≤ a1.toInt ∧ a1.toInt ≤ 127 := by
      simp only [Bool.and_eq_true, decide_eq_true_eq, Int64.le_iff_toInt_le, toI_toL] at c1
      exact c1
    rcases i32_cases a1 with h | ⟨c, hc, rfl⟩
    · rw [Int32.lt_iff_toInt_lt, Int32.toInt_zero] at h
      omega
    rw [nI_toInt hc] at c1'
    rw [show (120 : Int32) = nI 120 from rfl]
    simp only [ltI (show k < 2 ^ 31 by omega) (show 120 < 2 ^ 31 by omega), eqI (show k < 2 ^ 31 by omega) (show 120 < 2 ^ 31 by omega)]
    by_cases c2 : k < 120
    · rw [if_pos c2, if_neg (by omega), ck_nI c2 (by omega), ck_nI c2 (by omega), nI_clamp (by omega), z_byte (by omega)]
      simp only [Option.bind_some, if_true, nI_1]
      refine ⟨_, _, _, _, _, rfl, rfl, k + 1, by omega, rfl, rfl, fun j h => ?_⟩
      by_cases e : j = k
      · subst e
        exact ⟨c, by omega, by omega, by rw [pk_us], by rw [pk_us]⟩
      · rw [pk_un e, pk_un e]
        exact hj j (by omega)
    · rw [if_neg c2, if_pos (by omega)]
      simp only [Option.bind_some, Bool.false_eq_true, if_false]
      exact ⟨_, _, _, _, _, rfl, rfl, k, hk, rfl, rfl, hj⟩
  · simp only [if_neg c1]
    exact ⟨_, _, _, _, _, rfl, rfl, k, hk, rfl, rfl, hj⟩
theorem o_clear (R : RT tl tb fed tp) : ∃ r tl' fed', f_X5_clear tl = some (r, tl') ∧ f_X6_clear fed = some (r, fed') ∧ RT tl' tb fed' tp := by
  obtain ⟨k, hk, rfl, rfl, hj⟩ := R
  exact ⟨_, _, _, rfl, rfl, 0, by omega, rfl, rfl, fun j h => by omega⟩
/-- how large a row may be -/
theorem RR.rng (R : RR sz P ct it) {r : Nat} (h : r < 4) : -1 ≤ (sz r).toInt ∧ (sz r).toInt ≤ 20 := by
  rcases (R r h).2 with e | ⟨k, hk, e, -⟩
  · rw [e]; decide
  · rw [e, nI_toInt (by omega)]; omega
theorem i32_sub {x y : Int32} (h1 : -100000 ≤ x.toInt) (h2 : x.toInt ≤ 100000) (h3 : -100000 ≤ y.toInt) (h4 : y.toInt ≤ 100000) : (x - y).toInt = x.toInt - y.toInt := by
  rw [Int32.toInt_sub]
  exact Int.bmod_eq_of_le (by omega) (by omega)
theorem i32_add {x y : Int32} (h1 : -100000 ≤ x.toInt) (h2 : x.toInt ≤ 100000) (h3 : -100000 ≤ y.toInt) (h4 : y.toInt ≤ 100000) : (x + y).toInt = x.toInt + y.toInt := by
  rw [Int32.toInt_add]
  exact Int.bmod_eq_of_le (by omega) (by omega)
def hld (c : Int32) (a : Int32) (m : Nat) : Bool := decide (0 ≤ a.toInt) && decide (a.toInt + m ≤ c.toInt)
theorem z_holds {r m : Nat} (hr : r < 4) (hm : m ≤ 20) (h1 : -1 ≤ (sz r).toInt) (h2 : (sz r).toInt ≤ 20) (a : Int32) : f_X3_holds sz (nI r) a (nI m) = some (hld (sz r) a m) := by
  simp only [f_X3_holds, z_isRow, Option.bind_some, jn0_eq, inb_nI hr (show 4 < 2 ^ 31 by omega), if_true, hld]
  rw [ck_true, nI_clamp (by omega)]
  have e1 : (a < 0) = (a.toInt < 0) := propext (by rw [Int32.lt_iff_toInt_lt, Int32.toInt_zero])
  have e2 : (sz r - nI m < a) = ((sz r).toInt - m < a.toInt) := propext (by rw [Int32.lt_iff_toInt_lt, i32_sub (by omega) (by omega) (by rw [nI_toInt (by omega)]; omega) (by rw [nI_toInt (by omega)]; omega), nI_toInt (by omega)])
  simp only [e1, e2]
  by_cases c : a.toInt < 0
  · have : ¬ 0 ≤ a.toInt := by omega
    simp [c, this]
  · have h0 : 0 ≤ a.toInt := by omega
    by_cases d : (sz r).toInt - m < a.toInt
    · have : ¬ a.toInt + m ≤ (sz r).toInt := by omega
      simp [c, d, this]
    · have : a.toInt + m ≤ (sz r).toInt := by omega
      simp [c, d, this, h0]
theorem z_holds0 {a1 : Int32} (h : ¬ inb a1 4 = true) (a m : Int32) : f_X3_holds sz a1 a m = some false := by
  simp only [f_X3_holds, z_isRow, Option.bind_some, jn0_eq, if_neg h]
/-- the model's own words for it -/
theorem z_inR {c : Int32} (h1 : -1 ≤ c.toInt) (h2 : c.toInt ≤ 20) (a : Int32) : f_X6_isIn a.toInt64 0 (c - 1).toInt64 = some (hld c a 1) := by
  rw [z_isIn, hld]
  have e1 : ((0 : Int64) ≤ a.toInt64) = (0 ≤ a.toInt) := propext (by rw [Int64.le_iff_toInt_le, toI_toL]; rfl)
  have e2 : (a.toInt64 ≤ (c - 1).toInt64) = (a.toInt + (1 : Nat) ≤ c.toInt) := propext (by
    rw [Int64.le_iff_toInt_le, toI_toL, toI_toL, i32_sub (by omega) (by omega) (by decide) (by decide)]
    rw [show (1 : Int32).toInt = 1 from rfl]
    omega)
  simp only [e1, e2]
theorem z_nothing {r : Nat} (hr : r < 4) : f_X3_isNothing sz (nI r) = some (decide (sz r = -1)) := by
  simp only [f_X3_isNothing, z_isRow, Option.bind_some, jn0_eq, inb_nI hr (show 4 < 2 ^ 31 by omega), if_true]
  rw [ck_true, nI_clamp (by omega)]
  by_cases h : sz r = -1 <;> simp [h]
theorem z_rix {r j : Nat} : (20 * nI r) + nI j = nI (20 * r + j) := by
  rw [show (20 : Int32) = nI 20 from rfl, pk_mul, nI_add]
theorem hld_of {c a : Int32} {m : Nat} (h : hld c a m = true) (h2 : c.toInt ≤ 20) : ∃ k : Nat, a = nI k ∧ (k : Int) + m ≤ c.toInt := by
  simp only [hld, Bool.and_eq_true, decide_eq_true_eq] at h
  rcases i32_cases a with z | ⟨k, hk, rfl⟩
  · rw [Int32.lt_iff_toInt_lt, Int32.toInt_zero] at z
    omega
  · rw [nI_toInt hk] at h
    exact ⟨k, rfl, h.2⟩
/-- a place of a row is written -/
theorem RR.put (R : RR sz P ct it) {r j k : Nat} (hr : r < 4) (hs : sz r = nI k) (hk : k ≤ 20) (hj : j < k) (x : Int64) : RR sz (va_up P r (vp_updL (P r) j x)) ct (vp_updL it (20 * r + j) x) := by
  intro a ha
  refine ⟨(R a ha).1, ?_⟩
  rcases (R a ha).2 with e | ⟨b, hb, e, hh⟩
  · exact Or.inl e
  · refine Or.inr ⟨b, hb, e, fun i hi => ?_⟩
    by_cases z : a = r
    · subst z
      rw [va_up_self]
      by_cases y : i = j
      · subst y; rw [pk_uLs, pk_uLs]
      · rw [pk_uLn y, pk_uLn (by omega)]; exact hh i hi
    · rw [va_up_ne _ _ z, pk_uLn (by omega)]; exact hh i hi
theorem o_set (R : RR sz P ct it) (a1 a2 : Int32) (a3 : Int64) : ∃ r P' it', f_X5_set sz P a1 a2 a3 = some (r, P') ∧ f_X6_set ct it a1 a2 a3 = some (r, it') ∧ RR sz P' ct it' := by
  simp only [f_X5_set, f_X6_set, z_isRow, z_isRowM, Option.bind_some, nm_eq]
  by_cases c1 : inb a1 4 = true
  · simp only [if_pos c1]
    obtain ⟨r, hr, hr2, rfl⟩ := inb_of c1
    obtain ⟨b1, b2⟩ := R.rng hr
    have ec := (R r hr).1
    rw [show (1 : Int32) = nI 1 from rfl, z_holds hr (by omega) b1 b2]
    simp only [z_nothing hr, Option.bind_some, ck_nI hr (show 4 < 2 ^ 31 by omega), nI_clamp hr2, ec]
    rw [show nI 1 = (1 : Int32) from rfl, z_inR b1 b2, Option.bind_some]
    rcases (R r hr).2 with e | ⟨k, hk, e, hh⟩
    · simp only [e, decide_true, if_true]
      rw [if_pos (by decide)]
      exact ⟨_, _, _, rfl, rfl, R⟩
    · have e0 : ¬ sz r = -1 := fun z => by
        have := congrArg Int32.toInt (e.symm.trans z)
        rw [nI_toInt (by omega), show (-1 : Int32).toInt = -1 from by decide] at this
        omega
      rw [decide_eq_false e0, if_neg (by decide), if_neg (show ¬ sz r < 0 by rw [e]; exact nI_pos (by omega))]
      by_cases c2 : hld (sz r) a2 1 = true
      · simp only [if_pos c2]
        obtain ⟨j, rfl, hj⟩ := hld_of c2 b2
        rw [e, nI_toInt (by omega)] at hj
        rw [ck_nI (n := 20) (by omega) (by omega), z_rix, ck_nI (by omega) (by omega), nI_clamp (by omega), nI_clamp (by omega)]
        exact ⟨_, _, _, rfl, rfl, R.put hr e hk (by omega) a3⟩
      · simp only [if_neg c2]
        exact ⟨_, _, _, rfl, rfl, R⟩
  · simp only [if_neg c1]
    exact ⟨_, _, _, rfl, rfl, R⟩
theorem o_get (R : RR sz P ct it) (a1 a2 : Int32) : ∃ r, f_X5_get sz P a1 a2 = some r ∧ f_X6_get ct it a1 a2 = some r := by
  simp only [f_X5_get, f_X6_get, z_isRowM, Option.bind_some, nm_eq, jn0_eq]
  by_cases c1 : inb a1 4 = true
  · simp only [if_pos c1]
    obtain ⟨r, hr, hr2, rfl⟩ := inb_of c1
    obtain ⟨b1, b2⟩ := R.rng hr
    have ec := (R r hr).1
    rw [show (1 : Int32) = nI 1 from rfl, z_holds hr (by omega) b1 b2]
    simp only [Option.bind_some, ck_nI hr (show 4 < 2 ^ 31 by omega), nI_clamp hr2, ec]
    rw [show nI 1 = (1 : Int32) from rfl, z_inR b1 b2, Option.bind_some]
    by_cases c2 : hld (sz r) a2 1 = true
    · simp only [if_pos c2]
      obtain ⟨j, rfl, hj⟩ := hld_of c2 b2
      rcases (R r hr).2 with e | ⟨k, hk, e, hh⟩
      · rw [e] at hj
        have : (-1 : Int32).toInt = -1 := by decide
        omega
      · rw [e, nI_toInt (by omega)] at hj
        rw [ck_nI (n := 20) (by omega) (by omega), z_rix, ck_nI (by omega) (by omega), nI_clamp (by omega), nI_clamp (by omega)]
        exact ⟨_, rfl, by rw [hh j (by omega)]⟩
    · simp only [if_neg c2]
      exact ⟨_, rfl, rfl⟩
  · rw [z_holds0 c1, Option.bind_some]
    simp only [if_neg c1, Bool.false_eq_true, if_false]
    exact ⟨_, rfl, rfl⟩
-- Arrays.fill
theorem z_filli {n : Nat} (hn : n ≤ 99999) (f : Nat → Int32) (v : Int32) : f_filli f v n = some (fun j => if j < n then v else f j) := by
  refine lp_cf (L := fun m i => L_filli n v m (nI i) (fun j => if j < i then v else f j)) n (fun m => ?_) (fun m i hi => ?_) n 0 FU (by omega) (by rw [FU_eq]; omega)
  · show B_filli n v _ _ _ = _
    rw [B_filli, if_neg (by rw [ltI (by omega) (by omega)]; omega)]
  · show B_filli n v _ _ _ = _
    rw [B_filli, if_pos (by rw [ltI (by omega) (by omega)]; exact hi), ck_nI hi (by omega), nI_clamp (by omega)]
    simp only [nm_eq, nI_1]
    congr 1
    funext j
    by_cases e : j = i
    · subst e; rw [pk_us, if_pos (by omega)]
    · rw [pk_un e]
      have : (j < i) = (j < i + 1) := propext (by omega)
      simp only [this]
theorem z_filll {n : Nat} (hn : n ≤ 99999) (f : Nat → Int64) (v : Int64) : f_filll f v n = some (fun j => if j < n then v else f j) := by
  refine lp_cf (L := fun m i => L_filll n v m (nI i) (fun j => if j < i then v else f j)) n (fun m => ?_) (fun m i hi => ?_) n 0 FU (by omega) (by rw [FU_eq]; omega)
  · show B_filll n v _ _ _ = _
    rw [B_filll, if_neg (by rw [ltI (by omega) (by omega)]; omega)]
  · show B_filll n v _ _ _ = _
    rw [B_filll, if_pos (by rw [ltI (by omega) (by omega)]; exact hi), ck_nI hi (by omega), nI_clamp (by omega)]
    simp only [nm_eq, nI_1]
    congr 1
    funext j
    by_cases e : j = i
    · subst e; rw [pk_uLs, if_pos (by omega)]
    · rw [pk_uLn e]
      have : (j < i) = (j < i + 1) := propext (by omega)
      simp only [this]
theorem z_rowM {r k : Nat} (hr : r < 4) (hk : k ≤ 20) (c : Nat → Int32) (it : Nat → Int64) : L_X6_row_1 (nI r) (nI k) c FU 0 it = some (1, c, fun j => if 20 * r ≤ j ∧ j < 20 * r + k then 0 else it j) := by
  refine (congrArg (L_X6_row_1 (nI r) (nI k) c FU 0) (show it = (fun j => if 20 * r ≤ j ∧ j < 20 * r + 0 then 0 else it j) from ?_)).trans (lp_cf (L := fun m i => L_X6_row_1 (nI r) (nI k) c m (nI i) (fun j => if 20 * r ≤ j ∧ j < 20 * r + i then 0 else it j)) k (fun m => ?_) (fun m i hi => ?_) k 0 FU (by omega) (by rw [FU_eq]; omega))
  · funext j
    rw [if_neg (by omega)]
  · show B_X6_row_1 _ _ _ _ _ _ = _
    rw [B_X6_row_1, if_neg (by rw [ltI (by omega) (by omega)]; omega)]
  · show B_X6_row_1 _ _ _ _ _ _ = _
    rw [B_X6_row_1, if_pos (by rw [ltI (by omega) (by omega)]; exact hi), z_rix, ck_nI (by omega) (by omega), nI_clamp (by omega)]
    simp only [nm_eq, nI_1]
    congr 1
    funext j
    by_cases e : j = 20 * r + i
    · subst e; rw [pk_uLs, if_pos (by omega)]
    · rw [pk_uLn e]
      have : (20 * r ≤ j ∧ j < 20 * r + i) = (20 * r ≤ j ∧ j < 20 * r + (i + 1)) := propext (by omega)
      simp only [this]
theorem o_row (R : RR sz P ct it) (a1 a2 : Int32) : ∃ r sz' P' ct' it', f_X5_row sz P a1 a2 = some (r, sz', P') ∧ f_X6_row ct it a1 a2 = some (r, ct', it') ∧ RR sz' P' ct' it' := by
  simp only [f_X5_row, f_X6_row, f_X3_begin, z_isRow, z_isRowM, Option.bind_some, nm_eq]
  by_cases c1 : inb a1 4 = true
  · simp only [if_pos c1]
    obtain ⟨r, hr, hr2, rfl⟩ := inb_of c1
    by_cases c2 : 20 < a2
    · simp only [if_pos c2]
      exact ⟨_, _, _, _, _, rfl, rfl, R⟩
    · simp only [if_neg c2]
      by_cases c3 : a2 < 0
      · simp only [if_pos c3]
        exact ⟨_, _, _, _, _, rfl, rfl, R⟩
      · simp only [if_neg c3]
        obtain ⟨k, hk, rfl⟩ := nI_of c3
        have hk2 : k ≤ 20 := by
          rw [show (20 : Int32) = nI 20 from rfl, ltI (by omega) hk] at c2
          omega
        simp only [ck_nI hr (show 4 < 2 ^ 31 by omega), nI_clamp hr2, z_filll (show 20 ≤ 99999 by omega), Option.bind_some]
        rw [z_rowM hr hk2]
        refine ⟨_, _, _, _, _, rfl, rfl, fun a ha => ?_⟩
        by_cases z : a = r
        · subst z
          rw [pk_us, pk_us]
          refine ⟨rfl, Or.inr ⟨k, hk2, rfl, fun j hj => ?_⟩⟩
          rw [va_up_self, if_pos (by omega)]
          rw [if_pos (by omega)]
        · rw [pk_un z, pk_un z]
          refine ⟨(R a ha).1, ?_⟩
          rcases (R a ha).2 with e | ⟨b, hb, e, hh⟩
          · exact Or.inl e
          · refine Or.inr ⟨b, hb, e, fun i hi => ?_⟩
            rw [va_up_ne _ _ z]
            rw [if_neg (by omega)]
            exact hh i hi
  · simp only [if_neg c1]
    exact ⟨_, _, _, _, _, rfl, rfl, R⟩
end OP2
section OP2b
variable {N : Nat} {n nd es : Int32} {wt un ed : Nat → Int32} {G : Nat → Nat → Int64} {g : Nat → Int64}
theorem lst_of {s i : Nat} (hs : s < 512) (h : s.testBit i = true) (hl : ∀ j, j < i → s.testBit j = false) : lst s = i ∧ s ≠ 0 := by
  have hi : i < 9 := by
    rcases Nat.lt_or_ge i 9 with z | z
    · exact z
    · have h1 := Nat.testBit_lt_two_pow (i := i) (x := s) (Nat.lt_of_lt_of_le hs (show 512 ≤ 2 ^ i from Nat.le_trans (show 512 ≤ 2 ^ 9 by decide) (Nat.pow_le_pow_right (by decide) z)))
      rw [h1] at h; cases h
  refine ⟨?_, fun z => by rw [z, Nat.zero_testBit] at h; cases h⟩
  unfold lst
  rcases (show i = 0 ∨ i = 1 ∨ i = 2 ∨ i = 3 ∨ i = 4 ∨ i = 5 ∨ i = 6 ∨ i = 7 ∨ i = 8 by omega) with z | z | z | z | z | z | z | z | z <;> subst z <;> simp [h, hl]
theorem z_unionOf (hU : RU N un g) (hN : N ≤ 9) {p : Nat} (hp : p < N) : ∃ L : Nat, f_X6_unionOf g (nI p) = some (nI L) ∧ f_X5_leastOf (un p) = some (nI L) ∧ L ≤ p := by
  obtain ⟨L, U, h⟩ := hU
  obtain ⟨h1, h2, h3, h4, h5, h6⟩ := h p hp
  have := pw_le hN
  refine ⟨L p, ?_, ?_, h1⟩
  · simp only [f_X6_unionOf]
    rw [show (12 : Int32) = nI 12 from rfl, nI_add, ck_nI (by omega) (by omega), nI_clamp (by omega), h3, lN_i]
  · rw [h4, z_leastOf (by omega)]
    obtain ⟨e1, e2⟩ := lst_of (s := U p) (i := L p) (by omega) (by rw [h6]; simp [h2]; omega) (fun j hj => by
      rw [h6]
      by_cases z : L j = L p
      · exact absurd (h j (by omega)).1 (by omega)
      · simp [z])
    rw [if_neg e2, e1]
theorem o_union (R : RG N n nd es wt un ed G g) (a1 : Int32) : ∃ r, f_X5_union n un a1 = some r ∧ f_X6_union g a1 = some r := by
  obtain ⟨h1, h2, h3, h4⟩ := R.1
  subst h3
  simp only [f_X5_union, f_X6_union, z_hasPartner h2, z_isPartnerM h4 h1 h2, Option.bind_some]
  by_cases c1 : inb a1 N = true
  · simp only [if_pos c1]
    obtain ⟨p, hp, hp2, rfl⟩ := inb_of c1
    obtain ⟨L, e1, e2, -⟩ := z_unionOf R.2.2.2.2.1 h2 hp
    rw [ck_nI (n := 9) (by omega) (by omega), nI_clamp hp2, e1, e2]
    exact ⟨_, rfl, rfl⟩
  · simp only [if_neg c1]
    exact ⟨_, rfl, rfl⟩
end OP2b
