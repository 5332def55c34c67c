/-! THE PAPER: what the class writes, and the same text. -/
def Pq (sb : Nat → Int32) (t : Nat → Nat) (n : Nat) : Prop := ∀ j, j < n → sb j = nI (t j)
theorem pq_cat {sb sb' : Nat → Int32} {t s : Nat → Nat} {n w : Nat} (h : Pq sb t n) (h1 : ∀ j, j < n → sb' j = sb j) (h2 : ∀ i, i < w → sb' (n + i) = nI (s i)) : Pq sb' (sb_cat t n s) (n + w) := by
  intro j hj
  by_cases z : j < n
  · rw [sb_cat_lo z, h1 j z, h j z]
  · have := h2 (j - n) (by omega)
    rw [show n + (j - n) = j by omega] at this
    rw [this, sb_cat, if_neg z]
theorem pq_0 {sb : Nat → Int32} {t s : Nat → Nat} {n : Nat} (h : Pq sb t n) : Pq sb (sb_cat t n s) (n + 0) := pq_cat (w := 0) h (fun _ _ => rfl) (fun i hi => absurd hi (Nat.not_lt_zero _))
theorem pq_e {sb : Nat → Int32} {t z : Nat → Nat} {n : Nat} (h : Pq sb t n) : Pq sb (sb_cat z 0 t) (0 + n) := by
  intro j hj
  rw [sb_cat, if_neg (Nat.not_lt_zero _), Nat.sub_zero]
  exact h j (by omega)
theorem z_app {n c : Nat} (hn : n < 256) (hc : c < 128) (sb : Nat → Int32) : f_X2_append (nI n) sb (nI c) = some (nI (n + 1), upd sb n (nI c)) := by
  rw [f_X2_append, show (256 : Int32) = nI 256 from rfl, if_pos (by rw [ltI (by omega) (by omega)]; exact hn), ck_nI hn (by omega), nI_clamp (by omega), z_byte (by omega), nm_eq, nm_eq, nI_1]
theorem q64 (v : Int64) {U : Nat} (h0 : 0 < U) (hU : U < 2 ^ 63) : (v / lN U).toInt = v.toInt.tdiv U ∧ (v / lN U).toInt.natAbs = v.toInt.natAbs / U := by
  have hv := i64_rng v
  have e : (v / lN U).toInt = v.toInt.tdiv U := by
    rw [Int64.toInt_div, lN_int hU]
    have h1 : (v.toInt.tdiv U).natAbs = v.toInt.natAbs / U := by rw [Int.natAbs_tdiv, Int.natAbs_natCast]; rfl
    have h2 : v.toInt.natAbs / U ≤ v.toInt.natAbs := Nat.div_le_self _ _
    by_cases c : 0 ≤ v.toInt
    · have h3 : 0 ≤ v.toInt.tdiv U := Int.tdiv_nonneg c (by omega)
      generalize v.toInt.tdiv U = x at *
      generalize v.toInt.natAbs / U = y at *
      exact Int.bmod_eq_of_le (by omega) (by omega)
    · have h4 := Int.tdiv_nonneg (show 0 ≤ -v.toInt by omega) (show (0 : Int) ≤ (U : Int) by omega)
      rw [Int.neg_tdiv] at h4
      have h3 : v.toInt.tdiv U ≤ 0 := by omega
      clear h4
      generalize v.toInt.tdiv U = x at *
      generalize v.toInt.natAbs / U = y at *
      exact Int.bmod_eq_of_le (by omega) (by omega)
  exact ⟨e, by rw [e, Int.natAbs_tdiv, Int.natAbs_natCast]; rfl⟩
theorem i64_0 {x : Int64} : (x = 0) ↔ x.toInt.natAbs = 0 := by
  constructor
  · rintro rfl; rfl
  · intro h
    exact Int64.toInt_inj.mp (by rw [Int64.toInt_zero]; omega)
theorem lN_10 {i : Nat} (h : i < 18) : lN (10 ^ i) * 10 = lN (10 ^ (i + 1)) :=
  co_dec (N := 18) (P := fun i => lN (10 ^ i) * 10 = lN (10 ^ (i + 1))) (by decide +kernel) h
theorem p10_63 {i : Nat} (h : i ≤ 18) : 10 ^ i < 2 ^ 63 := Nat.lt_of_le_of_lt (Nat.pow_le_pow_right (by decide) h) (by decide)
theorem lN_ne {U : Nat} (h0 : 0 < U) (hU : U < 2 ^ 63) : (lN U != 0) = true := by
  have : ¬ lN U = 0 := fun z => by
    have := (eqL (a := U) (b := 0) hU (by omega)).mp z
    omega
  simp [this]
theorem z_unit {v : Int64} {c : Nat} (h : Fg v.toInt.natAbs c) (kx : Int64 → Option (Int32 × (Nat → Int32))) : ∀ (k i m : Nat), i + 1 + k = c → k < m → L_X2_appendNumber_1 v kx m (lN (10 ^ i)) (nI (i + 1)) = kx (lN (10 ^ (c - 1))) := by
  have hu := (ng_of v).2
  have hc := Fg_19 h hu
  intro k
  induction k with
  | zero =>
    intro i m e hm
    obtain ⟨m, rfl⟩ : ∃ k, m = k + 1 := ⟨m - 1, by omega⟩
    have e2 : i = c - 1 := by omega
    subst e2
    have hp : 0 < 10 ^ (c - 1) := Nat.pow_pos (by decide)
    have hl := p10_63 (i := c - 1) (by omega)
    show B_X2_appendNumber_1 _ _ _ _ _ = _
    rw [B_X2_appendNumber_1, show (19 : Int32) = nI 19 from rfl]
    by_cases z : c - 1 + 1 < 19
    · rw [if_pos (by rw [ltI (by omega) (by omega)]; exact z), lN_ne hp hl, ck_true, show ((10 : Int64) != 0) = true from by decide, ck_true, if_pos]
      have a1 := (q64 v hp hl).2
      have a2 := (q64 (v / lN (10 ^ (c - 1))) (U := 10) (by decide) (by decide)).2
      refine i64_0.mpr (a2.trans ?_)
      rw [a1, Nat.div_div_eq_div_mul, ← Nat.pow_succ, show (c - 1).succ = c by omega]
      exact Nat.div_eq_of_lt h.2.1
    · rw [if_neg (by rw [ltI (by omega) (by omega)]; exact z)]
  | succ k ih =>
    intro i m e hm
    obtain ⟨m, rfl⟩ : ∃ k, m = k + 1 := ⟨m - 1, by omega⟩
    have hp : 0 < 10 ^ i := Nat.pow_pos (by decide)
    have hl := p10_63 (i := i) (by omega)
    show B_X2_appendNumber_1 _ _ _ _ _ = _
    rw [B_X2_appendNumber_1, show (19 : Int32) = nI 19 from rfl, if_pos (by rw [ltI (by omega) (by omega)]; omega), lN_ne hp hl, ck_true, show ((10 : Int64) != 0) = true from by decide, ck_true, if_neg, lN_10 (by omega)]
    · simp only [nm_eq, nI_1]
      exact ih (i + 1) m (by omega) (by omega)
    · intro z
      have a1 := (q64 v hp hl).2
      have a2 := (q64 (v / lN (10 ^ i)) (U := 10) (by decide) (by decide)).2
      have a3 := i64_0.mp z
      have a4 := a2.symm.trans a3
      rw [a1, Nat.div_div_eq_div_mul, ← Nat.pow_succ] at a4
      have := Fg_le h (i := i + 1) (by omega) (by omega)
      have := Nat.div_pos this (Nat.pow_pos (by decide))
      exact absurd a4 (by show ¬ v.toInt.natAbs / 10 ^ (i + 1) = 0; omega)
theorem z_digit {v : Int64} {U : Nat} (h0 : 0 < U) (hU : U < 2 ^ 63) : ((((48 + (lAbs ((v / lN U) - (v / lN U) / 10 * 10))).toInt32).toUInt32 % 65536).toInt32) = nI (48 + v.toInt.natAbs / U % 10) := by
  have a1 := (q64 v h0 hU).2
  have e1 : ((v / lN U) - (v / lN U) / 10 * 10).toInt.natAbs = v.toInt.natAbs / U % 10 := by
    rw [z_rem _ 10 (by decide), (tmod_b _ _ (by decide)).1, a1]
    rfl
  rw [lAbs_nat (by omega), e1, show (48 : Int64) + lN (v.toInt.natAbs / U % 10) = lN (48 + v.toInt.natAbs / U % 10) from (Int64.ofNat_add 48 _).symm, lN_i]
  exact (sb_byte _ (by omega)).2.1
theorem z_digits {v : Int64} {c : Nat} (h : Fg v.toInt.natAbs c) (kx : Int32 → (Nat → Int32) → Option (Int32 × (Nat → Int32))) : ∀ (k i m n : Nat) (sb : Nat → Int32) (un : Int64), i + k = c → k < m → n + k ≤ 256 → (i < c → un = lN (10 ^ (c - 1 - i))) → (i = c → un = 0) → ∃ sb', L_X2_appendNumber_2 v kx m un (nI i) (nI n) sb = kx (nI (n + k)) sb' ∧ (∀ j, j < n → sb' j = sb j) ∧ ∀ r, r < k → sb' (n + r) = nI (48 + v.toInt.natAbs / 10 ^ (c - 1 - i - r) % 10) := by
  have hu := (ng_of v).2
  have hc := Fg_19 h hu
  intro k
  induction k with
  | zero =>
    intro i m n sb un e hm hn h1 h2
    obtain ⟨m, rfl⟩ : ∃ k, m = k + 1 := ⟨m - 1, by omega⟩
    refine ⟨sb, ?_, fun _ _ => rfl, fun r hr => absurd hr (Nat.not_lt_zero _)⟩
    rw [h2 (by omega)]
    show B_X2_appendNumber_2 _ _ _ _ _ _ _ = _
    rw [B_X2_appendNumber_2, if_neg (show ¬ (0 : Int64) < 0 from by decide), Nat.add_zero]
    split <;> rfl
  | succ k ih =>
    intro i m n sb un e hm hn h1 h2
    obtain ⟨m, rfl⟩ : ∃ k, m = k + 1 := ⟨m - 1, by omega⟩
    have hp : 0 < 10 ^ (c - 1 - i) := Nat.pow_pos (by decide)
    have hl := p10_63 (i := c - 1 - i) (by omega)
    obtain ⟨sb', g1, g2, g3⟩ := ih (i + 1) m (n + 1) (upd sb n (nI (48 + v.toInt.natAbs / 10 ^ (c - 1 - i) % 10))) (lN (10 ^ (c - 1 - i)) / 10) (by omega) (by omega) (by omega) (fun hi => by
      rw [show (10 : Int64) = lN 10 from rfl, pk_lDiv hl (by decide) (by decide), show c - 1 - i = c - 1 - (i + 1) + 1 by omega, Nat.pow_succ, Nat.mul_div_cancel _ (by decide)]) (fun hi => by
      rw [show c - 1 - i = 0 by omega]
      decide)
    refine ⟨sb', ?_, fun j hj => by rw [g2 j (by omega), pk_un (by omega)], fun r hr => ?_⟩
    · rw [show n + (k + 1) = n + 1 + k by omega, ← g1, h1 (by omega)]
      show B_X2_appendNumber_2 _ _ _ _ _ _ _ = _
      rw [B_X2_appendNumber_2, show (19 : Int32) = nI 19 from rfl, if_pos (by rw [ltI (by omega) (by omega)]; omega), if_pos (by rw [show (0 : Int64) = lN 0 from rfl, ltL (by omega) hl]; exact hp), lN_ne hp hl, ck_true, show ((10 : Int64) != 0) = true from by decide, ck_true, z_digit hp hl, z_app (by omega) (by omega), Option.bind_some, ck_true]
      simp only [nm_eq, nI_1]
    · by_cases z : r = 0
      · subst z
        rw [Nat.add_zero, g2 n (by omega), pk_us, Nat.sub_zero]
      · have := g3 (r - 1) (by omega)
        rw [show n + 1 + (r - 1) = n + r by omega, show c - 1 - (i + 1) - (r - 1) = c - 1 - i - r by omega] at this
        exact this
theorem z_number {v : Int64} {c n : Nat} (h : Fg v.toInt.natAbs c) (hn : n + (c + sgl v) ≤ 256) (sb : Nat → Int32) : ∃ sb', f_X2_appendNumber (nI n) sb v = some (nI (n + (c + sgl v)), sb') ∧ (∀ j, j < n → sb' j = sb j) ∧ ∀ i, i < c + sgl v → sb' (n + i) = nI (dtx v c i) := by
  have hu := (ng_of v).2
  have hc := Fg_19 h hu
  have h1 := h.1
  obtain ⟨fu, hfu⟩ : ∃ k, k = FU := ⟨_, rfl⟩
  have hfu2 : fu = 100000 := hfu.trans FU_eq
  have main : ∀ (n0 : Nat) (sb0 : Nat → Int32), n0 + c ≤ 256 → ∃ sb', L_X2_appendNumber_1 v (fun (v10 : Int64) => L_X2_appendNumber_2 v (fun (sl20 : Int32) (sb21 : Nat → Int32) => some (sl20, sb21)) fu v10 0 (nI n0) sb0) fu 1 1 = some (nI (n0 + c), sb') ∧ (∀ j, j < n0 → sb' j = sb0 j) ∧ ∀ r, r < c → sb' (n0 + r) = nI (48 + v.toInt.natAbs / 10 ^ (c - 1 - 0 - r) % 10) := by
    intro n0 sb0 h0
    obtain ⟨sb', g1, g2, g3⟩ := z_digits h (fun (sl20 : Int32) (sb21 : Nat → Int32) => some (sl20, sb21)) c 0 fu n0 sb0 (lN (10 ^ (c - 1))) (by omega) (by omega) h0 (fun _ => rfl) (fun z => by omega)
    refine ⟨sb', ?_, g2, g3⟩
    refine Eq.trans ?_ g1
    exact z_unit h (fun (v10 : Int64) => L_X2_appendNumber_2 v (fun (sl20 : Int32) (sb21 : Nat → Int32) => some (sl20, sb21)) fu v10 0 (nI n0) sb0) (c - 1) 0 fu (by omega) (by omega)
  rw [f_X2_appendNumber, jn2_eq, ← hfu]
  by_cases a : v < 0
  · have es : sgl v = 1 := if_pos a
    rw [es] at hn
    obtain ⟨sb', g1, g2, g3⟩ := main (n + 1) (upd sb n (nI 45)) (by omega)
    rw [if_pos a, show (45 : Int32) = nI 45 from rfl, z_app (by omega) (by omega), Option.bind_some]
    dsimp only
    refine ⟨sb', ?_, fun j hj => by rw [g2 j (by omega), pk_un (by omega)], fun i hi => ?_⟩
    · rw [es, show n + (c + 1) = n + 1 + c by omega]
      exact g1
    · by_cases z : i = 0
      · rw [z, Nat.add_zero, dtx_0 a, g2 n (by omega), pk_us]
      · have := g3 (i - 1) (by omega)
        rw [show n + 1 + (i - 1) = n + i by omega] at this
        rw [this, dtx_s (fun q => z q.2), es, show c + 1 - 1 - i = c - 1 - 0 - (i - 1) by omega]
  · have es : sgl v = 0 := if_neg a
    rw [es] at hn
    obtain ⟨sb', g1, g2, g3⟩ := main n sb (by omega)
    rw [if_neg a]
    refine ⟨sb', ?_, g2, fun i hi => ?_⟩
    · rw [es]
      exact g1
    · rw [g3 i (by omega), dtx_s (fun q => a q.1), es, show c + 0 - 1 - i = c - 1 - 0 - i by omega]
noncomputable def dcn (v : Int64) : Nat := (Classical.choose (Fg_of v))
theorem dcn_ok (v : Int64) : Fg v.toInt.natAbs (dcn v) := Classical.choose_spec (Fg_of v)
noncomputable def dln (v : Int64) : Nat := dcn v + sgl v
noncomputable def dtn (v : Int64) : Nat → Nat := dtx v (dcn v)
theorem dln_20 (v : Int64) : 1 ≤ dln v ∧ dln v ≤ 20 := by
  have h1 := Fg_19 (dcn_ok v) (ng_of v).2
  have h2 := (dcn_ok v).1
  have hs : sgl v ≤ 1 := by unfold sgl; split <;> omega
  unfold dln
  omega
theorem z_num {v : Int64} {n : Nat} (hn : n + dln v ≤ 256) (sb : Nat → Int32) : ∃ sb', f_X2_appendNumber (nI n) sb v = some (nI (n + dln v), sb') ∧ (∀ j, j < n → sb' j = sb j) ∧ ∀ i, i < dln v → sb' (n + i) = nI (dtn v i) := z_number (dcn_ok v) hn sb
theorem z_dec (v : Int64) : isDec v (dln v) (dtn v) := z_isDec (dcn_ok v)
/-- a fraction: as / stands between, alone if below is 1 -/
theorem z_frac {a b : Int64} {n : Nat} {sb : Nat → Int32} {t : Nat → Nat} (h : Pq sb t n) (hn : n + dln a + (0 + 1 + dln b) ≤ 256) : ∃ sb', f_X2_appendFraction (nI n) sb a b = some (nI (n + dln a + (if b = 1 then 0 else 0 + 1 + dln b)), sb') ∧ Pq sb' (sb_cat (sb_cat t n (dtn a)) (n + dln a) (if b = 1 then fun _ => 47 else sb_cat (sb_cat (fun _ => 0) 0 (fun _ => 47)) (0 + 1) (dtn b))) (n + dln a + (if b = 1 then 0 else 0 + 1 + dln b)) := by
  obtain ⟨s1, a1, a2, a3⟩ := z_num (v := a) (n := n) (by omega) sb
  have p1 : Pq s1 (sb_cat t n (dtn a)) (n + dln a) := pq_cat h a2 a3
  rw [f_X2_appendFraction, a1, Option.bind_some]
  by_cases c : b = 1
  · rw [if_pos c, if_pos c, if_pos c]
    exact ⟨s1, rfl, pq_0 p1⟩
  · rw [if_neg c, if_neg c, if_neg c]
    dsimp only
    rw [show (47 : Int32) = nI 47 from rfl, z_app (by omega) (by omega), Option.bind_some]
    dsimp only
    obtain ⟨s2, b1, b2, b3⟩ := z_num (v := b) (n := n + dln a + 1) (by omega) (upd s1 (n + dln a) (nI 47))
    rw [b1, Option.bind_some]
    refine ⟨s2, ?_, pq_cat p1 (fun j hj => by rw [b2 j (by omega), pk_un (by omega)]) (fun i hi => ?_)⟩
    · rw [show n + dln a + (0 + 1 + dln b) = n + dln a + 1 + dln b by omega]
    · by_cases z : i = 0
      · subst z
        rw [Nat.add_zero, b2 _ (by omega), pk_us]
        rfl
      · have := b3 (i - 1) (by omega)
        rw [show n + dln a + 1 + (i - 1) = n + dln a + i by omega] at this
        rw [this, sb_cat, if_neg (by omega), show i - (0 + 1) = i - 1 by omega]
/-- the letters are ASCII -/
theorem cat_lt {t s : Nat → Nat} {n : Nat} (ht : ∀ j, t j < 128) (hs : ∀ j, s j < 128) : ∀ j, sb_cat t n s j < 128 := fun j => by
  unfold sb_cat
  split
  · exact ht _
  · exact hs _
section PAP
variable {N : Nat} {n nd es : Int32} {wt un ed : Nat → Int32} {G : Nat → Nat → Int64} {g : Nat → Int64} {fa : Nat → Int64}
/-- what is spelled of a game V -/
def spU (N : Nat) (V : Nat → Int64) (p : Nat) : Int64 := prp (shW N V p) (lN (fct N)) 0
def spL (N : Nat) (V : Nat → Int64) (p : Nat) : Int64 := prp (shW N V p) (lN (fct N)) 1
def spB (N : Nat) (V : Nat → Int64) (p : Nat) : Bool := (shr N V p (2 ^ N)).2
noncomputable def spT (N : Nat) (V : Nat → Int64) : Nat → (Nat → Nat) × Nat := spx (spL N V) (fun p => dln (spU N V p)) (fun p => dln (spL N V p)) (fun p => dtn (spU N V p)) (fun p => dtn (spL N V p))
theorem spL_6 (hN : N < 10) (V : Nat → Int64) (p : Nat) : dln (spL N V p) ≤ 6 := by
  have hf := fct_b hN
  have hb : 0 < (lN (fct N)).toInt := by rw [lN_int (by omega)]; omega
  obtain ⟨h1, h2⟩ := gg_pos (a := shW N V p) hb
  have e : spL N V p = lN (fct N / Nat.gcd (shW N V p).toInt.natAbs (lN (fct N)).toInt.natAbs) := by
    rw [spL, prp, if_neg (by decide), gg]
    have hg := Nat.gcd_pos_of_pos_right (shW N V p).toInt.natAbs (show 0 < (lN (fct N)).toInt.natAbs by omega)
    have hle := gcd_lt (a := (shW N V p).toInt.natAbs) (b := (lN (fct N)).toInt.natAbs) (by omega)
    rw [lN_int (by omega), Int.natAbs_natCast] at hg hle ⊢
    exact pk_lDiv (by omega) hg (by omega)
  have hd : fct N / Nat.gcd (shW N V p).toInt.natAbs (lN (fct N)).toInt.natAbs ≤ fct N := Nat.div_le_self _ _
  generalize fct N / Nat.gcd (shW N V p).toInt.natAbs (lN (fct N)).toInt.natAbs = w at e hd
  have hs : sgl (spL N V p) = 0 := if_neg (by rw [e, show (0 : Int64) = lN 0 from rfl, ltL (by omega) (by omega)]; omega)
  have hc := Fg_lt (dcn_ok (spL N V p)) (d := 6) (by omega) (by rw [e, lN_int (by omega), Int.natAbs_natCast]; omega)
  unfold dln
  omega
theorem spT_len (hN : N < 10) (V : Nat → Int64) : ∀ p, (spT N V p).2 ≤ 28 * p
  | 0 => Nat.le_refl _
  | p + 1 => by
    have ih := spT_len hN V p
    have h1 := (dln_20 (spU N V p)).2
    have h2 := spL_6 hN V p
    show 0 + (spT N V p).2 + (if p = 0 then 0 else 1) + dln (spU N V p) + (spv (spL N V) (fun p => dln (spL N V p)) (fun p => dtn (spL N V p)) p).1 ≤ _
    unfold spv
    split <;> split <;> dsimp only <;> omega
theorem spT_lt (V : Nat → Int64) : ∀ p j, (spT N V p).1 j < 128
  | 0, j => by show 0 < 128; omega
  | p + 1, j => by
    have ih := spT_lt V p
    show sb_cat (sb_cat (sb_cat (sb_cat (fun _ => 0) 0 (spT N V p).1) (0 + (spT N V p).2) (fun _ => 32)) _ (dtn (spU N V p))) _ (spv (spL N V) (fun p => dln (spL N V p)) (fun p => dtn (spL N V p)) p).2 j < 128
    refine cat_lt (cat_lt (cat_lt (cat_lt (fun _ => by omega) ih) (fun _ => by omega)) (fun _ => dtx_lt)) ?_ j
    unfold spv
    split
    · exact fun _ => by show 47 < 128; omega
    · exact cat_lt (cat_lt (fun _ => by omega) (fun _ => by omega)) (fun _ => dtx_lt)
theorem z_spell (h2 : N ≤ 9) (h1 : 1 ≤ N) (V : Nat → Int64) (wh : Nat → Int64) : ∀ (k i m : Nat) (sb : Nat → Int32), i + k = N → k < m → Pq sb (spT N V i).1 (spT N V i).2 → ∃ sb', L_X5_spell_1 (nI N) (true, false, fil wh N (shW N V)) (nI (fct N)) m (nI i) (nI (spT N V i).2) sb = some (nI (spT N V N).2, nI (spT N V N).2, false, sb', fil wh N (shW N V)) ∧ Pq sb' (spT N V N).1 (spT N V N).2 := by
  have hf := fct_b (k := N) (by omega)
  have hb : 0 < (lN (fct N)).toInt := by rw [lN_int (by omega)]; omega
  intro k
  induction k with
  | zero =>
    intro i m sb e hm hp
    obtain ⟨m, rfl⟩ : ∃ k, m = k + 1 := ⟨m - 1, by omega⟩
    have : i = N := by omega
    subst this
    refine ⟨sb, ?_, hp⟩
    show B_X5_spell_1 _ _ _ _ _ _ _ = _
    rw [B_X5_spell_1, if_neg (by rw [ltI (by omega) (by omega)]; omega)]
  | succ k ih =>
    intro i m sb e hm hp
    obtain ⟨m, rfl⟩ : ∃ k, m = k + 1 := ⟨m - 1, by omega⟩
    have l1 := spT_len (N := N) (by omega) V i
    have l2 := dln_20 (spU N V i)
    have l3 := spL_6 (N := N) (by omega) V i
    -- what the loop's body does from a sheet with the blank
    have body : ∀ (sb1 : Nat → Int32) (t : Nat → Nat) (n1 : Nat), n1 ≤ 28 * i + 1 → Pq sb1 t n1 → sb_cat (sb_cat t n1 (dtn (spU N V i))) (n1 + dln (spU N V i)) (if spL N V i = 1 then fun _ => 47 else sb_cat (sb_cat (fun _ => 0) 0 (fun _ => 47)) (0 + 1) (dtn (spL N V i))) = (spT N V (i + 1)).1 → n1 + dln (spU N V i) + (if spL N V i = 1 then 0 else 0 + 1 + dln (spL N V i)) = (spT N V (i + 1)).2 → ∃ sb', (ck (inb (nI i) 9) ((f_X5_lowest (fil wh N (shW N V) (nI i).toNatClampNeg) (nI (fct N)).toInt64 0).bind (fun (r12 : Int64) => ck (inb (nI i) 9) ((f_X5_lowest (fil wh N (shW N V) (nI i).toNatClampNeg) (nI (fct N)).toInt64 1).bind (fun (r13 : Int64) => (f_X2_appendFraction (nI n1) sb1 r12 r13).bind (fun (r14 : Int32 × (Nat → Int32)) => nm (nI i + 1) (fun (x15 : Int32) => L_X5_spell_1 (nI N) (true, false, fil wh N (shW N V)) (nI (fct N)) m x15 r14.1 r14.2))))))) = some (nI (spT N V N).2, nI (spT N V N).2, false, sb', fil wh N (shW N V)) ∧ Pq sb' (spT N V N).1 (spT N V N).2 := by
      intro sb1 t n1 hn1 hp1 ht hn
      obtain ⟨s2, f1, f2⟩ := z_frac (a := spU N V i) (b := spL N V i) hp1 (by omega)
      rw [ht, hn] at f2
      rw [hn] at f1
      obtain ⟨sb', g1, g2⟩ := ih (i + 1) m s2 (by omega) (by omega) f2
      refine ⟨sb', ?_, g2⟩
      rw [ck_nI (show i < 9 by omega) (by omega), nI_clamp (show i < 2 ^ 31 by omega), fil_lt (show i < N by omega), nI_l (by omega), z_lowest hb, Option.bind_some, ck_nI (show i < 9 by omega) (by omega), z_lowest hb, Option.bind_some]
      rw [show prp (shW N V i) (lN (fct N)) 0 = spU N V i from rfl, show prp (shW N V i) (lN (fct N)) 1 = spL N V i from rfl, f1, Option.bind_some]
      simp only [nm_eq, nI_1]
      exact g1
    have e1 : ∀ x, (spT N V (i + 1)) = spy (spT N V i) x (dln (spU N V i)) (dtn (spU N V i)) (spv (spL N V) (fun p => dln (spL N V p)) (fun p => dtn (spL N V p)) i).1 (spv (spL N V) (fun p => dln (spL N V p)) (fun p => dtn (spL N V p)) i).2 ∨ ¬ x = (if i = 0 then 0 else 1) := fun x => by
      by_cases hx : x = (if i = 0 then 0 else 1)
      · subst hx; exact Or.inl rfl
      · exact Or.inr hx
    have e2 : (spv (spL N V) (fun p => dln (spL N V p)) (fun p => dtn (spL N V p)) i).2 = (if spL N V i = 1 then fun _ => 47 else sb_cat (sb_cat (fun _ => 0) 0 (fun _ => 47)) (0 + 1) (dtn (spL N V i))) := by
      unfold spv
      split <;> rfl
    have e3 : (spv (spL N V) (fun p => dln (spL N V p)) (fun p => dtn (spL N V p)) i).1 = (if spL N V i = 1 then 0 else 0 + 1 + dln (spL N V i)) := by
      unfold spv
      split <;> rfl
    have step : L_X5_spell_1 (nI N) (true, false, fil wh N (shW N V)) (nI (fct N)) (m + 1) (nI i) (nI (spT N V i).2) sb = B_X5_spell_1 _ _ _ _ _ _ _ := rfl
    by_cases hi : i = 0
    · subst hi
      obtain ⟨sb', g1, g2⟩ := body sb (sb_cat (sb_cat (fun _ => 0) 0 (spT N V 0).1) (0 + (spT N V 0).2) (fun _ => 32)) (0 + (spT N V 0).2 + 0) (by omega) (pq_0 (pq_e hp)) (by rw [(e1 0).resolve_right (fun h => h rfl), ← e2]; rfl) (by rw [(e1 0).resolve_right (fun h => h rfl), ← e3]; rfl)
      have ez : nI (0 + (spT N V 0).2 + 0) = nI (spT N V 0).2 := congrArg nI (by omega)
      refine ⟨sb', ?_, g2⟩
      rw [← g1, ez]
      show B_X5_spell_1 _ _ _ _ _ _ _ = _
      rw [B_X5_spell_1, if_pos (by rw [ltI (by omega) (by omega)]; omega), jn2_eq, if_neg (by rw [show (0 : Int32) = nI 0 from rfl, ltI (by omega) (by omega)]; omega)]
    · obtain ⟨sb', g1, g2⟩ := body (upd sb (spT N V i).2 (nI 32)) (sb_cat (sb_cat (fun _ => 0) 0 (spT N V i).1) (0 + (spT N V i).2) (fun _ => 32)) (0 + (spT N V i).2 + 1) (by omega) (pq_cat (pq_e hp) (fun j hj => pk_un (by omega)) (fun r hr => by rw [show r = 0 by omega, Nat.add_zero, Nat.zero_add, pk_us])) (by rw [(e1 1).resolve_right (fun h => h (by rw [if_neg hi])), ← e2]; rfl) (by rw [(e1 1).resolve_right (fun h => h (by rw [if_neg hi])), ← e3]; rfl)
      refine ⟨sb', ?_, g2⟩
      rw [← g1]
      show B_X5_spell_1 _ _ _ _ _ _ _ = _
      rw [B_X5_spell_1, if_pos (by rw [ltI (by omega) (by omega)]; omega), jn2_eq, if_pos (by rw [show (0 : Int32) = nI 0 from rfl, ltI (by omega) (by omega)]; omega), show (32 : Int32) = nI 32 from rfl, z_app (by omega) (by omega), Option.bind_some, Nat.zero_add]
theorem shB_of {V : Nat → Int64} : ∀ M, shB N V M = false ↔ ∀ p, p < M → spB N V p = false
  | 0 => ⟨fun _ p h => absurd h (Nat.not_lt_zero _), fun _ => rfl⟩
  | M + 1 => by
    show (shB N V M || spB N V M) = false ↔ _
    rw [Bool.or_eq_false_iff, shB_of M]
    exact ⟨fun h p hp => (Nat.lt_succ_iff_lt_or_eq.mp hp).elim (h.1 p) (fun z => z ▸ h.2), fun h => ⟨fun p hp => h p (by omega), h M (by omega)⟩⟩
/-- the class's spell -/
theorem o_spellX (h2 : N ≤ 9) (h1 : 1 ≤ N) {j : Nat} (hj : j < 4) (sl : Int32) (bey : Bool) (sb : Nat → Int32) (wh : Nat → Int64) : ((∃ p, p < N ∧ spB N (G j) p = true) → f_X5_spell (nI N) sl bey sb G wh (nI j) = some (-6, sl, true, sb, fil wh N (shW N (G j)))) ∧ ((∀ p, p < N → spB N (G j) p = false) → ∃ sb', f_X5_spell (nI N) sl bey sb G wh (nI j) = some (nI (spT N (G j) N).2, nI (spT N (G j) N).2, false, sb', fil wh N (shW N (G j))) ∧ Pq sb' (spT N (G j) N).1 (spT N (G j) N).2) := by
  have hj2 : j < 2 ^ 31 := by omega
  obtain ⟨fu, hfu⟩ : ∃ k, k = FU := ⟨_, rfl⟩
  have hfu2 : fu = 100000 := hfu.trans FU_eq
  have base : f_X5_spell (nI N) sl bey sb G wh (nI j) = if (!shB N (G j) N) = true then L_X5_spell_1 (nI N) (!shB N (G j) N, shB N (G j) N, fil wh N (shW N (G j))) (nI (fct N)) fu 0 0 sb else some (-6, sl, shB N (G j) N, sb, fil wh N (shW N (G j))) := by
    rw [f_X5_spell, ← hfu, z_isGame, Option.bind_some, inb_nI hj (by omega), if_pos rfl, z_wholes h2 hj, Option.bind_some]
    cases shB N (G j) N
    · simp only [Bool.not_false, if_true, f_X2_wipe, nm_eq, Option.bind_some]
      rw [z_fac (by omega), Option.bind_some]
    · rfl
  refine ⟨fun ⟨p, hp, hb⟩ => ?_, fun hall => ?_⟩
  · have : shB N (G j) N = true := by
      by_cases z : shB N (G j) N = true
      · exact z
      · have := (shB_of N).mp (by simpa using z) p hp
        rw [hb] at this
        cases this
    rw [base, this]
    rfl
  · have := (shB_of N).mpr hall
    rw [base, this]
    obtain ⟨sb', g1, g2⟩ := z_spell h2 h1 (G j) wh N 0 fu sb (by omega) (by omega) (fun r hr => absurd hr (Nat.not_lt_zero _))
    have g3 : L_X5_spell_1 (nI N) (true, false, fil wh N (shW N (G j))) (nI (fct N)) fu 0 0 sb = some (nI (spT N (G j) N).2, nI (spT N (G j) N).2, false, sb', fil wh N (shW N (G j))) := g1
    exact ⟨sb', by rw [Bool.not_false, if_pos rfl]; exact g3, g2⟩
end PAP
