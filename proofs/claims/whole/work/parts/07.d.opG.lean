/-! PURE PART: kind, alike, carrier, is. -/
-- numbers that go beyond
theorem neg_msb (z : Int64) : (z < 0) = (z.toBitVec.msb = true) := by
  rw [Int64.lt_iff_toInt_lt, Int64.toInt_zero, BitVec.msb_eq_toInt, decide_eq_true_eq]
  rfl
theorem neg_and (x y : Int64) : (x &&& y < 0) = (x < 0 ∧ y < 0) := by
  rw [neg_msb, neg_msb, neg_msb, Int64.toBitVec_and, BitVec.msb_and, Bool.and_eq_true]
theorem neg_xor (x y : Int64) : (x ^^^ y < 0) = ((x < 0) ≠ (y < 0)) := by
  rw [neg_msb, neg_msb, neg_msb, Int64.toBitVec_xor, BitVec.msb_xor]
  cases x.toBitVec.msb <;> cases y.toBitVec.msb <;> simp
theorem add3 (a b : Int64) : (a + b).toInt = a.toInt + b.toInt ∨ (a + b).toInt = a.toInt + b.toInt + 18446744073709551616 ∨ (a + b).toInt = a.toInt + b.toInt - 18446744073709551616 := by
  have ha := i64_rng a
  have hb := i64_rng b
  rw [Int64.toInt_add, Int.bmod_def]
  split <;> omega
theorem sub3 (a b : Int64) : (a - b).toInt = a.toInt - b.toInt ∨ (a - b).toInt = a.toInt - b.toInt + 18446744073709551616 ∨ (a - b).toInt = a.toInt - b.toInt - 18446744073709551616 := by
  have ha := i64_rng a
  have hb := i64_rng b
  rw [Int64.toInt_sub, Int.bmod_def]
  split <;> omega
theorem ov_core {x y z : Prop} [Decidable x] [Decidable y] [Decidable z] : ¬ ((x ≠ z) ∧ (y ≠ z)) ↔ ((x ↔ z) ∨ (y ↔ z)) := by
  by_cases x <;> by_cases y <;> by_cases z <;> simp [*]
theorem ovp_iff (a b : Int64) : ovp a b = false ↔ (a + b).toInt = a.toInt + b.toInt := by
  have ha := i64_rng a
  have hb := i64_rng b
  have hc := i64_rng (a + b)
  have h3 := add3 a b
  rw [ovp, decide_eq_false_iff_not, neg_and, neg_xor, neg_xor, Int64.lt_iff_toInt_lt, Int64.lt_iff_toInt_lt, Int64.lt_iff_toInt_lt, Int64.toInt_zero, ov_core]
  revert ha hb hc h3
  generalize (a + b).toInt = z
  generalize a.toInt = x
  generalize b.toInt = y
  intro ha hb hc h3
  omega
theorem ovm_iff (a b : Int64) : ovm a b = false ↔ (a - b).toInt = a.toInt - b.toInt := by
  have ha := i64_rng a
  have hb := i64_rng b
  have hc := i64_rng (a - b)
  have h3 := sub3 a b
  have e : ∀ p q r : Prop, ¬ ((p ≠ q) ∧ (p ≠ r)) ↔ ((p ↔ q) ∨ (p ↔ r)) := fun p q r => by
    by_cases p <;> by_cases q <;> by_cases r <;> simp [*]
  rw [ovm, decide_eq_false_iff_not, neg_and, neg_xor, neg_xor, Int64.lt_iff_toInt_lt, Int64.lt_iff_toInt_lt, Int64.lt_iff_toInt_lt, Int64.toInt_zero, e]
  revert ha hb hc h3
  generalize (a - b).toInt = z
  generalize a.toInt = x
  generalize b.toInt = y
  intro ha hb hc h3
  omega
/-- what a kind asks of a set -/
def kok (V : Nat → Int64) (a p s : Nat) : Bool := if a = 0 then decide (V (bt s p) = V s) else if a = 1 then decide (V s + V (2 ^ p) = V (bt s p)) && !ovp (V s) (V (2 ^ p)) else decide (V s = 0)
theorem kok1 (V : Nat → Int64) (p s : Nat) : kok V 1 p s = (decide (V s + V (2 ^ p) = V (bt s p)) && !ovp (V s) (V (2 ^ p))) := rfl
theorem kok2 (V : Nat → Int64) (p s : Nat) : kok V 2 p s = decide (V s = 0) := rfl
theorem kok_0 (V : Nat → Int64) (p s : Nat) : (gno V p s = false ∧ gn V p s = 0) ↔ kok V 0 p s = true := by
  rw [kok, if_pos rfl, decide_eq_true_eq, gno, gn, ovm_iff]
  constructor
  · rintro ⟨h1, h2⟩
    rw [h2, Int64.toInt_zero] at h1
    exact Int64.toInt_inj.mp (by omega)
  · intro h
    rw [h]
    have : V s - V s = 0 := Int64.sub_self _
    rw [this, Int64.toInt_zero]
    exact ⟨by omega, rfl⟩
theorem kok_1 (V : Nat → Int64) (p s : Nat) : (gno V p s = false ∧ gn V p s = V (2 ^ p)) ↔ kok V 1 p s = true := by
  rw [kok, if_neg (by decide), if_pos rfl, Bool.and_eq_true, decide_eq_true_eq, Bool.not_eq_true', gno, gn, ovm_iff, ovp_iff]
  constructor
  · rintro ⟨h1, h2⟩
    rw [h2] at h1
    have h3 := add3 (V s) (V (2 ^ p))
    have h4 := i64_rng (V s + V (2 ^ p))
    have h5 := i64_rng (V (bt s p))
    have h6 : (V s + V (2 ^ p)).toInt = (V (bt s p)).toInt := by omega
    exact ⟨Int64.toInt_inj.mp h6, by omega⟩
  · rintro ⟨h1, h2⟩
    rw [h1] at h2
    have h3 := sub3 (V (bt s p)) (V s)
    have h4 := i64_rng (V (bt s p) - V s)
    have h5 := i64_rng (V (2 ^ p))
    have h6 : (V (bt s p) - V s).toInt = (V (2 ^ p)).toInt := by omega
    exact ⟨by omega, Int64.toInt_inj.mp h6⟩
theorem lp_allE {σ τ : Type} {L : Nat → Nat → σ → Option (Bool × τ)} (P : Nat → Bool) (e : Nat) (hx : ∀ m s, ∃ t, L (m + 1) e s = some (true, t)) (hs : ∀ m i s, i < e → if P i = true then ∃ s', L (m + 1) i s = L m (i + 1) s' else ∃ t, L (m + 1) i s = some (false, t)) : ∀ c i m s, i + c = e → c < m → ∃ t, L m i s = some (allF P i c, t)
  | 0, i, m, s, h1, h2 => by
    obtain ⟨m, rfl⟩ : ∃ k, m = k + 1 := ⟨m - 1, by omega⟩
    have : i = e := by omega
    subst this
    exact hx m s
  | c + 1, i, m, s, h1, h2 => by
    obtain ⟨m, rfl⟩ : ∃ k, m = k + 1 := ⟨m - 1, by omega⟩
    have h := hs m i s (by omega)
    cases hp : P i
    · rw [hp, if_neg (by decide)] at h
      obtain ⟨t, ht⟩ := h
      exact ⟨t, by rw [ht, allF, hp]; rfl⟩
    · rw [hp, if_pos rfl] at h
      obtain ⟨s', hs'⟩ := h
      obtain ⟨t, ht⟩ := lp_allE P e hx hs c (i + 1) m s' (by omega) (by omega)
      exact ⟨t, by rw [hs', ht, allF, hp]; rfl⟩
theorem lp_cfE {σ τ α : Type} {L : Nat → Nat → σ → Option (α × τ)} {r : α} (e : Nat) (hx : ∀ m s, ∃ t, L (m + 1) e s = some (r, t)) (hs : ∀ m i s, i < e → ∃ s', L (m + 1) i s = L m (i + 1) s') : ∀ c i m s, i + c = e → c < m → ∃ t, L m i s = some (r, t)
  | 0, i, m, s, h1, h2 => by
    obtain ⟨m, rfl⟩ : ∃ k, m = k + 1 := ⟨m - 1, by omega⟩
    have : i = e := by omega
    subst this
    exact hx m s
  | c + 1, i, m, s, h1, h2 => by
    obtain ⟨m, rfl⟩ : ∃ k, m = k + 1 := ⟨m - 1, by omega⟩
    obtain ⟨s', hs'⟩ := hs m i s (by omega)
    obtain ⟨t, ht⟩ := lp_cfE e hx hs c (i + 1) m s' (by omega) (by omega)
    exact ⟨t, by rw [hs', ht]⟩
/-- the places where it holds, as a set -/
def msk (P : Nat → Bool) : Nat → Nat
  | 0 => 0
  | i + 1 => if P i = true then msk P i ||| 2 ^ i else msk P i
section OPG
variable {N : Nat} {n nd es : Int32} {wt un ed : Nat → Int32} {G : Nat → Nat → Int64} {g : Nat → Int64}
def kdp (N : Nat) (V : Nat → Int64) (a p : Nat) : Bool := allF (fun s => s.testBit p || kok V a p s) 0 (2 ^ N)
theorem z_addsAlways (hN : N ≤ 9) {p : Nat} (hp : p < N) (V : Nat → Int64) (x : Int64) (P : Nat → Bool) (hP : ∀ s, (gno V p s = false ∧ gn V p s = x) ↔ P s = true) (b : Bool) : ∃ t, f_X5_addsAlways (nI N) b V (nI p) x = some (allF (fun s => s.testBit p || P s) 0 (2 ^ N), t) := by
  have hpw := pw_le hN
  refine lp_allE (L := fun m i s => L_X5_addsAlways_1 (nI N) V (nI p) x _ m (nI i) s) (fun s => s.testBit p || P s) (2 ^ N) (fun m s => ?_) (fun m i s hi => ?_) (2 ^ N) 0 FU b (by omega) (by rw [FU_eq]; omega)
  · refine ⟨s, ?_⟩
    show B_X5_addsAlways_1 _ _ _ _ _ _ _ _ = _
    rw [B_X5_addsAlways_1, z_sets hN, Option.bind_some, if_neg (by rw [ltI (by omega) (by omega)]; omega)]
  · have e : L_X5_addsAlways_1 (nI N) V (nI p) x (fun (bey12 : Bool) => some (false, bey12)) (m + 1) (nI i) s = if i.testBit p = true then L_X5_addsAlways_1 (nI N) V (nI p) x (fun (bey12 : Bool) => some (false, bey12)) m (nI (i + 1)) s else if gno V p i = true then some (false, gno V p i) else if gn V p i = x then L_X5_addsAlways_1 (nI N) V (nI p) x (fun (bey12 : Bool) => some (false, bey12)) m (nI (i + 1)) (gno V p i) else some (false, gno V p i) := by
      show B_X5_addsAlways_1 _ _ _ _ _ _ _ _ = _
      rw [B_X5_addsAlways_1, z_sets hN, Option.bind_some, if_pos (by rw [ltI (by omega) (by omega)]; omega), z_has (by omega) (by omega), Option.bind_some]
      simp only [jn1_eq, nm_eq, nI_1, f_X1_begin, Option.bind_some]
      rw [z_addedBy hN hp hi, Option.bind_some, Bool.false_or]
    have hh := hP i
    cases c : i.testBit p
    · rw [c, if_neg (by decide)] at e
      cases d : gno V p i
      · rw [d, if_neg (by decide)] at e
        by_cases f : gn V p i = x
        · rw [if_pos f] at e
          rw [hh.mp ⟨d, f⟩, if_pos (show (false || true) = true from rfl)]
          exact ⟨_, e⟩
        · rw [if_neg f] at e
          have : P i = false := by
            cases hq : P i
            · rfl
            · exact absurd (hh.mpr hq).2 f
          rw [this, if_neg (by decide)]
          exact ⟨_, e⟩
      · rw [d, if_pos rfl] at e
        have : P i = false := by
          cases hq : P i
          · rfl
          · exact absurd (hh.mpr hq).1 (by rw [d]; decide)
        rw [this, if_neg (by decide)]
        exact ⟨_, e⟩
    · rw [c, if_pos rfl] at e
      rw [Bool.true_or, if_pos rfl]
      exact ⟨_, e⟩
theorem z_isOfKind (hN : N ≤ 9) {p a : Nat} (hp : p < N) (ha : a < 3) (V : Nat → Int64) (b : Bool) : ∃ t, f_X5_isOfKind (nI N) b V (nI p) (nI a) = some (kdp N V a p, t) := by
  have hpw := pw_le hN
  have h2 : 2 ^ p < 2 ^ N := Nat.pow_lt_pow_right (by omega) hp
  have ea0 : (nI a = 0) = (a = 0) := eqI (a := a) (b := 0) (by omega) (by omega)
  have ea1 : (nI a = 1) = (a = 1) := eqI (a := a) (b := 1) (by omega) (by omega)
  simp only [f_X5_isOfKind, ea0, ea1]
  have : a = 0 ∨ a = 1 ∨ a = 2 := by omega
  rcases this with e | e | e
  · subst e
    obtain ⟨t, ht⟩ := z_addsAlways hN hp V 0 (kok V 0 p) (kok_0 V p) b
    rw [if_pos rfl, ht]
    exact ⟨_, rfl⟩
  · subst e
    obtain ⟨t, ht⟩ := z_addsAlways hN hp V (V (2 ^ p)) (kok V 1 p) (kok_1 V p) b
    rw [if_neg (by decide), if_pos rfl, shl_pw (by omega), ck_nI (by omega) (by omega), nI_clamp (by omega), ht]
    exact ⟨_, rfl⟩
  · subst e
    rw [if_neg (by decide), if_neg (by decide)]
    have hv : f_X5_hasVeto (nI N) V (nI p) = some (kdp N V 2 p) := by
      refine (lp_all (L := fun m i => L_X5_hasVeto_1 (nI N) V (nI p) m (nI i)) (K := some true) (R := some false) (fun s => s.testBit p || kok V 2 p s) (2 ^ N) (fun m => ?_) (fun m i hi => ?_) (2 ^ N) 0 FU (by omega) (by rw [FU_eq]; omega)).trans ?_
      · show B_X5_hasVeto_1 _ _ _ _ _ = _
        rw [B_X5_hasVeto_1, z_sets hN, Option.bind_some, if_neg (by rw [ltI (by omega) (by omega)]; omega)]
      · show B_X5_hasVeto_1 _ _ _ _ _ = _
        rw [B_X5_hasVeto_1, z_sets hN, Option.bind_some, if_pos (by rw [ltI (by omega) (by omega)]; omega), z_has (by omega) (by omega), Option.bind_some]
        simp only [jn0_eq, nm_eq, nI_1]
        rw [ck_nI (by omega) (by omega), nI_clamp (by omega)]
        cases c : i.testBit p
        · by_cases d : V i = 0 <;> simp [kok, d]
        · simp
      · unfold kdp
        cases allF (fun s => s.testBit p || kok V 2 p s) 0 (2 ^ N) <;> rfl
    rw [hv]
    exact ⟨_, rfl⟩
theorem RG.kokM (R : RG N n nd es wt un ed G g) {j p a s : Nat} (hj : j < 4) (hp : p < N) (ha : a < 3) (hs : s < 2 ^ N) (b : Bool) : ∃ t, f_X6_isOfKind b g (nI j) (nI p) (nI a) (nI s) = some (kok (G j) a p s, t) := by
  have hN := R.1.2.1
  have h2 : 2 ^ p < 2 ^ N := Nat.pow_lt_pow_right (by omega) hp
  have h3 := bt_lt hs hp
  have ea0 : (nI a = 0) = (a = 0) := eqI (a := a) (b := 0) (by omega) (by omega)
  have ea2 : (nI a = 2) = (a = 2) := eqI (a := a) (b := 2) (by omega) (by omega)
  rw [f_X6_isOfKind, shl_pw (by omega), nI_or]
  change ∃ t, Option.bind (f_X6_v g (nI j) (nI (bt s p))) _ = _
  rw [R.v hj h3, Option.bind_some, R.v hj h2, Option.bind_some, R.v hj hs]
  simp only [ea0, ea2, Option.bind_some, nm_eq, z_plusM, jn0_eq]
  have : a = 0 ∨ a = 1 ∨ a = 2 := by omega
  rcases this with e | e | e
  · subst e
    rw [if_neg (by decide), if_pos rfl]
    by_cases d : G j (bt s p) = G j s
    · exact ⟨_, by rw [if_pos d, kok, if_pos rfl, decide_eq_true d]⟩
    · exact ⟨_, by rw [if_neg d, kok, if_pos rfl, decide_eq_false d]⟩
  · subst e
    rw [if_neg (by decide), if_neg (by decide), kok1]
    by_cases d : G j s + G j (2 ^ p) = G j (bt s p)
    · rw [if_pos d, decide_eq_true d]
      cases ovp (G j s) (G j (2 ^ p))
      · exact ⟨_, rfl⟩
      · exact ⟨_, rfl⟩
    · rw [if_neg d, decide_eq_false d]
      exact ⟨_, rfl⟩
  · subst e
    rw [if_pos rfl, kok2]
    by_cases d : G j s = 0
    · rw [if_pos d, decide_eq_true d]
      exact ⟨_, rfl⟩
    · rw [if_neg d, decide_eq_false d]
      exact ⟨_, rfl⟩
theorem z_isKind (R : RG N n nd es wt un ed G g) {j p a : Nat} (hj : j < 4) (hp : p < N) (ha : a < 3) (b : Bool) : ∃ t, f_X6_isKind b g (nI j) (nI p) (nI a) = some (kdp N (G j) a p, t) := by
  have hN := R.1.2.1
  have hpw := pw_le hN
  have hp1 := pw_pos N
  refine lp_allE (L := fun m i s => L_X6_isKind_1 g (nI j) (nI p) (nI a) m (nI i) s) (fun s => s.testBit p || kok (G j) a p s) (2 ^ N) (fun m s => ?_) (fun m i s hi => ?_) (2 ^ N) 0 FU b (by omega) (by rw [FU_eq]; omega)
  · refine ⟨s, ?_⟩
    show B_X6_isKind_1 _ _ _ _ _ _ _ = _
    rw [B_X6_isKind_1, R.all, Option.bind_some, if_pos (by rw [ltI (by omega) (by omega)]; omega)]
  · obtain ⟨t, ht⟩ := R.kokM hj hp ha hi s
    have e : L_X6_isKind_1 g (nI j) (nI p) (nI a) (m + 1) (nI i) s = if i.testBit p = true then L_X6_isKind_1 g (nI j) (nI p) (nI a) m (nI (i + 1)) s else if kok (G j) a p i = true then L_X6_isKind_1 g (nI j) (nI p) (nI a) m (nI (i + 1)) t else some (false, t) := by
      show B_X6_isKind_1 _ _ _ _ _ _ _ = _
      rw [B_X6_isKind_1, R.all, Option.bind_some, if_neg (by rw [ltI (by omega) (by omega)]; omega), z_hasM (by omega) (by omega), Option.bind_some]
      simp only [jn1_eq, nm_eq, nI_1]
      rw [ht, Option.bind_some]
    cases c : i.testBit p
    · rw [c, if_neg (by decide)] at e
      cases d : kok (G j) a p i
      · rw [d, if_neg (by decide)] at e
        exact ⟨_, e⟩
      · rw [d, if_pos rfl] at e
        exact ⟨_, e⟩
    · rw [c, if_pos rfl] at e
      rw [Bool.true_or, if_pos rfl]
      exact ⟨_, e⟩
theorem z_rng2b {ρ : Type} (a : Int32) {x y : ρ} : (if a < 0 then x else if 2 < a then x else y) = if inb a 3 = true then y else x := by
  have := z_rng2 (n := 2) (a := a) (by omega) (x := x) (y := y)
  exact this
theorem o_kind (R : RG N n nd es wt un ed G g) (bey isB : Bool) (a1 a2 : Int32) : ∃ r b1 b2, f_X5_kind n bey G a1 a2 = some (r, b1) ∧ f_X6_kind isB g a1 a2 = some (r, b2) := by
  obtain ⟨h1, h2, h3, h4⟩ := id R.1
  subst h3
  rw [f_X5_kind, f_X6_kind, z_isGame, z_isGameM, Option.bind_some, Option.bind_some, z_rng2b, show (2 : Int64) = (nI 2).toInt64 from rfl, z_inI a2 (by omega), Option.bind_some]
  by_cases c0 : inb a1 4 = true
  · rw [if_pos c0, if_pos c0]
    by_cases c1 : inb a2 (2 + 1) = true
    · rw [if_pos c1, if_pos c1]
      obtain ⟨j, hj, hj2, rfl⟩ := inb_of c0
      obtain ⟨a, ha, ha2, rfl⟩ := inb_of c1
      obtain ⟨b1, e1⟩ : ∃ t, L_X5_kind_1 (nI N) G (nI j) (nI a) FU 0 0 bey = some (nI (msk (kdp N (G j) a) N), t) := by
        refine lp_cfE (L := fun m i s => L_X5_kind_1 (nI N) G (nI j) (nI a) m (nI (msk (kdp N (G j) a) i)) (nI i) s) N (fun m s => ?_) (fun m i s hi => ?_) N 0 FU bey (by omega) (by rw [FU_eq]; omega)
        · refine ⟨s, ?_⟩
          show B_X5_kind_1 _ _ _ _ _ _ _ _ = _
          rw [B_X5_kind_1, if_neg (by rw [ltI (by omega) (by omega)]; omega)]
        · obtain ⟨t, ht⟩ := z_isOfKind h2 hi ha (G j) s
          refine ⟨t, ?_⟩
          show B_X5_kind_1 _ _ _ _ _ _ _ _ = _
          rw [B_X5_kind_1, if_pos (by rw [ltI (by omega) (by omega)]; omega), ck_nI hj (by omega), nI_clamp hj2, ht, Option.bind_some]
          simp only [jn1_eq, nm_eq, nI_1, shl_pw (show i ≤ 9 by omega), nI_or, msk]
          cases kdp N (G j) a i <;> rfl
      obtain ⟨b2, e2⟩ : ∃ t, L_X6_kind_1 g (nI j) (nI a) FU 0 0 isB = some (nI (msk (kdp N (G j) a) N), t) := by
        refine lp_cfE (L := fun m i s => L_X6_kind_1 g (nI j) (nI a) m (nI (msk (kdp N (G j) a) i)) (nI i) s) N (fun m s => ?_) (fun m i s hi => ?_) N 0 FU isB (by omega) (by rw [FU_eq]; omega)
        · refine ⟨s, ?_⟩
          show B_X6_kind_1 _ _ _ _ _ _ _ = _
          rw [B_X6_kind_1, z_nM h4, Option.bind_some, if_neg (by rw [ltI (by omega) (by omega)]; omega)]
        · obtain ⟨t, ht⟩ := z_isKind R hj hi ha s
          refine ⟨t, ?_⟩
          show B_X6_kind_1 _ _ _ _ _ _ _ = _
          rw [B_X6_kind_1, z_nM h4, Option.bind_some, if_pos (by rw [ltI (by omega) (by omega)]; omega), ht, Option.bind_some]
          simp only [jn1_eq, nm_eq, nI_1, shl_pw (show i ≤ 9 by omega), nI_or, msk, nI_zero, Nat.or_zero]
          cases kdp N (G j) a i <;> rfl
      exact ⟨_, _, _, e1, e2⟩
    · rw [if_neg c1, if_neg c1]
      exact ⟨_, _, _, rfl, rfl⟩
  · rw [if_neg c0, if_neg c0]
    exact ⟨_, _, _, rfl, rfl⟩
theorem o_carrier (R : RG N n nd es wt un ed G g) (bey isB : Bool) (a1 : Int32) : ∃ r b1 b2, f_X5_carrier n bey G a1 = some (r, b1) ∧ f_X6_carrier isB g a1 = some (r, b2) := by
  obtain ⟨r, b1, b2, e1, e2⟩ := o_kind R bey isB a1 0
  obtain ⟨h1, h2, h3, h4⟩ := id R.1
  subst h3
  rw [f_X5_carrier, f_X6_carrier, z_isGame, z_isGameM, Option.bind_some, Option.bind_some, z_every h2, R.all, Option.bind_some, Option.bind_some, e1, e2, Option.bind_some, Option.bind_some]
  by_cases c0 : inb a1 4 = true
  · rw [if_pos c0, if_pos c0]
    exact ⟨_, _, _, rfl, rfl⟩
  · rw [if_neg c0, if_neg c0]
    exact ⟨_, _, _, rfl, rfl⟩
def alk (N : Nat) (V : Nat → Int64) (p q : Nat) : Bool := allF (fun s => s.testBit p || (s.testBit q || decide (V (bt s p) = V (bt s q)))) 0 (2 ^ N)
theorem o_alike (R : RG N n nd es wt un ed G g) (a1 a2 : Int32) : ∃ r, f_X5_alike n G a1 a2 = some r ∧ f_X6_alike g a1 a2 = some r := by
  obtain ⟨h1, h2, h3, h4⟩ := id R.1
  subst h3
  have hpw := pw_le h2
  have hp1 := pw_pos N
  rw [f_X5_alike, f_X6_alike, z_isGame, z_isGameM, Option.bind_some, Option.bind_some, z_hasPartner h2, z_isPartnerM h4 h1 h2, Option.bind_some, Option.bind_some]
  by_cases c0 : inb a1 4 = true
  · rw [if_pos c0, if_pos c0]
    by_cases c1 : inb a2 N = true
    · rw [if_pos c1, if_pos c1]
      obtain ⟨j, hj, hj2, rfl⟩ := inb_of c0
      obtain ⟨p, hp, hp2, rfl⟩ := inb_of c1
      have eA : ∀ q, q < N → f_X5_areAlike (nI N) (G j) (nI p) (nI q) = some (alk N (G j) p q) := fun q hq => by
        refine (lp_all (L := fun m i => L_X5_areAlike_1 (nI N) (G j) (nI p) (nI q) m (nI i)) (K := some true) (R := some false) (fun s => s.testBit p || (s.testBit q || decide (G j (bt s p) = G j (bt s q)))) (2 ^ N) (fun m => ?_) (fun m i hi => ?_) (2 ^ N) 0 FU (by omega) (by rw [FU_eq]; omega)).trans ?_
        · show B_X5_areAlike_1 _ _ _ _ _ _ = _
          rw [B_X5_areAlike_1, z_sets h2, Option.bind_some, if_neg (by rw [ltI (by omega) (by omega)]; omega)]
        · show B_X5_areAlike_1 _ _ _ _ _ _ = _
          have b1 := bt_lt hi hp
          have b2 := bt_lt hi hq
          rw [B_X5_areAlike_1, z_sets h2, Option.bind_some, if_pos (by rw [ltI (by omega) (by omega)]; omega), z_has (by omega) (by omega), Option.bind_some, z_has (by omega) (by omega)]
          simp only [jn0_eq, nm_eq, nI_1, Option.bind_some]
          rw [shl_pw (by omega), shl_pw (by omega), nI_or, nI_or]
          change (if i.testBit p = true then _ else if i.testBit q = true then _ else ck (inb (nI (bt i p)) 512) (ck (inb (nI (bt i q)) 512) (if G j (nI (bt i p)).toNatClampNeg = G j (nI (bt i q)).toNatClampNeg then _ else _))) = _
          rw [ck_nI (by omega) (by omega), ck_nI (by omega) (by omega), nI_clamp (by omega), nI_clamp (by omega)]
          cases i.testBit p <;> cases i.testBit q <;> by_cases d : G j (bt i p) = G j (bt i q) <;> simp [d]
        · unfold alk
          cases allF (fun s => s.testBit p || (s.testBit q || decide (G j (bt s p) = G j (bt s q)))) 0 (2 ^ N) <;> rfl
      have eM : ∀ q, q < N → f_X6_isAlike g (nI j) (nI p) (nI q) = some (alk N (G j) p q) := fun q hq => by
        refine (lp_all (L := fun m i => L_X6_isAlike_1 g (nI j) (nI p) (nI q) m (nI i)) (K := some true) (R := some false) (fun s => s.testBit p || (s.testBit q || decide (G j (bt s p) = G j (bt s q)))) (2 ^ N) (fun m => ?_) (fun m i hi => ?_) (2 ^ N) 0 FU (by omega) (by rw [FU_eq]; omega)).trans ?_
        · show B_X6_isAlike_1 _ _ _ _ _ _ = _
          rw [B_X6_isAlike_1, R.all, Option.bind_some, if_pos (by rw [ltI (by omega) (by omega)]; omega)]
        · show B_X6_isAlike_1 _ _ _ _ _ _ = _
          have b1 := bt_lt hi hp
          have b2 := bt_lt hi hq
          have v1 := R.v hj b1
          have v2 := R.v hj b2
          rw [bt] at v1 v2
          rw [B_X6_isAlike_1, R.all, Option.bind_some, if_neg (by rw [ltI (by omega) (by omega)]; omega), z_hasM (by omega) (by omega), Option.bind_some, z_hasM (by omega) (by omega), shl_pw (by omega), shl_pw (by omega), nI_or, nI_or, v1]
          simp only [jn0_eq, nm_eq, nI_1, Option.bind_some]
          rw [v2, Option.bind_some]
          change (if i.testBit p = true then _ else if i.testBit q = true then _ else if G j (bt i p) = G j (bt i q) then _ else _) = _
          cases i.testBit p <;> cases i.testBit q <;> by_cases d : G j (bt i p) = G j (bt i q) <;> simp [d]
        · unfold alk
          cases allF (fun s => s.testBit p || (s.testBit q || decide (G j (bt s p) = G j (bt s q)))) 0 (2 ^ N) <;> rfl
      refine ⟨nI (msk (alk N (G j) p) N), ?_, ?_⟩
      · refine lp_cf (L := fun m i => L_X5_alike_1 (nI N) G (nI j) (nI p) m (nI (msk (alk N (G j) p) i)) (nI i)) N (fun m => ?_) (fun m i hi => ?_) N 0 FU (by omega) (by rw [FU_eq]; omega)
        · show B_X5_alike_1 _ _ _ _ _ _ _ = _
          rw [B_X5_alike_1, if_neg (by rw [ltI (by omega) (by omega)]; omega)]
        · show B_X5_alike_1 _ _ _ _ _ _ _ = _
          rw [B_X5_alike_1, if_pos (by rw [ltI (by omega) (by omega)]; omega), ck_nI hj (by omega), nI_clamp hj2, eA i hi, Option.bind_some]
          simp only [jn1_eq, nm_eq, nI_1, shl_pw (show i ≤ 9 by omega), nI_or, msk]
          cases alk N (G j) p i <;> rfl
      · refine lp_cf (L := fun m i => L_X6_alike_1 g (nI j) (nI p) m (nI (msk (alk N (G j) p) i)) (nI i)) N (fun m => ?_) (fun m i hi => ?_) N 0 FU (by omega) (by rw [FU_eq]; omega)
        · show B_X6_alike_1 _ _ _ _ _ _ = _
          rw [B_X6_alike_1, z_nM h4, Option.bind_some, if_neg (by rw [ltI (by omega) (by omega)]; omega)]
        · show B_X6_alike_1 _ _ _ _ _ _ = _
          rw [B_X6_alike_1, z_nM h4, Option.bind_some, if_pos (by rw [ltI (by omega) (by omega)]; omega), eM i hi, Option.bind_some]
          simp only [jn1_eq, nm_eq, nI_1, shl_pw (show i ≤ 9 by omega), nI_or, msk, nI_zero, Nat.or_zero]
          cases alk N (G j) p i <;> rfl
    · rw [if_neg c1, if_neg c1]
      exact ⟨_, rfl, rfl⟩
  · rw [if_neg c0, if_neg c0]
    exact ⟨_, rfl, rfl⟩
end OPG
