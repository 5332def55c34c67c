/-! PURE PART: value, valueOf, weight, quota, edge, cut, worth. -/
section OP1
variable {N : Nat} {n nd es : Int32} {wt un ed : Nat → Int32} {G : Nat → Nat → Int64} {g : Nat → Int64}
theorem o_value (R : RG N n nd es wt un ed G g) (a1 a2 : Int32) (a3 : Int64) : ∃ r G' g', f_X5_value n G a1 a2 a3 = some (r, G') ∧ f_X6_value g a1 a2 a3 = some (r, g') ∧ RG N n nd es wt un ed G' g' := by
  obtain ⟨h1, h2, h3, h4⟩ := R.1
  have hp := pw_le h2
  subst h3
  simp only [f_X5_value, f_X6_value, z_isGame, z_isGameM, z_hasSet h2, z_isSetM h4 h2, z_told, z_isIn, Option.bind_some, nm_eq]
  by_cases c1 : inb a1 4 = true
  · by_cases c2 : inb a2 (2 ^ N) = true
    · simp only [if_pos c1, if_pos c2]
      by_cases c3 : a2 = 0
      · simp only [if_pos c3]
        exact ⟨_, _, _, rfl, rfl, R⟩
      · simp only [if_neg c3]
        by_cases c4 : (decide ((-1000000000000) ≤ a3) && decide (a3 ≤ 1000000000000)) = true
        · simp only [if_pos c4]
          obtain ⟨j, hj, hj2, rfl⟩ := inb_of c1
          obtain ⟨s, hs, hs2, rfl⟩ := inb_of c2
          have h0 : s ≠ 0 := fun z => c3 (by rw [z]; rfl)
          rw [ck_nI hj (by omega), ck_nI (n := 512) (by omega) (by omega), z_vix hj (by omega), ck_nI (by omega) (by omega), nI_clamp hj2, nI_clamp hs2, nI_clamp (by omega)]
          exact ⟨_, _, _, rfl, rfl, R.setV hj hs h0 a3⟩
        · simp only [if_neg c4]
          exact ⟨_, _, _, rfl, rfl, R⟩
    · simp only [if_pos c1, if_neg c2]
      exact ⟨_, _, _, rfl, rfl, R⟩
  · simp only [if_neg c1]
    exact ⟨_, _, _, rfl, rfl, R⟩
theorem o_valueOf (R : RG N n nd es wt un ed G g) (a1 a2 : Int32) : ∃ r, f_X5_valueOf n G a1 a2 = some r ∧ f_X6_valueOf g a1 a2 = some r := by
  obtain ⟨h1, h2, h3, h4⟩ := R.1
  have hp := pw_le h2
  subst h3
  simp only [f_X5_valueOf, f_X6_valueOf, z_isGame, z_isGameM, z_hasSet h2, z_isSetM h4 h2, Option.bind_some, jn0_eq]
  by_cases c1 : inb a1 4 = true
  · by_cases c2 : inb a2 (2 ^ N) = true
    · simp only [if_pos c1, if_pos c2]
      obtain ⟨j, hj, hj2, rfl⟩ := inb_of c1
      obtain ⟨s, hs, hs2, rfl⟩ := inb_of c2
      rw [ck_nI hj (by omega), ck_nI (n := 512) (by omega) (by omega), nI_clamp hj2, nI_clamp hs2, z_v hj (by omega), Option.bind_some]
      exact ⟨_, rfl, by rw [R.2.2.2.2.2.2.1 j hj s hs]⟩
    · simp only [if_pos c1, if_neg c2]
      exact ⟨_, rfl, rfl⟩
  · simp only [if_neg c1]
    exact ⟨_, rfl, rfl⟩
theorem z_becomes {k : Nat} (hk : k < 2231) (v : Int64) : f_X6_becomes g (nI k) v = some ((g k).toInt32, vp_updL g k v) := by
  simp only [f_X6_becomes, nm_eq]
  rw [ck_nI hk (by omega), ck_nI hk (by omega), nI_clamp (by omega)]
/-- a number from 0 to n, told as the class tells it -/
theorem z_rng2 {ρ : Type} {a : Int32} {n : Nat} (hn : n + 1 < 2 ^ 31) {x y : ρ} : (if a < 0 then x else if nI n < a then x else y) = if inb a (n + 1) = true then y else x := by
  rcases i32_cases a with h | ⟨k, hk, rfl⟩
  · rw [if_pos h, inb_neg _ h]; rfl
  · rw [if_neg (nI_pos hk), inb_eq hk]
    simp only [ltI (show n < 2 ^ 31 by omega) hk, decide_eq_true_eq]
    by_cases c : n < k
    · rw [if_pos c, if_neg (by omega)]
    · rw [if_neg c, if_pos (by omega)]
theorem o_weight (R : RG N n nd es wt un ed G g) (a1 a2 : Int32) : ∃ r wt' g', f_X5_weight n wt a1 a2 = some (r, wt') ∧ f_X6_weight g a1 a2 = some (r, g') ∧ RG N n nd es wt' un ed G g' := by
  obtain ⟨h1, h2, h3, h4⟩ := R.1
  subst h3
  simp only [f_X5_weight, f_X6_weight, z_hasPartner h2, z_isPartnerM h4 h1 h2, Option.bind_some, nm_eq]
  rw [show (1000 : Int32) = nI 1000 from rfl, show (1000 : Int64) = (nI 1000).toInt64 from rfl, z_rng2 (by omega), z_inI a2 (by omega), Option.bind_some]
  by_cases c1 : inb a1 N = true
  · simp only [if_pos c1]
    by_cases c2 : inb a2 (1000 + 1) = true
    · simp only [if_pos c2]
      obtain ⟨p, hj, hj2, rfl⟩ := inb_of c1
      obtain ⟨v, hs, hs2, rfl⟩ := inb_of c2
      rw [show (3 : Int32) = nI 3 from rfl, nI_add, z_becomes (by omega), Option.bind_some, ck_nI (n := 9) (by omega) (by omega), ck_nI (n := 9) (by omega) (by omega), nI_clamp hj2, nI_l hs2]
      obtain ⟨W, hW⟩ := R.2.2.2.1
      obtain ⟨w1, w2, w3⟩ := hW p (by omega)
      exact ⟨wt p, _, _, rfl, by rw [w3, w2, lN_i], R.setW (by omega) (by omega)⟩
    · simp only [if_neg c2]
      exact ⟨_, _, _, rfl, rfl, R⟩
  · simp only [if_neg c1]
    exact ⟨_, _, _, rfl, rfl, R⟩
theorem o_quota (R : RG N n nd es wt un ed G g) (a1 a2 : Int32) : ∃ r nd' es' g', f_X5_quota nd es a1 a2 = some (r, nd', es') ∧ f_X6_quota g a1 a2 = some (r, g') ∧ RG N n nd' es' wt un ed G g' := by
  simp only [f_X5_quota, f_X6_quota, jn0_eq, jn1_eq, nm_eq]
  rw [show (9999 : Int32) = nI 9999 from rfl, show (9999 : Int64) = (nI 9999).toInt64 from rfl, show (1 : Int64) = (nI 1).toInt64 from rfl, z_inI a1 (by omega), z_inI a2 (by omega), z_rng2 (by omega), Option.bind_some, Option.bind_some]
  have e1 : inb a1 (1 + 1) = decide (a1 = 0 ∨ a1 = 1) := by
    rcases i32_cases a1 with h | ⟨k, hk, rfl⟩
    · rw [inb_neg _ h]
      have h0 : ¬ a1 = 0 := fun z => by rw [z] at h; exact absurd h (by decide)
      have h1 : ¬ a1 = 1 := fun z => by rw [z] at h; exact absurd h (by decide)
      simp [h0, h1]
    · rw [inb_eq hk, nI_zero, nI_one]
      simp only [eqI hk (show 0 < 2 ^ 31 by omega), eqI hk (show 1 < 2 ^ 31 by omega)]
      congr 1
      exact propext (by omega)
  by_cases c0 : a1 = 0
  · subst c0
    simp only [e1, true_or, decide_true, if_true]
    by_cases c2 : inb a2 (9999 + 1) = true
    · simp only [if_pos c2]
      obtain ⟨v, hs, hs2, rfl⟩ := inb_of c2
      obtain ⟨Q, q1, q2, q3⟩ := R.2.1
      rw [show (1 : Int32) + 0 = nI 1 from rfl, z_becomes (by omega), Option.bind_some, nI_l hs2]
      exact ⟨nd, _, _, _, rfl, by rw [q3, q2, lN_i], R.setQ (by omega)⟩
    · simp only [if_neg c2]
      exact ⟨_, _, _, _, rfl, rfl, R⟩
  · by_cases c1 : a1 = 1
    · subst c1
      simp only [e1, or_true, decide_true, if_true, if_neg c0]
      by_cases c2 : inb a2 (9999 + 1) = true
      · simp only [if_pos c2]
        obtain ⟨v, hs, hs2, rfl⟩ := inb_of c2
        obtain ⟨Q, q1, q2, q3⟩ := R.2.2.1
        rw [show (1 : Int32) + 1 = nI 2 from rfl, z_becomes (by omega), Option.bind_some, nI_l hs2]
        exact ⟨es, _, _, _, rfl, by rw [q3, q2, lN_i], R.setE (by omega)⟩
      · simp only [if_neg c2]
        exact ⟨_, _, _, _, rfl, rfl, R⟩
    · simp only [e1, c0, c1, or_self, decide_false, if_false]
      exact ⟨_, _, _, _, rfl, rfl, R⟩
theorem two_of {a b : Int32} {N : Nat} (h : two a b N = true) : ∃ i j : Nat, i < N ∧ j < N ∧ i < 2 ^ 31 ∧ j < 2 ^ 31 ∧ i ≠ j ∧ a = nI i ∧ b = nI j := by
  simp only [two, Bool.and_eq_true, decide_eq_true_eq] at h
  obtain ⟨i, h1, h2, rfl⟩ := inb_of h.1.1
  obtain ⟨j, h3, h4, rfl⟩ := inb_of h.1.2
  exact ⟨i, j, h1, h3, h2, h4, fun z => h.2 (by rw [z]), rfl, rfl⟩
theorem z_rngE {ρ : Type} (a : Int32) {x y : ρ} : (if a < -9999 then x else if 9999 < a then x else y) = if (decide ((-9999) ≤ a.toInt64) && decide (a.toInt64 ≤ 9999)) = true then y else x := by
  have e1 : ((-9999) ≤ a.toInt64) = (-9999 ≤ a.toInt) := propext (by rw [Int64.le_iff_toInt_le, toI_toL]; rfl)
  have e2 : (a.toInt64 ≤ 9999) = (a.toInt ≤ 9999) := propext (by rw [Int64.le_iff_toInt_le, toI_toL]; rfl)
  have e3 : (a < -9999) = (a.toInt < -9999) := propext (by rw [Int32.lt_iff_toInt_lt]; rfl)
  have e4 : (9999 < a) = (9999 < a.toInt) := propext (by rw [Int32.lt_iff_toInt_lt]; rfl)
  simp only [e1, e2, e3, e4, Bool.and_eq_true, decide_eq_true_eq]
  by_cases c : a.toInt < -9999
  · rw [if_pos c, if_neg (by omega)]
  · rw [if_neg c]
    by_cases d : 9999 < a.toInt
    · rw [if_pos d, if_neg (by omega)]
    · rw [if_neg d, if_pos (by omega)]
theorem o_edge (R : RG N n nd es wt un ed G g) (a1 a2 a3 : Int32) : ∃ r ed' g', f_X5_edge n ed a1 a2 a3 = some (r, ed') ∧ f_X6_edge g a1 a2 a3 = some (r, g') ∧ RG N n nd es wt un ed' G g' := by
  obtain ⟨h1, h2, h3, h4⟩ := R.1
  subst h3
  simp only [f_X5_edge, f_X6_edge, z_hasTwo h2, z_isTwoM h4 h1 h2, z_isIn, Option.bind_some, nm_eq, jn0_eq, jn1_eq, z_rngE]
  by_cases c1 : two a1 a2 N = true
  · simp only [if_pos c1]
    by_cases c2 : (decide ((-9999) ≤ a3.toInt64) && decide (a3.toInt64 ≤ 9999)) = true
    · simp only [if_pos c2]
      obtain ⟨i, j, hi, hj, hi2, hj2, hne, rfl, rfl⟩ := two_of c1
      have he : epl i j < 81 := epl_lt (by omega) (by omega)
      simp only [z_edgePlace (show i < 9 by omega) (show j < 9 by omega), z_edgeOf (show i < 9 by omega) (show j < 9 by omega), Option.bind_some]
      generalize epl i j = e at he
      rw [show (21 : Int32) = nI 21 from rfl, show (102 : Int32) = nI 102 from rfl, nI_add, nI_add]
      simp only [ck_nI he (show 81 < 2 ^ 31 by omega), ck_nI (show 21 + e < 2231 by omega) (show 2231 < 2 ^ 31 by omega), ck_nI (show 102 + e < 2231 by omega) (show 2231 < 2 ^ 31 by omega), nI_clamp (show e < 2 ^ 31 by omega), nI_clamp (show 21 + e < 2 ^ 31 by omega), nI_clamp (show 102 + e < 2 ^ 31 by omega)]
      have c2' : (-9999 : Int) ≤ a3.toInt ∧ a3.toInt ≤ 9999 := by
        simp only [Bool.and_eq_true, decide_eq_true_eq, Int64.le_iff_toInt_le, toI_toL] at c2
        exact c2
      have hne3 : ¬ a3 = 10000 := fun z => by
        have := c2'.2
        rw [z] at this
        exact absurd this (by decide)
      have hrel : ∀ x : Int32, RG N (nI N) nd es wt un (upd ed e a3) G (vp_updL (vp_updL g (21 + e) 1) (102 + e) a3.toInt64) := fun _ => R.setEd he (fun k k1 k2 => by rw [pk_uLn k2, pk_uLn k1]) (Or.inr ⟨hne3, by rw [pk_uLn (by omega), pk_uLs], pk_uLs, c2'.1, c2'.2⟩)
      have hold := R.2.2.2.2.2.1 e he
      rcases hold with ⟨e1, e2⟩ | ⟨e1, e2, e3, -⟩
      · have : ¬ ed e = a3 := fun z => hne3 (z.symm.trans e1)
        have q0 : ¬ (0 : Int64) = 1 := by decide
        simp only [if_neg this, e2, if_neg q0, Bool.false_eq_true, if_false]
        exact ⟨_, _, _, rfl, rfl, hrel 0⟩
      · simp only [e2, e3, if_true]
        by_cases c3 : ed e = a3
        · subst c3
          simp only [if_true]
          exact ⟨_, _, _, rfl, rfl, hrel 0⟩
        · have : ¬ (ed e).toInt64 = a3.toInt64 := fun z => c3 (by
            have h9 := congrArg Int64.toInt z
            rw [toI_toL, toI_toL] at h9
            exact Int32.toInt_inj.mp h9)
          simp only [if_neg c3, if_neg this, Bool.false_eq_true, if_false]
          exact ⟨_, _, _, rfl, rfl, hrel 0⟩
    · simp only [if_neg c2]
      exact ⟨_, _, _, rfl, rfl, R⟩
  · simp only [if_neg c1]
    exact ⟨_, _, _, rfl, rfl, R⟩
theorem o_cut (R : RG N n nd es wt un ed G g) (a1 a2 : Int32) : ∃ r ed' g', f_X5_cut n ed a1 a2 = some (r, ed') ∧ f_X6_cut g a1 a2 = some (r, g') ∧ RG N n nd es wt un ed' G g' := by
  obtain ⟨h1, h2, h3, h4⟩ := R.1
  subst h3
  simp only [f_X5_cut, f_X6_cut, z_hasTwo h2, z_isTwoM h4 h1 h2, Option.bind_some, nm_eq]
  by_cases c1 : two a1 a2 N = true
  · simp only [if_pos c1]
    obtain ⟨i, j, hi, hj, hi2, hj2, hne, rfl, rfl⟩ := two_of c1
    have he : epl i j < 81 := epl_lt (by omega) (by omega)
    simp only [z_edgePlace (show i < 9 by omega) (show j < 9 by omega), z_edgeOf (show i < 9 by omega) (show j < 9 by omega), Option.bind_some]
    generalize epl i j = e at he
    rw [show (21 : Int32) = nI 21 from rfl, nI_add, z_becomes (by omega), Option.bind_some]
    simp only [ck_nI he (show 81 < 2 ^ 31 by omega), nI_clamp (show e < 2 ^ 31 by omega)]
    have hold := R.2.2.2.2.2.1 e he
    rcases hold with ⟨e1, e2⟩ | ⟨e1, e2, e3, -⟩
    · rw [if_pos e1, e2, if_neg (by decide)]
      refine ⟨_, _, _, rfl, rfl, ?_⟩
      refine R.congr rfl rfl rfl (fun _ _ => rfl) (fun _ _ => rfl) (fun _ _ => rfl) (fun _ _ _ _ => rfl) (fun k hk => ?_)
      by_cases z : k = 21 + e
      · subst z; rw [pk_uLs, e2]
      · rw [pk_uLn z]
    · rw [if_neg e1, e2, if_pos (by decide)]
      exact ⟨_, _, _, rfl, rfl, R.setEd he (fun k k1 _ => pk_uLn k1) (Or.inl ⟨rfl, pk_uLs⟩)⟩
  · simp only [if_neg c1]
    exact ⟨_, _, _, rfl, rfl, R⟩
theorem o_worth (R : RG N n nd es wt un ed G g) (a1 a2 : Int32) : ∃ r, f_X5_worth n ed a1 a2 = some r ∧ f_X6_worth g a1 a2 = some r := by
  obtain ⟨h1, h2, h3, h4⟩ := R.1
  subst h3
  simp only [f_X5_worth, f_X6_worth, z_hasTwo h2, z_isTwoM h4 h1 h2, Option.bind_some, nm_eq, jn0_eq]
  by_cases c1 : two a1 a2 N = true
  · simp only [if_pos c1]
    obtain ⟨i, j, hi, hj, hi2, hj2, hne, rfl, rfl⟩ := two_of c1
    have he : epl i j < 81 := epl_lt (by omega) (by omega)
    simp only [z_edgePlace (show i < 9 by omega) (show j < 9 by omega), z_edgeOf (show i < 9 by omega) (show j < 9 by omega), Option.bind_some]
    generalize epl i j = e at he
    rw [show (21 : Int32) = nI 21 from rfl, show (102 : Int32) = nI 102 from rfl, nI_add, nI_add]
    simp only [ck_nI he (show 81 < 2 ^ 31 by omega), ck_nI (show 21 + e < 2231 by omega) (show 2231 < 2 ^ 31 by omega), ck_nI (show 102 + e < 2231 by omega) (show 2231 < 2 ^ 31 by omega), nI_clamp (show e < 2 ^ 31 by omega), nI_clamp (show 21 + e < 2 ^ 31 by omega), nI_clamp (show 102 + e < 2 ^ 31 by omega)]
    rcases R.2.2.2.2.2.1 e he with ⟨e1, e2⟩ | ⟨e1, e2, e3, -⟩
    · rw [if_pos e1, e2, if_neg (by decide)]
      exact ⟨_, rfl, rfl⟩
    · rw [if_neg e1, e2, if_pos rfl, e3]
      exact ⟨_, rfl, rfl⟩
  · simp only [if_neg c1]
    exact ⟨_, rfl, rfl⟩
end OP1
