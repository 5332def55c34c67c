/-! PURE PART: mask, without, join, swap, unanimous. -/
section OP6
variable {N : Nat} {n nd es : Int32} {wt un ed : Nat → Int32} {G : Nat → Nat → Int64} {g : Nat → Int64}
theorem z_parts (hN : N ≤ 9) {j t : Nat} (hj : j < 4) (ht : ∀ s, s < 2 ^ N → s &&& t < 2 ^ N) (G : Nat → Nat → Int64) (wk : Nat → Int64) : f_X5_settleParts (nI N) G wk (nI j) (nI t) = some (nI (chg (G j) (fil wk (2 ^ N) (fun s => G j (s &&& t))) (2 ^ N)), Gset G j (2 ^ N) (fil wk (2 ^ N) (fun s => G j (s &&& t))), fil wk (2 ^ N) (fun s => G j (s &&& t))) := by
  have hp := pw_le hN
  refine (congrArg (L_X5_settleParts_1 (nI N) (nI j) (nI t) FU 0 G) fil_0.symm).trans (lp_cf (L := fun m i => L_X5_settleParts_1 (nI N) (nI j) (nI t) m (nI i) G (fil wk i (fun s => G j (s &&& t)))) (2 ^ N) (fun m => ?_) (fun m i hi => ?_) (2 ^ N) 0 FU (by omega) (by rw [FU_eq]; omega))
  · show B_X5_settleParts_1 _ _ _ _ _ _ _ = _
    rw [B_X5_settleParts_1, z_sets hN, Option.bind_some, if_neg (by rw [ltI (by omega) (by omega)]; omega), z_settle hN hj, Option.bind_some]
  · show B_X5_settleParts_1 _ _ _ _ _ _ _ = _
    have := ht i hi
    rw [B_X5_settleParts_1, z_sets hN, Option.bind_some, if_pos (by rw [ltI (by omega) (by omega)]; exact hi), nI_and]
    simp only [ck_nI hj (show 4 < 2 ^ 31 by omega), ck_nI (show i &&& t < 512 by omega) (show 512 < 2 ^ 31 by omega), ck_nI (show i < 512 by omega) (show 512 < 2 ^ 31 by omega), nI_clamp (show i < 2 ^ 31 by omega), nI_clamp (show i &&& t < 2 ^ 31 by omega), nI_clamp (show j < 2 ^ 31 by omega), nm_eq, nI_1]
    rw [fil_s rfl]
/-- the end of a call that takes what lies ready -/
theorem RG.end (R : RG N n nd es wt un ed G g) {j : Nat} (hj : j < 4) (F : Nat → Int64) (hF : F 0 = 0) (wk nx : Nat → Int64) : f_X6_takes false g (fil nx (2 ^ N) F) (nI j) = some (nI (chg (G j) (fil wk (2 ^ N) F) (2 ^ N)), gset g j (2 ^ N) (fil nx (2 ^ N) F)) ∧ RG N n nd es wt un ed (Gset G j (2 ^ N) (fil wk (2 ^ N) F)) (gset g j (2 ^ N) (fil nx (2 ^ N) F)) := by
  refine ⟨?_, R.made hj F hF (fun s hs => fil_lt hs) (fun s hs => fil_lt hs)⟩
  rw [z_takes R.1.2.2.2 R.1.2.1 hj, R.cng hj F (wk := fil wk (2 ^ N) F) (nx := fil nx (2 ^ N) F) (fun s hs => fil_lt hs) (fun s hs => fil_lt hs)]
theorem o_mask (R : RG N n nd es wt un ed G g) (wk : Nat → Int64) (isB : Bool) (nx : Nat → Int64) (a1 a2 : Int32) : ∃ r G' wk' isB' g' nx', f_X5_mask n G wk a1 a2 = some (r, G', wk') ∧ f_X6_mask isB g nx a1 a2 = some (r, isB', g', nx') ∧ RG N n nd es wt un ed G' g' := by
  obtain ⟨h1, h2, h3, h4⟩ := id R.1
  have hp := pw_le h2
  have hp1 := pw_pos N
  simp only [f_X5_mask, f_X6_mask, z_isGame, z_isGameM, h3, z_hasSet h2, z_isSetM h4 h2, Option.bind_some, nm_eq]
  by_cases c1 : inb a1 4 = true
  · by_cases c2 : inb a2 (2 ^ N) = true
    · simp only [if_pos c1, if_pos c2]
      obtain ⟨j, hj, hj2, rfl⟩ := inb_of c1
      obtain ⟨t, ht, ht2, rfl⟩ := inb_of c2
      have hb : ∀ s, s < 2 ^ N → s &&& t < 2 ^ N := fun s hs => Nat.lt_of_le_of_lt Nat.and_le_left hs
      rw [z_parts h2 hj hb, Option.bind_some]
      obtain ⟨e1, e2⟩ := R.end hj (fun s => G j (s &&& t)) (by rw [Nat.zero_and]; exact R.2.2.2.2.2.2.2 j hj) wk nx
      refine ⟨_, _, _, false, _, fil nx (2 ^ N) (fun s => G j (s &&& t)), rfl, ?_, h3 ▸ e2⟩
      refine (congrArg (L_X6_mask_1 (nI j) (nI t) false FU 0 g) fil_0.symm).trans (lp_cf (L := fun m i => L_X6_mask_1 (nI j) (nI t) false m (nI i) g (fil nx i (fun s => G j (s &&& t)))) (2 ^ N) (fun m => ?_) (fun m i hi => ?_) (2 ^ N) 0 FU (by omega) (by rw [FU_eq]; omega))
      · show B_X6_mask_1 _ _ _ _ _ _ _ = _
        rw [B_X6_mask_1, R.all, Option.bind_some, if_pos (by rw [ltI (by omega) (by omega)]; omega), e1, Option.bind_some]
      · show B_X6_mask_1 _ _ _ _ _ _ _ = _
        have := hb i hi
        rw [B_X6_mask_1, R.all, Option.bind_some, if_neg (by rw [ltI (by omega) (by omega)]; omega), nI_and, R.v hj this, Option.bind_some]
        simp only [ck_nI (show i < 512 by omega) (show 512 < 2 ^ 31 by omega), nI_clamp (show i < 2 ^ 31 by omega), nm_eq, nI_1]
        rw [fil_s rfl]
    · simp only [if_pos c1, if_neg c2]
      exact ⟨_, _, _, _, _, _, rfl, rfl, h3 ▸ R⟩
  · simp only [if_neg c1]
    exact ⟨_, _, _, _, _, _, rfl, rfl, h3 ▸ R⟩
theorem and_dif_all {N s t : Nat} (hN : N ≤ 9) (h : s < 2 ^ N) : s &&& dif (2 ^ N - 1) t = dif s t := by
  have hp := pw_le hN
  apply Nat.eq_of_testBit_eq
  intro i
  rw [Nat.testBit_and, dif_bit (by omega), dif_bit (by omega), all_bit]
  cases hb : s.testBit i with
  | false => rfl
  | true => simp [bit_lt h hb]
theorem o_without (R : RG N n nd es wt un ed G g) (wk : Nat → Int64) (isB : Bool) (nx : Nat → Int64) (a1 a2 : Int32) : ∃ r G' wk' isB' g' nx', f_X5_without n G wk a1 a2 = some (r, G', wk') ∧ f_X6_without isB g nx a1 a2 = some (r, isB', g', nx') ∧ RG N n nd es wt un ed G' g' := by
  obtain ⟨h1, h2, h3, h4⟩ := id R.1
  have hp := pw_le h2
  have hp1 := pw_pos N
  simp only [f_X5_without, f_X6_without, z_isGame, z_isGameM, h3, z_hasPartner h2, z_isPartnerM h4 h1 h2, z_every h2, Option.bind_some, nm_eq]
  by_cases c1 : inb a1 4 = true
  · by_cases c2 : inb a2 N = true
    · simp only [if_pos c1, if_pos c2]
      obtain ⟨j, hj, hj2, rfl⟩ := inb_of c1
      obtain ⟨p, ht, ht2, rfl⟩ := inb_of c2
      rw [shl_pw (by omega), nI_dif]
      have hb : ∀ s, s < 2 ^ N → s &&& dif (2 ^ N - 1) (2 ^ p) < 2 ^ N := fun s hs => Nat.lt_of_le_of_lt Nat.and_le_left hs
      have hb2 : ∀ s, s < 2 ^ N → dif s (2 ^ p) < 2 ^ N := fun s hs => Nat.lt_of_le_of_lt dif_le hs
      rw [z_parts h2 hj hb, Option.bind_some]
      have hF0 : dif 0 (2 ^ p) = 0 := Nat.le_zero.mp dif_le
      obtain ⟨e1, e2⟩ := R.end hj (fun s => G j (s &&& dif (2 ^ N - 1) (2 ^ p))) (by rw [Nat.zero_and]; exact R.2.2.2.2.2.2.2 j hj) wk nx
      refine ⟨_, _, _, false, _, fil nx (2 ^ N) (fun s => G j (s &&& dif (2 ^ N - 1) (2 ^ p))), rfl, ?_, h3 ▸ e2⟩
      refine (congrArg (L_X6_without_1 (nI j) (nI p) false FU 0 g) fil_0.symm).trans (lp_cf (L := fun m i => L_X6_without_1 (nI j) (nI p) false m (nI i) g (fil nx i (fun s => G j (s &&& dif (2 ^ N - 1) (2 ^ p))))) (2 ^ N) (fun m => ?_) (fun m i hi => ?_) (2 ^ N) 0 FU (by omega) (by rw [FU_eq]; omega))
      · show B_X6_without_1 _ _ _ _ _ _ _ = _
        rw [B_X6_without_1, R.all, Option.bind_some, if_pos (by rw [ltI (by omega) (by omega)]; omega), e1, Option.bind_some]
      · show B_X6_without_1 _ _ _ _ _ _ _ = _
        have := hb2 i hi
        rw [B_X6_without_1, R.all, Option.bind_some, if_neg (by rw [ltI (by omega) (by omega)]; omega), shl_pw (by omega), nI_dif, R.v hj this, Option.bind_some]
        simp only [ck_nI (show i < 512 by omega) (show 512 < 2 ^ 31 by omega), nI_clamp (show i < 2 ^ 31 by omega), nm_eq, nI_1]
        rw [fil_s (by rw [and_dif_all h2 hi])]
    · simp only [if_pos c1, if_neg c2]
      exact ⟨_, _, _, _, _, _, rfl, rfl, h3 ▸ R⟩
  · simp only [if_neg c1]
    exact ⟨_, _, _, _, _, _, rfl, rfl, h3 ▸ R⟩
theorem tb2 (a i : Nat) : (2 ^ a).testBit i = decide (a = i) := by rw [Nat.testBit_two_pow]
/-- where a set's value comes from, when b goes along with a -/
def jix (s a b : Nat) : Nat := if s.testBit a = true then s ||| 2 ^ b else dif s (2 ^ b)
theorem jix_lt {N s a b : Nat} (h : s < 2 ^ N) (hb : b < N) : jix s a b < 2 ^ N := by
  unfold jix
  split
  · exact Nat.or_lt_two_pow h (Nat.pow_lt_pow_right (by omega) hb)
  · exact Nat.lt_of_le_of_lt dif_le h
theorem jix_or {s a b : Nat} (h : s.testBit a = true) : s ||| (2 ^ a ||| 2 ^ b) = s ||| 2 ^ b := by
  apply Nat.eq_of_testBit_eq
  intro i
  simp only [Nat.testBit_or, tb2]
  by_cases e : a = i
  · subst e; simp [h]
  · simp [e]
theorem jix_dif {s a b : Nat} (hs : s < 2 ^ 32) (h : ¬ s.testBit a = true) : dif s (2 ^ a ||| 2 ^ b) = dif s (2 ^ b) := by
  apply Nat.eq_of_testBit_eq
  intro i
  rw [dif_bit hs, dif_bit hs]
  simp only [Nat.testBit_or, tb2]
  by_cases e : a = i
  · subst e; simp [h]
  · simp [e]
theorem o_join (R : RG N n nd es wt un ed G g) (wk : Nat → Int64) (isB : Bool) (nx : Nat → Int64) (a1 a2 a3 : Int32) : ∃ r G' wk' isB' g' nx', f_X5_join n G wk a1 a2 a3 = some (r, G', wk') ∧ f_X6_join isB g nx a1 a2 a3 = some (r, isB', g', nx') ∧ RG N n nd es wt un ed G' g' := by
  obtain ⟨h1, h2, h3, h4⟩ := id R.1
  have hp := pw_le h2
  have hp1 := pw_pos N
  simp only [f_X5_join, f_X6_join, z_isGame, z_isGameM, h3, z_hasTwo h2, z_isTwoM h4 h1 h2, Option.bind_some, nm_eq]
  by_cases c1 : inb a1 4 = true
  · by_cases c2 : two a2 a3 N = true
    · simp only [if_pos c1, if_pos c2]
      obtain ⟨j, hj, hj2, rfl⟩ := inb_of c1
      obtain ⟨a, b, ha, hb, ha2, hb2, hne, rfl, rfl⟩ := two_of c2
      rw [shl_pw (by omega), shl_pw (by omega), nI_or]
      have hx : ∀ s, s < 2 ^ N → jix s a b < 2 ^ N := fun s hs => jix_lt hs hb
      have hF0 : jix 0 a b = 0 := by
        simp only [jix, Nat.zero_testBit, Bool.false_eq_true, if_false]
        exact Nat.le_zero.mp dif_le
      obtain ⟨e1, e2⟩ := R.end hj (fun s => G j (jix s a b)) (by rw [hF0]; exact R.2.2.2.2.2.2.2 j hj) wk nx
      refine ⟨nI (chg (G j) (fil wk (2 ^ N) (fun s => G j (jix s a b))) (2 ^ N)), _, fil wk (2 ^ N) (fun s => G j (jix s a b)), false, _, fil nx (2 ^ N) (fun s => G j (jix s a b)), ?_, ?_, h3 ▸ e2⟩
      rotate_left
      · refine (congrArg (L_X6_join_1 (nI j) (nI a) (nI b) false FU 0 g) fil_0.symm).trans (lp_cf (L := fun m i => L_X6_join_1 (nI j) (nI a) (nI b) false m (nI i) g (fil nx i (fun s => G j (jix s a b)))) (2 ^ N) (fun m => ?_) (fun m i hi => ?_) (2 ^ N) 0 FU (by omega) (by rw [FU_eq]; omega))
        · show B_X6_join_1 _ _ _ _ _ _ _ _ = _
          rw [B_X6_join_1, R.all, Option.bind_some, if_pos (by rw [ltI (by omega) (by omega)]; omega), e1, Option.bind_some]
        · show B_X6_join_1 _ _ _ _ _ _ _ _ = _
          have hxi := hx i hi
          rw [B_X6_join_1, R.all, Option.bind_some, if_neg (by rw [ltI (by omega) (by omega)]; omega), z_hasM (by omega) (by omega), Option.bind_some]
          have e3 : ∀ k : Nat, k = jix i a b → f_X6_v g (nI j) (nI k) = some (G j (jix i a b)) := fun k hk => by rw [hk, R.v hj hxi]
          simp only [jn1_eq, shl_pw (show b ≤ 9 by omega), nI_or, nI_dif]
          by_cases c : i.testBit a = true
          · simp only [if_pos c, e3 (i ||| 2 ^ b) (by rw [jix, if_pos c]), Option.bind_some, ck_nI (show i < 512 by omega) (show 512 < 2 ^ 31 by omega), nI_clamp (show i < 2 ^ 31 by omega), nm_eq, nI_1]
            rw [fil_s rfl]
          · simp only [if_neg c, e3 (dif i (2 ^ b)) (by rw [jix, if_neg c]), Option.bind_some, ck_nI (show i < 512 by omega) (show 512 < 2 ^ 31 by omega), nI_clamp (show i < 2 ^ 31 by omega), nm_eq, nI_1]
            rw [fil_s rfl]
      · refine (congrArg (L_X5_join_1 (nI N) (nI j) (nI a) (nI (2 ^ a ||| 2 ^ b)) FU 0 G) fil_0.symm).trans (lp_cf (L := fun m i => L_X5_join_1 (nI N) (nI j) (nI a) (nI (2 ^ a ||| 2 ^ b)) m (nI i) G (fil wk i (fun s => G j (jix s a b)))) (2 ^ N) (fun m => ?_) (fun m i hi => ?_) (2 ^ N) 0 FU (by omega) (by rw [FU_eq]; omega))
        · show B_X5_join_1 _ _ _ _ _ _ _ _ = _
          rw [B_X5_join_1, z_sets h2, Option.bind_some, if_neg (by rw [ltI (by omega) (by omega)]; omega), z_settle h2 hj, Option.bind_some]
        · show B_X5_join_1 _ _ _ _ _ _ _ _ = _
          have hxi := hx i hi
          rw [B_X5_join_1, z_sets h2, Option.bind_some, if_pos (by rw [ltI (by omega) (by omega)]; exact hi), z_has (by omega) (by omega), Option.bind_some]
          simp only [jn1_eq, nI_or, nI_dif, ck_nI hj (show 4 < 2 ^ 31 by omega)]
          by_cases c : i.testBit a = true
          · have e4 : i ||| (2 ^ a ||| 2 ^ b) = jix i a b := by rw [jix, if_pos c, jix_or c]
            simp only [if_pos c, e4, ck_nI (show jix i a b < 512 by omega) (show 512 < 2 ^ 31 by omega), nI_clamp (show jix i a b < 2 ^ 31 by omega), nI_clamp hj2, ck_nI (show i < 512 by omega) (show 512 < 2 ^ 31 by omega), nI_clamp (show i < 2 ^ 31 by omega), nm_eq, nI_1]
            rw [fil_s rfl]
          · have e4 : dif i (2 ^ a ||| 2 ^ b) = jix i a b := by rw [jix, if_neg c, jix_dif (by omega) c]
            simp only [if_neg c, e4, ck_nI (show jix i a b < 512 by omega) (show 512 < 2 ^ 31 by omega), nI_clamp (show jix i a b < 2 ^ 31 by omega), nI_clamp hj2, ck_nI (show i < 512 by omega) (show 512 < 2 ^ 31 by omega), nI_clamp (show i < 2 ^ 31 by omega), nm_eq, nI_1]
            rw [fil_s rfl]
    · simp only [if_pos c1, if_neg c2]
      exact ⟨_, _, _, _, _, _, rfl, rfl, h3 ▸ R⟩
  · simp only [if_neg c1]
    exact ⟨_, _, _, _, _, _, rfl, rfl, h3 ▸ R⟩
def six (s a b : Nat) : Nat := if s.testBit a = s.testBit b then s else s ^^^ (2 ^ a ||| 2 ^ b)
theorem six_lt {N s a b : Nat} (h : s < 2 ^ N) (ha : a < N) (hb : b < N) : six s a b < 2 ^ N := by
  unfold six
  split
  · exact h
  · exact Nat.xor_lt_two_pow h (Nat.or_lt_two_pow (Nat.pow_lt_pow_right (by omega) ha) (Nat.pow_lt_pow_right (by omega) hb))
theorem six_x {s a b : Nat} (h : ¬ s.testBit a = s.testBit b) : (s ^^^ 2 ^ a) ^^^ 2 ^ b = s ^^^ (2 ^ a ||| 2 ^ b) := by
  apply Nat.eq_of_testBit_eq
  intro i
  simp only [Nat.testBit_xor, Nat.testBit_or, tb2]
  by_cases e : a = i
  · subst e
    have : ¬ b = a := fun z => h (by rw [z])
    simp [this]
  · simp [e]
theorem bI_inj {a b : Bool} : (bI a = bI b) = (a = b) := by cases a <;> cases b <;> simp [bI] <;> decide
theorem o_swap (R : RG N n nd es wt un ed G g) (wk : Nat → Int64) (isB : Bool) (nx : Nat → Int64) (a1 a2 a3 : Int32) : ∃ r G' wk' isB' g' nx', f_X5_swap n G wk a1 a2 a3 = some (r, G', wk') ∧ f_X6_swap isB g nx a1 a2 a3 = some (r, isB', g', nx') ∧ RG N n nd es wt un ed G' g' := by
  obtain ⟨h1, h2, h3, h4⟩ := id R.1
  have hp := pw_le h2
  have hp1 := pw_pos N
  simp only [f_X5_swap, f_X6_swap, z_isGame, z_isGameM, h3, z_hasPartner h2, z_isPartnerM h4 h1 h2, Option.bind_some, nm_eq]
  by_cases c1 : inb a1 4 = true
  · by_cases c2 : inb a2 N = true
    · by_cases c3 : inb a3 N = true
      · simp only [if_pos c1, if_pos c2, if_pos c3]
        obtain ⟨j, hj, hj2, rfl⟩ := inb_of c1
        obtain ⟨a, ha, ha2, rfl⟩ := inb_of c2
        obtain ⟨b, hb, hb2, rfl⟩ := inb_of c3
        rw [shl_pw (by omega), shl_pw (by omega), nI_or]
        have hx : ∀ s, s < 2 ^ N → six s a b < 2 ^ N := fun s hs => six_lt hs ha hb
        have hF0 : six 0 a b = 0 := by simp [six]
        obtain ⟨e1, e2⟩ := R.end hj (fun s => G j (six s a b)) (by rw [hF0]; exact R.2.2.2.2.2.2.2 j hj) wk nx
        refine ⟨nI (chg (G j) (fil wk (2 ^ N) (fun s => G j (six s a b))) (2 ^ N)), _, fil wk (2 ^ N) (fun s => G j (six s a b)), false, _, fil nx (2 ^ N) (fun s => G j (six s a b)), ?_, ?_, h3 ▸ e2⟩
        rotate_left
        · refine (congrArg (L_X6_swap_1 (nI j) (nI a) (nI b) false FU 0 g) fil_0.symm).trans (lp_cf (L := fun m i => L_X6_swap_1 (nI j) (nI a) (nI b) false m (nI i) g (fil nx i (fun s => G j (six s a b)))) (2 ^ N) (fun m => ?_) (fun m i hi => ?_) (2 ^ N) 0 FU (by omega) (by rw [FU_eq]; omega))
          · show B_X6_swap_1 _ _ _ _ _ _ _ _ = _
            rw [B_X6_swap_1, R.all, Option.bind_some, if_pos (by rw [ltI (by omega) (by omega)]; omega), e1, Option.bind_some]
          · show B_X6_swap_1 _ _ _ _ _ _ _ _ = _
            have hxi := hx i hi
            rw [B_X6_swap_1, R.all, Option.bind_some, if_neg (by rw [ltI (by omega) (by omega)]; omega), z_hasM (by omega) (by omega), Option.bind_some, z_hasM (by omega) (by omega), Option.bind_some]
            have e3 : ∀ k : Nat, k = six i a b → f_X6_v g (nI j) (nI k) = some (G j (six i a b)) := fun k hk => by rw [hk, R.v hj hxi]
            simp only [jn1_eq, shl_pw (show a ≤ 9 by omega), shl_pw (show b ≤ 9 by omega), nI_xor, bI_inj]
            by_cases c : i.testBit a = i.testBit b
            · simp only [if_pos c, e3 i (by rw [six, if_pos c]), Option.bind_some, ck_nI (show i < 512 by omega) (show 512 < 2 ^ 31 by omega), nI_clamp (show i < 2 ^ 31 by omega), nm_eq, nI_1]
              rw [fil_s rfl]
            · simp only [if_neg c, e3 ((i ^^^ 2 ^ a) ^^^ 2 ^ b) (by rw [six, if_neg c, six_x c]), Option.bind_some, ck_nI (show i < 512 by omega) (show 512 < 2 ^ 31 by omega), nI_clamp (show i < 2 ^ 31 by omega), nm_eq, nI_1]
              rw [fil_s rfl]
        · refine (congrArg (L_X5_swap_1 (nI N) (nI j) (nI a) (nI b) (nI (2 ^ a ||| 2 ^ b)) FU 0 G) fil_0.symm).trans (lp_cf (L := fun m i => L_X5_swap_1 (nI N) (nI j) (nI a) (nI b) (nI (2 ^ a ||| 2 ^ b)) m (nI i) G (fil wk i (fun s => G j (six s a b)))) (2 ^ N) (fun m => ?_) (fun m i hi => ?_) (2 ^ N) 0 FU (by omega) (by rw [FU_eq]; omega))
          · show B_X5_swap_1 _ _ _ _ _ _ _ _ _ = _
            rw [B_X5_swap_1, z_sets h2, Option.bind_some, if_neg (by rw [ltI (by omega) (by omega)]; omega), z_settle h2 hj, Option.bind_some]
          · show B_X5_swap_1 _ _ _ _ _ _ _ _ _ = _
            have hxi := hx i hi
            rw [B_X5_swap_1, z_sets h2, Option.bind_some, if_pos (by rw [ltI (by omega) (by omega)]; exact hi), z_has (by omega) (by omega), Option.bind_some, z_has (by omega) (by omega), Option.bind_some]
            simp only [jn1_eq, nI_xor, ck_nI hj (show 4 < 2 ^ 31 by omega), bI_inj]
            by_cases c : i.testBit a = i.testBit b
            · have e4 : six i a b = i := by rw [six, if_pos c]
              simp only [if_pos c, Bool.false_eq_true, if_false, ck_nI (show i < 512 by omega) (show 512 < 2 ^ 31 by omega), nI_clamp (show i < 2 ^ 31 by omega), nI_clamp hj2, nm_eq, nI_1]
              rw [fil_s (by rw [e4])]
            · have e4 : i ^^^ (2 ^ a ||| 2 ^ b) = six i a b := by rw [six, if_neg c]
              simp only [if_neg c, if_true, e4, ck_nI (show six i a b < 512 by omega) (show 512 < 2 ^ 31 by omega), nI_clamp (show six i a b < 2 ^ 31 by omega), nI_clamp hj2, ck_nI (show i < 512 by omega) (show 512 < 2 ^ 31 by omega), nI_clamp (show i < 2 ^ 31 by omega), nm_eq, nI_1]
              rw [fil_s rfl]
      · simp only [if_pos c1, if_pos c2, if_neg c3]
        exact ⟨_, _, _, _, _, _, rfl, rfl, h3 ▸ R⟩
    · simp only [if_pos c1, if_neg c2]
      exact ⟨_, _, _, _, _, _, rfl, rfl, h3 ▸ R⟩
  · simp only [if_neg c1]
    exact ⟨_, _, _, _, _, _, rfl, rfl, h3 ▸ R⟩
/-- t is within s -/
def wit (t s : Nat) : Prop := s &&& t = t
theorem wit_dif {s t : Nat} (ht : t < 2 ^ 32) : (dif t s = 0) = (s &&& t = t) := by
  apply propext
  constructor
  · intro h
    apply Nat.eq_of_testBit_eq
    intro i
    have h1 := congrArg (fun z => z.testBit i) h
    simp only [dif_bit ht, Nat.zero_testBit] at h1
    rw [Nat.testBit_and]
    cases hs : s.testBit i <;> cases htb : t.testBit i <;> simp [hs, htb] at h1 ⊢
  · intro h
    apply Nat.eq_of_testBit_eq
    intro i
    have h1 := congrArg (fun z => z.testBit i) h
    simp only [Nat.testBit_and] at h1
    rw [dif_bit ht, Nat.zero_testBit]
    cases hs : s.testBit i <;> cases htb : t.testBit i <;> simp [hs, htb] at h1 ⊢
theorem o_unanimous (R : RG N n nd es wt un ed G g) (bey : Bool) (wk : Nat → Int64) (isB : Bool) (nx : Nat → Int64) (a1 a2 : Int32) (a3 : Int64) : ∃ r bey' G' wk' isB' g' nx', f_X5_unanimous n bey G wk a1 a2 a3 = some (r, bey', G', wk') ∧ f_X6_unanimous isB g nx a1 a2 a3 = some (r, isB', g', nx') ∧ RG N n nd es wt un ed G' g' := by
  obtain ⟨h1, h2, h3, h4⟩ := id R.1
  have hp := pw_le h2
  have hp1 := pw_pos N
  simp only [f_X5_unanimous, f_X6_unanimous, f_X1_begin, z_isGame, z_isGameM, h3, z_hasSet h2, z_isSetM h4 h2, z_told, z_isIn, Option.bind_some, nm_eq]
  by_cases c1 : inb a1 4 = true
  · by_cases c2 : inb a2 (2 ^ N) = true
    · by_cases c3 : a2 = 0
      · simp only [if_pos c1, if_pos c2, if_pos c3]
        exact ⟨_, _, _, _, _, _, _, rfl, rfl, h3 ▸ R⟩
      · by_cases c4 : (decide ((-1000000000000) ≤ a3) && decide (a3 ≤ 1000000000000)) = true
        · simp only [if_pos c1, if_pos c2, if_neg c3, if_pos c4]
          obtain ⟨j, hj, hj2, rfl⟩ := inb_of c1
          obtain ⟨t, ht, ht2, rfl⟩ := inb_of c2
          obtain ⟨F, hF⟩ : ∃ F : Nat → Int64, F = fun s => if s &&& t = t then G j s + a3 else G j s := ⟨_, rfl⟩
          obtain ⟨P, hP⟩ : ∃ P : Nat → Bool, P = fun s => if s &&& t = t then ovp (G j s) a3 else false := ⟨_, rfl⟩
          have hand : ∀ s, s < 2 ^ N → s &&& t < 2 ^ 31 := fun s hs => Nat.lt_of_le_of_lt Nat.and_le_left (by omega)
          have e1 : L_X5_unanimous_1 (nI N) (nI j) (nI t) a3 FU 0 false G wk = some (if orB P (2 ^ N) = true then -6 else 1, orB P (2 ^ N), if orB P (2 ^ N) = true then G else Gset G j (2 ^ N) (fil wk (2 ^ N) F), fil wk (2 ^ N) F) := by
            refine (congrArg (L_X5_unanimous_1 (nI N) (nI j) (nI t) a3 FU 0 false G) fil_0.symm).trans (lp_cf (L := fun m i => L_X5_unanimous_1 (nI N) (nI j) (nI t) a3 m (nI i) (orB P i) G (fil wk i F)) (2 ^ N) (fun m => ?_) (fun m i hi => ?_) (2 ^ N) 0 FU (by omega) (by rw [FU_eq]; omega))
            · show B_X5_unanimous_1 _ _ _ _ _ _ _ _ _ = _
              rw [B_X5_unanimous_1, z_sets h2, Option.bind_some, if_neg (by rw [ltI (by omega) (by omega)]; omega), z_sub h2 hj, Option.bind_some]
            · show B_X5_unanimous_1 _ _ _ _ _ _ _ _ _ = _
              rw [B_X5_unanimous_1, z_sets h2, Option.bind_some, if_pos (by rw [ltI (by omega) (by omega)]; exact hi)]
              simp only [ck_nI hj (show 4 < 2 ^ 31 by omega), ck_nI (show i < 512 by omega) (show 512 < 2 ^ 31 by omega), nI_clamp (show i < 2 ^ 31 by omega), nI_clamp hj2, nI_and, eqI (hand i hi) ht2, z_plus, Option.bind_some, nm_eq, jn2_eq, nI_1]
              by_cases c : i &&& t = t
              · rw [if_pos c, fil_s (by rw [hF]; dsimp only; rw [if_pos c])]
                simp only [orB, hP, if_pos c]
              · rw [if_neg c, fil_s (by rw [hF]; dsimp only; rw [if_neg c])]
                simp only [orB, hP, if_neg c, Bool.or_false]
          have e2 : L_X6_unanimous_1 (nI j) (nI t) a3 FU 0 false g nx = some (if orB P (2 ^ N) = true then -6 else 1, orB P (2 ^ N), if orB P (2 ^ N) = true then g else gset g j (2 ^ N) (fil nx (2 ^ N) F), fil nx (2 ^ N) F) := by
            refine (congrArg (L_X6_unanimous_1 (nI j) (nI t) a3 FU 0 false g) fil_0.symm).trans (lp_cf (L := fun m i => L_X6_unanimous_1 (nI j) (nI t) a3 m (nI i) (orB P i) g (fil nx i F)) (2 ^ N) (fun m => ?_) (fun m i hi => ?_) (2 ^ N) 0 FU (by omega) (by rw [FU_eq]; omega))
            · show B_X6_unanimous_1 _ _ _ _ _ _ _ _ = _
              rw [B_X6_unanimous_1, R.all, Option.bind_some, if_pos (by rw [ltI (by omega) (by omega)]; omega), z_done h4 h2 hj, Option.bind_some]
            · show B_X6_unanimous_1 _ _ _ _ _ _ _ _ = _
              have hd : dif t i < 2 ^ 31 := Nat.lt_of_le_of_lt dif_le ht2
              rw [B_X6_unanimous_1, R.all, Option.bind_some, if_neg (by rw [ltI (by omega) (by omega)]; omega)]
              simp only [ck_nI (show i < 512 by omega) (show 512 < 2 ^ 31 by omega), nI_clamp (show i < 2 ^ 31 by omega), nI_dif, nI_zero, eqI hd (show 0 < 2 ^ 31 by omega), wit_dif (show t < 2 ^ 32 by omega), R.v hj hi, z_plusM, Option.bind_some, nm_eq, jn2_eq, nI_1]
              by_cases c : i &&& t = t
              · rw [if_pos c, fil_s (by rw [hF]; dsimp only; rw [if_pos c])]
                simp only [orB, hP, if_pos c]
              · rw [if_neg c, fil_s (by rw [hF]; dsimp only; rw [if_neg c])]
                simp only [orB, hP, if_neg c, Bool.or_false]
          have h0 : ¬ t = 0 := fun z => c3 (by rw [z]; rfl)
          refine ⟨_, _, _, _, _, _, _, e1, e2, h3 ▸ R.cond hj F ?_ _ (fun s hs => fil_lt hs) (fun s hs => fil_lt hs)⟩
          rw [hF]
          dsimp only
          rw [Nat.zero_and, if_neg (fun z => h0 z.symm)]
          exact R.2.2.2.2.2.2.2 j hj
        · simp only [if_pos c1, if_pos c2, if_neg c3, if_neg c4]
          exact ⟨_, _, _, _, _, _, _, rfl, rfl, h3 ▸ R⟩
    · simp only [if_pos c1, if_neg c2]
      exact ⟨_, _, _, _, _, _, _, rfl, rfl, h3 ▸ R⟩
  · simp only [if_neg c1]
    exact ⟨_, _, _, _, _, _, _, rfl, rfl, h3 ▸ R⟩
end OP6
