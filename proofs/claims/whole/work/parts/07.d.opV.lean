/-! PURE PART: lay, its end. -/
section OPV
variable {N : Nat} {n nd es : Int32} {wt un ed : Nat → Int32} {G : Nat → Nat → Int64} {g : Nat → Int64} {sz ct : Nat → Int32} {P : Nat → Nat → Int64} {it : Nat → Int64} {fa : Nat → Int64}
theorem z_cut {f : Nat} (h1 : 1 ≤ f) (h2 : f < 2 ^ 31) (x : Int64) : f_X5_cutToWhole x (nI f) = some (x / lN f) := by
  have hne : ¬ lN f = 0 := fun z => by
    have := (eqL (a := f) (b := 0) (by omega) (by omega)).mp z
    omega
  rw [f_X5_cutToWhole, if_neg (by rw [show (1 : Int32) = nI 1 from rfl, ltI h2 (by omega)]; omega), nI_l h2, show (lN f != 0) = true from by simp [hne], ck_true]
theorem hld_step {c a : Int32} {i : Nat} (hi : i ≤ 9) (h2 : c.toInt ≤ 20) : hld c (if a < 0 then -1 else a + nI i) 1 = hld c a (i + 1) := by
  have ei : (nI i).toInt = i := nI_toInt (by omega)
  rcases i32_cases a with z | ⟨k, hk, rfl⟩
  · rw [if_pos z]
    rw [Int32.lt_iff_toInt_lt, Int32.toInt_zero] at z
    have h1 : ¬ 0 ≤ a.toInt := by omega
    simp only [hld, h1, decide_false, Bool.false_and]
    rfl
  · rw [if_neg (nI_pos hk)]
    have ek : (nI k).toInt = k := nI_toInt hk
    have es : (nI k + nI i).toInt = if k + i < 2147483648 then ((k : Int) + i) else (k : Int) + i - 4294967296 := by
      rw [Int32.toInt_add, ek, ei, Int.bmod_def]
      split <;> split <;> omega
    simp only [hld, es, ek]
    by_cases c1 : k + i < 2147483648
    · rw [if_pos c1]
      have e1 : (0 ≤ (k : Int) + i) = (0 ≤ (k : Int)) := propext (by omega)
      have e2 : ((k : Int) + i + (1 : Nat) ≤ c.toInt) = ((k : Int) + ((i + 1 : Nat) : Int) ≤ c.toInt) := propext (by omega)
      simp only [e1, e2]
    · rw [if_neg c1]
      have e1 : ¬ 0 ≤ (k : Int) + i - 4294967296 := by omega
      have e2 : ¬ ((k : Int) + ((i + 1 : Nat) : Int) ≤ c.toInt) := by omega
      simp only [e1, e2, decide_false, Bool.false_and, Bool.and_false]
/-- the model's set, where the row is there -/
theorem z_setM (S : RR sz P ct it) {r : Nat} (hr : r < 4) (h : ¬ sz r = -1) (a : Int32) (x : Int64) : (hld (sz r) a 1 = false → f_X6_set ct it (nI r) a x = some (-13, it)) ∧ (∀ c : Nat, c < 20 → a = nI c → hld (sz r) a 1 = true → f_X6_set ct it (nI r) a x = some (1, vp_updL it (20 * r + c) x)) := by
  obtain ⟨b1, b2⟩ := S.rng hr
  have hr2 : r < 2 ^ 31 := by omega
  have eneg : ¬ sz r < 0 := by
    rcases (S r hr).2 with e | ⟨k, hk, e, -⟩
    · exact absurd e h
    · rw [e]; exact nI_pos (by omega)
  have base : f_X6_set ct it (nI r) a x = if hld (sz r) a 1 = true then ck (inb ((20 * nI r) + a) 80) (some (1, vp_updL it ((20 * nI r) + a).toNatClampNeg x)) else some (-13, it) := by
    rw [f_X6_set, z_isRowM, Option.bind_some, inb_nI hr (by omega), if_pos rfl, ck_true, nI_clamp hr2, (S r hr).1, if_neg eneg, ck_true, z_inR b1 b2, Option.bind_some]
    simp only [nm_eq]
  refine ⟨fun hf => by rw [base, hf]; rfl, fun c hc e ht => ?_⟩
  rw [base, if_pos ht, e, z_rix, ck_nI (by omega) (by omega), nI_clamp (by omega)]
theorem z_layloop (h4 : g 0 = lN N) (h2 : N ≤ 9) {r : Nat} (hr : r < 4) (h : ¬ sz r = -1) (a2 : Int32) (WH NX : Nat → Int64) (b : Bool) (ab : Int64) {f : Nat} (f1 : 1 ≤ f) (f2 : f < 2 ^ 31) (hW : ∀ p, p < N → NX p = WH p / lN f) : ∀ (d i m m' : Nat) (P : Nat → Nat → Int64) (it : Nat → Int64), i + d = N → d < m → d < m' → RR sz P ct it → ∃ rr P' it', L_X5_lay_1 (nI N) sz (nI r) a2 (true, false, WH) (nI f) m (nI i) P = some (rr, false, P', WH) ∧ L_X6_lay_2 g ct (nI r) a2 b ab NX m' (nI i) it = some (rr, b, ab, NX, it') ∧ RR sz P' ct it' := by
  intro d
  induction d with
  | zero =>
    intro i m m' P it e hm hm' S
    obtain ⟨m, rfl⟩ : ∃ k, m = k + 1 := ⟨m - 1, by omega⟩
    obtain ⟨m', rfl⟩ : ∃ k, m' = k + 1 := ⟨m' - 1, by omega⟩
    have : i = N := by omega
    subst this
    refine ⟨nI i, P, it, ?_, ?_, S⟩
    · show B_X5_lay_1 _ _ _ _ _ _ _ _ _ = _
      rw [B_X5_lay_1, if_neg (by rw [ltI (by omega) (by omega)]; omega)]
    · show B_X6_lay_2 _ _ _ _ _ _ _ _ _ _ = _
      rw [B_X6_lay_2, z_nM h4, Option.bind_some, if_neg (by rw [ltI (by omega) (by omega)]; omega), Option.bind_some]
  | succ d ih =>
    intro i m m' P it e hm hm' S
    obtain ⟨m, rfl⟩ : ∃ k, m = k + 1 := ⟨m - 1, by omega⟩
    obtain ⟨m', rfl⟩ : ∃ k, m' = k + 1 := ⟨m' - 1, by omega⟩
    obtain ⟨b1, b2⟩ := S.rng hr
    have e1 : L_X5_lay_1 (nI N) sz (nI r) a2 (true, false, WH) (nI f) (m + 1) (nI i) P = if hld (sz r) a2 (i + 1) = true then ck (inb (a2 + nI i) 20) (L_X5_lay_1 (nI N) sz (nI r) a2 (true, false, WH) (nI f) m (nI (i + 1)) (va_up P r (vp_updL (P r) (a2 + nI i).toNatClampNeg (WH i / lN f)))) else some (-13, false, P, WH) := by
      show B_X5_lay_1 _ _ _ _ _ _ _ _ _ = _
      rw [B_X5_lay_1, if_pos (by rw [ltI (by omega) (by omega)]; omega), nI_1, z_holds hr (by omega) b1 b2, Option.bind_some, ck_nI hr (by omega), ck_nI (show i < 9 by omega) (by omega), nI_clamp (show i < 2 ^ 31 by omega), nI_clamp (show r < 2 ^ 31 by omega)]
      dsimp only
      rw [z_cut f1 f2, Option.bind_some]
      simp only [nm_eq]
    have e2 : L_X6_lay_2 g ct (nI r) a2 b ab NX (m' + 1) (nI i) it = (f_X6_set ct it (nI r) (if a2 < 0 then -1 else a2 + nI i) (NX i)).bind (fun r24 => if (r24.1 : Int32) = 1 then L_X6_lay_2 g ct (nI r) a2 b ab NX m' (nI (i + 1)) r24.2 else some (-13, b, ab, NX, r24.2)) := by
      show B_X6_lay_2 _ _ _ _ _ _ _ _ _ _ = _
      rw [B_X6_lay_2, z_nM h4, Option.bind_some, if_pos (by rw [ltI (by omega) (by omega)]; omega), jn1_eq]
      simp only [ck_nI (show i < 512 by omega) (show 512 < 2 ^ 31 by omega), nI_clamp (show i < 2 ^ 31 by omega), nm_eq, nI_1]
      by_cases c : a2 < 0
      · rw [if_pos c, if_pos c]
      · rw [if_neg c, if_neg c]
    rw [e1, e2]
    obtain ⟨s1, s2⟩ := z_setM S hr h (if a2 < 0 then -1 else a2 + nI i) (NX i)
    rw [hld_step (by omega) b2] at s1 s2
    by_cases c : hld (sz r) a2 (i + 1) = true
    · rw [if_pos c]
      obtain ⟨k, rfl, hk⟩ := hld_of c b2
      have hk2 : k + (i + 1) ≤ 20 := by omega
      rw [if_neg (nI_pos (show k < 2 ^ 31 by omega))] at s2 ⊢
      rw [nI_add] at s2 ⊢
      rw [s2 (k + i) (by omega) rfl c, Option.bind_some, if_pos rfl, ck_nI (show k + i < 20 by omega) (by omega), nI_clamp (show k + i < 2 ^ 31 by omega), hW i (by omega)]
      rcases (S r hr).2 with z | ⟨q, hq, z, -⟩
      · exact absurd z h
      · rw [z, nI_toInt (by omega)] at hk
        exact ih (i + 1) m m' _ _ (by omega) (by omega) (by omega) (S.put hr z hq (by omega) _)
    · rw [if_neg c, s1 (by simpa using c), Option.bind_some]
      dsimp only
      rw [if_neg (by decide)]
      exact ⟨_, _, _, rfl, rfl, S⟩
theorem o_lay (R : RG N n nd es wt un ed G g) (S : RR sz P ct it) (F : RF fa) (bey isB : Bool) (ab : Int64) (wh nx : Nat → Int64) (a1 a2 a3 : Int32) : ∃ r b1 P' wh' b2 ab' nx' it', f_X5_lay n bey sz G P wh a1 a2 a3 = some (r, b1, P', wh') ∧ f_X6_lay isB ab g nx fa ct it a1 a2 a3 = some (r, b2, ab', nx', it') ∧ RR sz P' ct it' := by
  obtain ⟨h1, h2, h3, h4⟩ := id R.1
  subst h3
  rw [f_X5_lay, f_X6_lay, z_isRow, z_isRowM, z_isGame, z_isGameM, Option.bind_some, Option.bind_some, Option.bind_some, Option.bind_some]
  by_cases c0 : inb a1 4 = true
  · rw [if_pos c0, if_pos c0]
    by_cases c1 : inb a3 4 = true
    · rw [if_pos c1, if_pos c1]
      obtain ⟨r, hr, hr2, rfl⟩ := inb_of c0
      obtain ⟨j, hj, hj2, rfl⟩ := inb_of c1
      obtain ⟨b1, b2⟩ := S.rng hr
      have hf := fct_b (k := N) (by omega)
      rw [z_nothing hr, Option.bind_some, ck_nI hr (by omega), nI_clamp hr2, (S r hr).1]
      have eneg : (sz r < 0) = (sz r = -1) := propext (by
        rcases (S r hr).2 with e | ⟨k, hk, e, -⟩
        · rw [e]; decide
        · rw [e]
          exact ⟨fun z => absurd z (nI_pos (by omega)), fun z => absurd z (nI_no (by omega))⟩)
      simp only [eneg, decide_eq_true_eq]
      by_cases c2 : sz r = -1
      · rw [if_pos c2, if_pos c2]
        exact ⟨_, _, _, _, _, _, _, _, rfl, rfl, S⟩
      · rw [if_neg c2, if_neg c2, z_wholes h2 hj, Option.bind_some, z_fac (by omega), Option.bind_some]
        obtain ⟨K, hK⟩ : ∃ K : Bool → Int64 → (Nat → Int64) → Option (Int32 × Bool × Int64 × (Nat → Int64) × (Nat → Int64)), K = fun (isB14 : Bool) (ab15 : Int64) (nx16 : Nat → Int64) => L_X6_lay_2 g ct (nI r) a2 isB14 ab15 nx16 FU 0 it := ⟨_, rfl⟩
        obtain ⟨z1, z2⟩ := z_wholesM (it := it) R F hj K isB ab nx
        rw [hK] at z1 z2
        cases hb : shB N (G j) N
        · obtain ⟨b', a', e2⟩ := z2 hb
          rw [e2]
          obtain ⟨fu, hfu⟩ : ∃ k, k = FU := ⟨_, rfl⟩
          have hfu2 : fu = 100000 := hfu.trans FU_eq
          rw [← hfu]
          obtain ⟨rr, P', it', q1, q2, q3⟩ := z_layloop h4 h2 hr c2 a2 (fil wh N (shW N (G j))) (fil nx N (fun p => shW N (G j) p / lN (fct N))) b' a' (f := fct N) (by omega) (by omega) (fun p hp => by rw [fil_lt hp, fil_lt hp]) N 0 fu fu P it (by omega) (by omega) (by omega) S
          refine ⟨rr, false, P', fil wh N (shW N (G j)), b', a', fil nx N (fun p => shW N (G j) p / lN (fct N)), it', ?_, q2, q3⟩
          simp only [Bool.not_false, if_true]
          exact q1
        · obtain ⟨b', a', w', e2⟩ := z1 hb
          rw [e2]
          exact ⟨_, _, _, _, _, _, _, _, rfl, rfl, S⟩
    · rw [if_neg c1, if_neg c1]
      exact ⟨_, _, _, _, _, _, _, _, rfl, rfl, S⟩
  · rw [if_neg c0, if_neg c0]
    exact ⟨_, _, _, _, _, _, _, _, rfl, rfl, S⟩
end OPV
