/-! PURE PART: lay, the whole. -/
section OPU
variable {N : Nat} {n nd es : Int32} {wt un ed : Nat → Int32} {G : Nat → Nat → Int64} {g : Nat → Int64} {sz ct : Nat → Int32} {P : Nat → Nat → Int64} {it : Nat → Int64} {fa : Nat → Int64}
theorem z_wholesM (R : RG N n nd es wt un ed G g) (F : RF fa) {j : Nat} (hj : j < 4) (kx : Bool → Int64 → (Nat → Int64) → Option (Int32 × Bool × Int64 × (Nat → Int64) × (Nat → Int64))) (isB : Bool) (ab : Int64) (nx : Nat → Int64) : (shB N (G j) N = true → ∃ b a w, L_X6_lay_1 g fa it (nI j) kx FU 0 isB ab nx = some (-6, b, a, w, it)) ∧ (shB N (G j) N = false → ∃ b a, L_X6_lay_1 g fa it (nI j) kx FU 0 isB ab nx = kx b a (fil nx N (fun p => shW N (G j) p / lN (fct N)))) := by
  have hN := R.1.2.1
  have h4 := R.1.2.2.2
  have hf := fct_b (k := N) (by omega)
  have hne : ¬ lN (fct N) = 0 := fun z => by
    have := (eqL (a := fct N) (b := 0) (by omega) (by omega)).mp z
    omega
  obtain ⟨fu, hfu⟩ : ∃ k, k = FU := ⟨_, rfl⟩
  have hfu2 : fu = 100000 := hfu.trans FU_eq
  rw [← hfu]
  have step : ∀ m i b a w, i < N → L_X6_lay_1 g fa it (nI j) kx (m + 1) (nI i) b a w = if (shr N (G j) i (2 ^ N)).2 = true then some (-6, true, (shr N (G j) i (2 ^ N)).1, w, it) else L_X6_lay_1 g fa it (nI j) kx m (nI (i + 1)) false (shW N (G j) i) (vp_updL w i (shW N (G j) i / lN (fct N))) := fun m i b a w hi => by
    show B_X6_lay_1 _ _ _ _ _ _ _ _ _ _ = _
    rw [B_X6_lay_1, z_nM h4, Option.bind_some, if_pos (by rw [ltI (by omega) (by omega)]; omega), z_shares R F hj hi, Option.bind_some, Option.bind_some, ck_nI (show N < 10 by omega) (by omega), nI_clamp (show N < 2 ^ 31 by omega), F N (by omega), show (lN (fct N) != 0) = true from by simp [hne], ck_true, ck_nI (show i < 512 by omega) (by omega), nI_clamp (show i < 2 ^ 31 by omega)]
    simp only [nm_eq, nI_1]
    cases c : (shr N (G j) i (2 ^ N)).2 <;> rfl
  have key : ∀ d i m b a, i + d = N → d < m → shB N (G j) i = false → (shB N (G j) N = true → ∃ b' a' w', L_X6_lay_1 g fa it (nI j) kx m (nI i) b a (fil nx i (fun p => shW N (G j) p / lN (fct N))) = some (-6, b', a', w', it)) ∧ (shB N (G j) N = false → ∃ b' a', L_X6_lay_1 g fa it (nI j) kx m (nI i) b a (fil nx i (fun p => shW N (G j) p / lN (fct N))) = kx b' a' (fil nx N (fun p => shW N (G j) p / lN (fct N)))) := by
    intro d
    induction d with
    | zero =>
      intro i m b a e hm hs
      obtain ⟨m, rfl⟩ : ∃ k, m = k + 1 := ⟨m - 1, by omega⟩
      have : i = N := by omega
      subst this
      refine ⟨(fun h => by rw [hs] at h; cases h), fun _ => ⟨b, a, ?_⟩⟩
      show B_X6_lay_1 _ _ _ _ _ _ _ _ _ _ = _
      rw [B_X6_lay_1, z_nM h4, Option.bind_some, if_neg (by rw [ltI (by omega) (by omega)]; omega)]
    | succ d ih =>
      intro i m b a e hm hs
      obtain ⟨m, rfl⟩ : ∃ k, m = k + 1 := ⟨m - 1, by omega⟩
      have hup : ∀ c, (shr N (G j) i (2 ^ N)).2 = true → i + 1 + c = N → shB N (G j) N = true := fun c hb hc => by
        have : ∀ c, shB N (G j) (i + 1 + c) = true := fun c => by
          induction c with
          | zero => show (shB N (G j) i || _) = true; rw [hb]; simp
          | succ c ic => show (shB N (G j) (i + 1 + c) || _) = true; rw [ic]; rfl
        have h9 := this c
        rw [hc] at h9
        exact h9
      rw [step m i b a _ (by omega)]
      cases c : (shr N (G j) i (2 ^ N)).2
      · rw [if_neg (by decide), fil_s rfl]
        exact ih (i + 1) m _ _ (by omega) (by omega) (by show (shB N (G j) i || _) = false; rw [hs, c]; rfl)
      · rw [if_pos rfl]
        refine ⟨fun _ => ⟨_, _, _, rfl⟩, fun h => ?_⟩
        rw [hup d c (by omega)] at h
        cases h
  have := key N 0 fu isB ab (by omega) (by omega) rfl
  rw [fil_0] at this
  exact this
theorem o_lay (R : RG N n nd es wt un ed G g) (S : RR sz P ct it) (F : RF fa) (bey isB : Bool) (ab : Int64) (wh nx : Nat → Int64) (a1 a2 a3 : Int32) : ∃ r b1 P' wh' b2 ab' nx' it', f_X5_lay n bey sz G P wh a1 a2 a3 = some (r, b1, P', wh') ∧ f_X6_lay isB ab g nx fa ct it a1 a2 a3 = some (r, b2, ab', nx', it') ∧ RR sz P' ct it' := by
  obtain ⟨h1, h2, h3, h4⟩ := id R.1
  subst h3
  rw [f_X5_lay, f_X6_lay, z_isRow, z_isRowM, z_isGame, z_isGameM, Option.bind_some, Option.bind_some, Option.bind_some, Option.bind_some]
  by_cases c0 : inb a1 4 = true
  · rw [if_pos c0, if_pos c0]
    by_cases c1 : inb a3 4 = true
    · rw [if_pos c1, if_pos c1]
      obtain ⟨r, hr, hr2, rfl⟩ := inb_of c0
      obtain ⟨j, hj, hj2, rfl⟩ := inb_of c1
      obtain ⟨b1, b2⟩ := S.rng hr
      have hf := fct_b (k := N) (by omega)
      rw [z_nothing hr, Option.bind_some, ck_nI hr (by omega), nI_clamp hr2, (S r hr).1]
      have eneg : (sz r < 0) = (sz r = -1) := propext (by
        rcases (S r hr).2 with e | ⟨k, hk, e, -⟩
        · rw [e]; decide
        · rw [e]
          exact ⟨fun z => absurd z (nI_pos (by omega)), fun z => absurd z (nI_no (by omega))⟩)
      simp only [eneg, decide_eq_true_eq]
      by_cases c2 : sz r = -1
      · rw [if_pos c2, if_pos c2]
        exact ⟨_, _, _, _, _, _, _, _, rfl, rfl, S⟩
      · rw [if_neg c2, if_neg c2, z_wholes h2 hj, Option.bind_some, z_fac (by omega), Option.bind_some]
        obtain ⟨K, hK⟩ : ∃ K : Bool → Int64 → (Nat → Int64) → Option (Int32 × Bool × Int64 × (Nat → Int64) × (Nat → Int64)), K = fun (isB14 : Bool) (ab15 : Int64) (nx16 : Nat → Int64) => L_X6_lay_2 g ct (nI r) a2 isB14 ab15 nx16 FU 0 it := ⟨_, rfl⟩
        obtain ⟨z1, z2⟩ := z_wholesM (it := it) R F hj K isB ab nx
        rw [hK] at z1 z2
        cases hb : shB N (G j) N
        · obtain ⟨b', a', e2⟩ := z2 hb
          rw [e2]
          sorry
        · obtain ⟨b', a', w', e2⟩ := z1 hb
          rw [e2]
          exact ⟨_, _, _, _, _, _, _, _, rfl, rfl, S⟩
    · rw [if_neg c1, if_neg c1]
      exact ⟨_, _, _, _, _, _, _, _, rfl, rfl, S⟩
  · rw [if_neg c0, if_neg c0]
    exact ⟨_, _, _, _, _, _, _, _, rfl, rfl, S⟩
end OPU
