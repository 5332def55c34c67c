/-! PURE PART: lay, the whole. -/
section OPU
variable {N : Nat} {n nd es : Int32} {wt un ed : Nat → Int32} {G : Nat → Nat → Int64} {g : Nat → Int64} {sz ct : Nat → Int32} {P : Nat → Nat → Int64} {it : Nat → Int64} {fa : Nat → Int64}
theorem z_wholesM (R : RG N n nd es wt un ed G g) (F : RF fa) {j : Nat} (hj : j < 4) (kx : Bool → Int64 → (Nat → Int64) → Option (Int32 × Bool × Int64 × (Nat → Int64) × (Nat → Int64))) (isB : Bool) (ab : Int64) (nx : Nat → Int64) : (shB N (G j) N = true → ∃ b a w, L_X6_lay_1 g fa it (nI j) kx FU 0 isB ab nx = some (-6, b, a, w, it)) ∧ (shB N (G j) N = false → ∃ b a, L_X6_lay_1 g fa it (nI j) kx FU 0 isB ab nx = kx b a (fil nx N (fun p => shW N (G j) p / lN (fct N)))) := by
  have hN := R.1.2.1
  have h4 := R.1.2.2.2
  have hf := fct_b (k := N) (by omega)
  have hne : ¬ lN (fct N) = 0 := fun z => by
    have := (eqL (a := fct N) (b := 0) (by omega) (by omega)).mp z
    omega
  obtain ⟨fu, hfu⟩ : ∃ k, k = FU := ⟨_, rfl⟩
  have hfu2 : fu = 100000 := hfu.trans FU_eq
  rw [← hfu]
  have step : ∀ m i b a w, i < N → L_X6_lay_1 g fa it (nI j) kx (m + 1) (nI i) b a w = if (shr N (G j) i (2 ^ N)).2 = true then some (-6, true, (shr N (G j) i (2 ^ N)).1, w, it) else L_X6_lay_1 g fa it (nI j) kx m (nI (i + 1)) false (shW N (G j) i) (vp_updL w i (shW N (G j) i / lN (fct N))) := fun m i b a w hi => by
    show B_X6_lay_1 _ _ _ _ _ _ _ _ _ _ = _
    rw [B_X6_lay_1, z_nM h4, Option.bind_some, if_pos (by rw [ltI (by omega) (by omega)]; omega), z_shares R F hj hi, Option.bind_some, Option.bind_some, ck_nI (show N < 10 by omega) (by omega), nI_clamp (show N < 2 ^ 31 by omega), F N (by omega), show (lN (fct N) != 0) = true from by simp [hne], ck_true, ck_nI (show i < 512 by omega) (by omega), nI_clamp (show i < 2 ^ 31 by omega)]
    simp only [nm_eq, nI_1]
    cases c : (shr N (G j) i (2 ^ N)).2 <;> rfl
  have key : ∀ d i m b a, i + d = N → d < m → shB N (G j) i = false → (shB N (G j) N = true → ∃ b' a' w', L_X6_lay_1 g fa it (nI j) kx m (nI i) b a (fil nx i (fun p => shW N (G j) p / lN (fct N))) = some (-6, b', a', w', it)) ∧ (shB N (G j) N = false → ∃ b' a', L_X6_lay_1 g fa it (nI j) kx m (nI i) b a (fil nx i (fun p => shW N (G j) p / lN (fct N))) = kx b' a' (fil nx N (fun p => shW N (G j) p / lN (fct N)))) := by
    intro d
    induction d with
    | zero =>
      intro i m b a e hm hs
      obtain ⟨m, rfl⟩ : ∃ k, m = k + 1 := ⟨m - 1, by omega⟩
      have : i = N := by omega
      subst this
      refine ⟨(fun h => by rw [hs] at h; cases h), fun _ => ⟨b, a, ?_⟩⟩
      show B_X6_lay_1 _ _ _ _ _ _ _ _ _ _ = _
      rw [B_X6_lay_1, z_nM h4, Option.bind_some, if_neg (by rw [ltI (by omega) (by omega)]; omega)]
    | succ d ih =>
      intro i m b a e hm hs
      obtain ⟨m, rfl⟩ : ∃ k, m = k + 1 := ⟨m - 1, by omega⟩
      have hup : ∀ c, (shr N (G j) i (2 ^ N)).2 = true → i + 1 + c = N → shB N (G j) N = true := fun c hb hc => by
        have : ∀ c, shB N (G j) (i + 1 + c) = true := fun c => by
          induction c with
          | zero => show (shB N (G j) i || _) = true; rw [hb]; simp
          | succ c ic => show (shB N (G j) (i + 1 + c) || _) = true; rw [ic]; rfl
        have h9 := this c
        rw [hc] at h9
        exact h9
      rw [step m i b a _ (by omega)]
      cases c : (shr N (G j) i (2 ^ N)).2
      · rw [if_neg (by decide), fil_s rfl]
        exact ih (i + 1) m _ _ (by omega) (by omega) (by show (shB N (G j) i || _) = false; rw [hs, c]; rfl)
      · rw [if_pos rfl]
        refine ⟨fun _ => ⟨_, _, _, rfl⟩, fun h => ?_⟩
        rw [hup d c (by omega)] at h
        cases h
  have := key N 0 fu isB ab (by omega) (by omega) rfl
  rw [fil_0] at this
  exact this
end OPU
