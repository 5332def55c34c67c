/-! PURE PART: copy, add, times, dual, mask, unanimous, without, join, swap: the calls. -/
section OP5
variable {N : Nat} {n nd es : Int32} {wt un ed : Nat → Int32} {G : Nat → Nat → Int64} {g : Nat → Int64}
theorem RG.v (R : RG N n nd es wt un ed G g) {j s : Nat} (hj : j < 4) (hs : s < 2 ^ N) : f_X6_v g (nI j) (nI s) = some (G j s) := by
  have := pw_le R.1.2.1
  rw [z_v hj (by omega), R.2.2.2.2.2.2.1 j hj s hs]
theorem RG.all (R : RG N n nd es wt un ed G g) : f_X6_all g = some (nI (2 ^ N - 1)) := z_allM R.1.2.2.2 R.1.2.1
theorem cpk_ok2 {M : Nat} (h : M ≤ 512) : cpk 0 0 (nI M) 512 512 = true := by
  have h1 := nI_pos (show M < 2 ^ 31 by omega)
  have h2 := nI_clamp (show M < 2 ^ 31 by omega)
  have h3 : (0 : Int32).toNatClampNeg = 0 := rfl
  have h4 : ¬ (0 : Int32) < 0 := by decide
  simp only [cpk, h2, h3, decide_eq_true_eq]
  exact ⟨h4, h4, h1, by omega, by omega⟩
theorem o_copy (R : RG N n nd es wt un ed G g) (wk : Nat → Int64) (a1 a2 : Int32) : ∃ r G' wk' g', f_X5_copy n G wk a1 a2 = some (r, G', wk') ∧ f_X6_copy g a1 a2 = some (r, g') ∧ RG N n nd es wt un ed G' g' := by
  obtain ⟨h1, h2, h3, h4⟩ := id R.1
  have hp := pw_le h2
  have hp1 := pw_pos N
  simp only [f_X5_copy, f_X6_copy, z_isGame, z_isGameM, Option.bind_some, nm_eq]
  by_cases c1 : inb a1 4 = true
  · by_cases c2 : inb a2 4 = true
    · simp only [if_pos c1, if_pos c2]
      obtain ⟨j, hj, hj2, rfl⟩ := inb_of c1
      obtain ⟨k, hk, hk2, rfl⟩ := inb_of c2
      rw [ck_nI hk (by omega), h3, z_sets h2, Option.bind_some, cpk_ok2 hp, ck_true, z_settle h2 hj, Option.bind_some, nI_clamp (by omega), nI_clamp (by omega)]
      refine ⟨1, _, _, gset g j (2 ^ N) (G k), rfl, ?_, (h3 ▸ R).made hj (G k) (R.2.2.2.2.2.2.2 k hk) (fun s hs => cpy_lt hs) (fun s hs => rfl)⟩
      refine (congrArg (L_X6_copy_1 (nI j) (nI k) FU 0) gset_0.symm).trans (lp_cf (L := fun m i => L_X6_copy_1 (nI j) (nI k) m (nI i) (gset g j i (G k))) (2 ^ N) (fun m => ?_) (fun m i hi => ?_) (2 ^ N) 0 FU (by omega) (by rw [FU_eq]; omega))
      · show B_X6_copy_1 _ _ _ _ _ = _
        rw [B_X6_copy_1, z_allM (N := N) (by rw [gset_ne (by omega)]; exact h4) h2, Option.bind_some, if_pos (by rw [ltI (by omega) (by omega)]; omega)]
      · show B_X6_copy_1 _ _ _ _ _ = _
        rw [B_X6_copy_1, z_allM (N := N) (by rw [gset_ne (by omega)]; exact h4) h2, Option.bind_some, if_neg (by rw [ltI (by omega) (by omega)]; omega), z_v hk (by omega), Option.bind_some]
        have e : gset g j i (G k) (183 + 512 * k + i) = G k i := by
          rw [gset_ne (by omega)]
          exact R.2.2.2.2.2.2.1 k hk i hi
        simp only [e, z_vix hj (show i < 512 by omega), ck_nI (show 183 + 512 * j + i < 2231 by omega) (show 2231 < 2 ^ 31 by omega), nI_clamp (show 183 + 512 * j + i < 2 ^ 31 by omega), nm_eq, nI_1, gset_s]
    · simp only [if_pos c1, if_neg c2]
      exact ⟨_, _, _, _, rfl, rfl, R⟩
  · simp only [if_neg c1]
    exact ⟨_, _, _, _, rfl, rfl, R⟩
theorem o_add (R : RG N n nd es wt un ed G g) (bey : Bool) (wk : Nat → Int64) (isB : Bool) (nx : Nat → Int64) (a1 a2 : Int32) : ∃ r bey' G' wk' isB' g' nx', f_X5_add n bey G wk a1 a2 = some (r, bey', G', wk') ∧ f_X6_add isB g nx a1 a2 = some (r, isB', g', nx') ∧ RG N n nd es wt un ed G' g' := by
  obtain ⟨h1, h2, h3, h4⟩ := id R.1
  have hp := pw_le h2
  have hp1 := pw_pos N
  simp only [f_X5_add, f_X6_add, f_X1_begin, z_isGame, z_isGameM, Option.bind_some, nm_eq]
  by_cases c1 : inb a1 4 = true
  · by_cases c2 : inb a2 4 = true
    · simp only [if_pos c1, if_pos c2]
      obtain ⟨j, hj, hj2, rfl⟩ := inb_of c1
      obtain ⟨k, hk, hk2, rfl⟩ := inb_of c2
      have e1 : L_X5_add_1 n (nI j) (nI k) FU 0 false G wk = some (if orB (fun s => ovp (G j s) (G k s)) (2 ^ N) = true then -6 else 1, orB (fun s => ovp (G j s) (G k s)) (2 ^ N), if orB (fun s => ovp (G j s) (G k s)) (2 ^ N) = true then G else Gset G j (2 ^ N) (fil wk (2 ^ N) (fun s => G j s + G k s)), fil wk (2 ^ N) (fun s => G j s + G k s)) := by
        refine (congrArg (L_X5_add_1 n (nI j) (nI k) FU 0 false G) fil_0.symm).trans (lp_cf (L := fun m i => L_X5_add_1 n (nI j) (nI k) m (nI i) (orB (fun s => ovp (G j s) (G k s)) i) G (fil wk i (fun s => G j s + G k s))) (2 ^ N) (fun m => ?_) (fun m i hi => ?_) (2 ^ N) 0 FU (by omega) (by rw [FU_eq]; omega))
        · show B_X5_add_1 _ _ _ _ _ _ _ _ = _
          rw [B_X5_add_1, h3, z_sets h2, Option.bind_some, if_neg (by rw [ltI (by omega) (by omega)]; omega), z_sub h2 hj, Option.bind_some]
        · show B_X5_add_1 _ _ _ _ _ _ _ _ = _
          rw [B_X5_add_1, h3, z_sets h2, Option.bind_some, if_pos (by rw [ltI (by omega) (by omega)]; exact hi)]
          simp only [ck_nI hj (show 4 < 2 ^ 31 by omega), ck_nI hk (show 4 < 2 ^ 31 by omega), ck_nI (show i < 512 by omega) (show 512 < 2 ^ 31 by omega), nI_clamp (show i < 2 ^ 31 by omega), nI_clamp hj2, nI_clamp hk2, z_plus, Option.bind_some, nm_eq, nI_1]
          rw [fil_s rfl]
          rfl
      have e2 : L_X6_add_1 (nI j) (nI k) FU 0 false g nx = some (if orB (fun s => ovp (G j s) (G k s)) (2 ^ N) = true then -6 else 1, orB (fun s => ovp (G j s) (G k s)) (2 ^ N), if orB (fun s => ovp (G j s) (G k s)) (2 ^ N) = true then g else gset g j (2 ^ N) (fil nx (2 ^ N) (fun s => G j s + G k s)), fil nx (2 ^ N) (fun s => G j s + G k s)) := by
        refine (congrArg (L_X6_add_1 (nI j) (nI k) FU 0 false g) fil_0.symm).trans (lp_cf (L := fun m i => L_X6_add_1 (nI j) (nI k) m (nI i) (orB (fun s => ovp (G j s) (G k s)) i) g (fil nx i (fun s => G j s + G k s))) (2 ^ N) (fun m => ?_) (fun m i hi => ?_) (2 ^ N) 0 FU (by omega) (by rw [FU_eq]; omega))
        · show B_X6_add_1 _ _ _ _ _ _ _ = _
          rw [B_X6_add_1, R.all, Option.bind_some, if_pos (by rw [ltI (by omega) (by omega)]; omega), z_done h4 h2 hj, Option.bind_some]
        · show B_X6_add_1 _ _ _ _ _ _ _ = _
          rw [B_X6_add_1, R.all, Option.bind_some, if_neg (by rw [ltI (by omega) (by omega)]; omega), R.v hj hi, Option.bind_some, R.v hk hi]
          simp only [ck_nI (show i < 512 by omega) (show 512 < 2 ^ 31 by omega), nI_clamp (show i < 2 ^ 31 by omega), z_plusM, Option.bind_some, nm_eq, nI_1]
          rw [fil_s rfl]
          rfl
      exact ⟨_, _, _, _, _, _, _, e1, e2, R.cond hj (fun s => G j s + G k s) (by rw [R.2.2.2.2.2.2.2 j hj, R.2.2.2.2.2.2.2 k hk]; rfl) _ (fun s hs => fil_lt hs) (fun s hs => fil_lt hs)⟩
    · simp only [if_pos c1, if_neg c2]
      exact ⟨_, _, _, _, _, _, _, rfl, rfl, R⟩
  · simp only [if_neg c1]
    exact ⟨_, _, _, _, _, _, _, rfl, rfl, R⟩
theorem z_rngT {ρ : Type} (a : Int32) {x y : ρ} : (if a < -1000 then x else if 1000 < a then x else y) = if (decide ((-1000) ≤ a.toInt64) && decide (a.toInt64 ≤ 1000)) = true then y else x := by
  have e1 : ((-1000) ≤ a.toInt64) = (-1000 ≤ a.toInt) := propext (by rw [Int64.le_iff_toInt_le, toI_toL]; rfl)
  have e2 : (a.toInt64 ≤ 1000) = (a.toInt ≤ 1000) := propext (by rw [Int64.le_iff_toInt_le, toI_toL]; rfl)
  have e3 : (a < -1000) = (a.toInt < -1000) := propext (by rw [Int32.lt_iff_toInt_lt]; rfl)
  have e4 : (1000 < a) = (1000 < a.toInt) := propext (by rw [Int32.lt_iff_toInt_lt]; rfl)
  simp only [e1, e2, e3, e4, Bool.and_eq_true, decide_eq_true_eq]
  by_cases c : a.toInt < -1000
  · rw [if_pos c, if_neg (by omega)]
  · rw [if_neg c]
    by_cases d : 1000 < a.toInt
    · rw [if_pos d, if_neg (by omega)]
    · rw [if_neg d, if_pos (by omega)]
theorem o_times (R : RG N n nd es wt un ed G g) (bey : Bool) (wk : Nat → Int64) (isB : Bool) (nx : Nat → Int64) (a1 a2 : Int32) : ∃ r bey' G' wk' isB' g' nx', f_X5_times n bey G wk a1 a2 = some (r, bey', G', wk') ∧ f_X6_times isB g nx a1 a2 = some (r, isB', g', nx') ∧ RG N n nd es wt un ed G' g' := by
  obtain ⟨h1, h2, h3, h4⟩ := id R.1
  have hp := pw_le h2
  have hp1 := pw_pos N
  simp only [f_X5_times, f_X6_times, f_X1_begin, z_isGame, z_isGameM, z_isIn, z_rngT, Option.bind_some, nm_eq]
  by_cases c1 : inb a1 4 = true
  · by_cases c2 : (decide ((-1000) ≤ a2.toInt64) && decide (a2.toInt64 ≤ 1000)) = true
    · simp only [if_pos c1, if_pos c2]
      obtain ⟨j, hj, hj2, rfl⟩ := inb_of c1
      have e1 : L_X5_times_1 n (nI j) a2 FU 0 false G wk = some (if orB (fun s => ovt (G j s) a2.toInt64) (2 ^ N) = true then -6 else 1, orB (fun s => ovt (G j s) a2.toInt64) (2 ^ N), if orB (fun s => ovt (G j s) a2.toInt64) (2 ^ N) = true then G else Gset G j (2 ^ N) (fil wk (2 ^ N) (fun s => G j s * a2.toInt64)), fil wk (2 ^ N) (fun s => G j s * a2.toInt64)) := by
        refine (congrArg (L_X5_times_1 n (nI j) a2 FU 0 false G) fil_0.symm).trans (lp_cf (L := fun m i => L_X5_times_1 n (nI j) a2 m (nI i) (orB (fun s => ovt (G j s) a2.toInt64) i) G (fil wk i (fun s => G j s * a2.toInt64))) (2 ^ N) (fun m => ?_) (fun m i hi => ?_) (2 ^ N) 0 FU (by omega) (by rw [FU_eq]; omega))
        · show B_X5_times_1 _ _ _ _ _ _ _ _ = _
          rw [B_X5_times_1, h3, z_sets h2, Option.bind_some, if_neg (by rw [ltI (by omega) (by omega)]; omega), z_sub h2 hj, Option.bind_some]
        · show B_X5_times_1 _ _ _ _ _ _ _ _ = _
          rw [B_X5_times_1, h3, z_sets h2, Option.bind_some, if_pos (by rw [ltI (by omega) (by omega)]; exact hi)]
          simp only [ck_nI hj (show 4 < 2 ^ 31 by omega), ck_nI (show i < 512 by omega) (show 512 < 2 ^ 31 by omega), nI_clamp (show i < 2 ^ 31 by omega), nI_clamp hj2, z_product, Option.bind_some, nm_eq, nI_1]
          rw [fil_s rfl]
          rfl
      have e2 : L_X6_times_1 (nI j) a2 FU 0 false g nx = some (if orB (fun s => ovt (G j s) a2.toInt64) (2 ^ N) = true then -6 else 1, orB (fun s => ovt (G j s) a2.toInt64) (2 ^ N), if orB (fun s => ovt (G j s) a2.toInt64) (2 ^ N) = true then g else gset g j (2 ^ N) (fil nx (2 ^ N) (fun s => G j s * a2.toInt64)), fil nx (2 ^ N) (fun s => G j s * a2.toInt64)) := by
        refine (congrArg (L_X6_times_1 (nI j) a2 FU 0 false g) fil_0.symm).trans (lp_cf (L := fun m i => L_X6_times_1 (nI j) a2 m (nI i) (orB (fun s => ovt (G j s) a2.toInt64) i) g (fil nx i (fun s => G j s * a2.toInt64))) (2 ^ N) (fun m => ?_) (fun m i hi => ?_) (2 ^ N) 0 FU (by omega) (by rw [FU_eq]; omega))
        · show B_X6_times_1 _ _ _ _ _ _ _ = _
          rw [B_X6_times_1, R.all, Option.bind_some, if_pos (by rw [ltI (by omega) (by omega)]; omega), z_done h4 h2 hj, Option.bind_some]
        · show B_X6_times_1 _ _ _ _ _ _ _ = _
          rw [B_X6_times_1, R.all, Option.bind_some, if_neg (by rw [ltI (by omega) (by omega)]; omega), R.v hj hi]
          simp only [ck_nI (show i < 512 by omega) (show 512 < 2 ^ 31 by omega), nI_clamp (show i < 2 ^ 31 by omega), z_productM, Option.bind_some, nm_eq, nI_1]
          rw [fil_s rfl]
          rfl
      exact ⟨_, _, _, _, _, _, _, e1, e2, R.cond hj (fun s => G j s * a2.toInt64) (by rw [R.2.2.2.2.2.2.2 j hj, Int64.zero_mul]) _ (fun s hs => fil_lt hs) (fun s hs => fil_lt hs)⟩
    · simp only [if_pos c1, if_neg c2]
      exact ⟨_, _, _, _, _, _, _, rfl, rfl, R⟩
  · simp only [if_neg c1]
    exact ⟨_, _, _, _, _, _, _, rfl, rfl, R⟩
theorem xor_all {N s : Nat} (hN : N ≤ 9) (h : s < 2 ^ N) : (2 ^ N - 1) ^^^ s = dif (2 ^ N - 1) s := by
  have hp := pw_le hN
  apply Nat.eq_of_testBit_eq
  intro i
  rw [Nat.testBit_xor, dif_bit (by omega), all_bit]
  cases hb : s.testBit i with
  | false => simp
  | true => simp [bit_lt h hb]
theorem o_dual (R : RG N n nd es wt un ed G g) (bey : Bool) (wk : Nat → Int64) (isB : Bool) (nx : Nat → Int64) (a1 : Int32) : ∃ r bey' G' wk' isB' g' nx', f_X5_dual n bey G wk a1 = some (r, bey', G', wk') ∧ f_X6_dual isB g nx a1 = some (r, isB', g', nx') ∧ RG N n nd es wt un ed G' g' := by
  obtain ⟨h1, h2, h3, h4⟩ := id R.1
  have hp := pw_le h2
  have hp1 := pw_pos N
  simp only [f_X5_dual, f_X6_dual, f_X1_begin, z_isGame, z_isGameM, Option.bind_some, nm_eq]
  by_cases c1 : inb a1 4 = true
  · simp only [if_pos c1]
    obtain ⟨j, hj, hj2, rfl⟩ := inb_of c1
    rw [ck_nI hj (by omega), h3, z_every h2, Option.bind_some]
    obtain ⟨F, hF⟩ : ∃ F : Nat → Int64, F = fun s => G j (2 ^ N - 1) - G j (dif (2 ^ N - 1) s) := ⟨_, rfl⟩
    obtain ⟨P, hP⟩ : ∃ P : Nat → Bool, P = fun s => ovm (G j (2 ^ N - 1)) (G j (dif (2 ^ N - 1) s)) := ⟨_, rfl⟩
    have hd : ∀ s, dif (2 ^ N - 1) s ≤ 2 ^ N - 1 := fun s => dif_le
    have e1 : L_X5_dual_1 (nI N) (nI j) (nI (2 ^ N - 1)) FU 0 false G wk = some (if orB P (2 ^ N) = true then -6 else 1, orB P (2 ^ N), if orB P (2 ^ N) = true then G else Gset G j (2 ^ N) (fil wk (2 ^ N) F), fil wk (2 ^ N) F) := by
      refine (congrArg (L_X5_dual_1 (nI N) (nI j) (nI (2 ^ N - 1)) FU 0 false G) fil_0.symm).trans (lp_cf (L := fun m i => L_X5_dual_1 (nI N) (nI j) (nI (2 ^ N - 1)) m (nI i) (orB P i) G (fil wk i F)) (2 ^ N) (fun m => ?_) (fun m i hi => ?_) (2 ^ N) 0 FU (by omega) (by rw [FU_eq]; omega))
      · show B_X5_dual_1 _ _ _ _ _ _ _ _ = _
        rw [B_X5_dual_1, if_pos (by rw [ltI (by omega) (by omega)]; omega), z_sub h2 hj, Option.bind_some]
      · show B_X5_dual_1 _ _ _ _ _ _ _ _ = _
        have := hd i
        rw [B_X5_dual_1, if_neg (by rw [ltI (by omega) (by omega)]; omega), nI_xor, xor_all h2 hi]
        simp only [ck_nI (show 2 ^ N - 1 < 512 by omega) (show 512 < 2 ^ 31 by omega), ck_nI (show dif (2 ^ N - 1) i < 512 by omega) (show 512 < 2 ^ 31 by omega), ck_nI (show i < 512 by omega) (show 512 < 2 ^ 31 by omega), nI_clamp (show i < 2 ^ 31 by omega), nI_clamp (show 2 ^ N - 1 < 2 ^ 31 by omega), nI_clamp (show dif (2 ^ N - 1) i < 2 ^ 31 by omega), nI_clamp hj2, z_less, Option.bind_some, nm_eq, nI_1]
        rw [fil_s (by rw [hF])]
        simp only [orB, hP]
    have e2 : L_X6_dual_1 (nI j) FU 0 false g nx = some (if orB P (2 ^ N) = true then -6 else 1, orB P (2 ^ N), if orB P (2 ^ N) = true then g else gset g j (2 ^ N) (fil nx (2 ^ N) F), fil nx (2 ^ N) F) := by
      refine (congrArg (L_X6_dual_1 (nI j) FU 0 false g) fil_0.symm).trans (lp_cf (L := fun m i => L_X6_dual_1 (nI j) m (nI i) (orB P i) g (fil nx i F)) (2 ^ N) (fun m => ?_) (fun m i hi => ?_) (2 ^ N) 0 FU (by omega) (by rw [FU_eq]; omega))
      · show B_X6_dual_1 _ _ _ _ _ _ = _
        rw [B_X6_dual_1, R.all, Option.bind_some, if_pos (by rw [ltI (by omega) (by omega)]; omega), z_done h4 h2 hj, Option.bind_some]
      · show B_X6_dual_1 _ _ _ _ _ _ = _
        have := hd i
        rw [B_X6_dual_1, R.all, Option.bind_some, if_neg (by rw [ltI (by omega) (by omega)]; omega), Option.bind_some, R.v hj (by omega), Option.bind_some, Option.bind_some, nI_dif, R.v hj (by omega)]
        simp only [ck_nI (show i < 512 by omega) (show 512 < 2 ^ 31 by omega), nI_clamp (show i < 2 ^ 31 by omega), z_minus, Option.bind_some, nm_eq, nI_1]
        rw [fil_s (by rw [hF])]
        simp only [orB, hP]
    refine ⟨_, _, _, _, _, _, _, e1, e2, h3 ▸ R.cond hj F ?_ _ (fun s hs => fil_lt hs) (fun s hs => fil_lt hs)⟩
    rw [hF]
    dsimp only
    rw [show dif (2 ^ N - 1) 0 = 2 ^ N - 1 from by rw [← xor_all h2 hp1, Nat.xor_zero], Int64.sub_self]
  · simp only [if_neg c1]
    exact ⟨_, _, _, _, _, _, _, rfl, rfl, R⟩
end OP5
