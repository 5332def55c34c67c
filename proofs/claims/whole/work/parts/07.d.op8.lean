/-! PURE PART: make, pairs, differ, unlike. -/
section OP8
variable {N : Nat} {n nd es : Int32} {wt un ed : Nat → Int32} {G : Nat → Nat → Int64} {g : Nat → Int64}
def nz (F : Nat → Int64) : Nat → Nat := cnt (fun s => !decide (F s = 0))
theorem z_settleMade (hN : N ≤ 9) {j : Nat} (hj : j < 4) (G : Nat → Nat → Int64) (wk : Nat → Int64) : f_X5_settleMade (nI N) G wk (nI j) = some (nI (nz wk (2 ^ N)), Gset G j (2 ^ N) wk) := by
  have hp := pw_le hN
  rw [f_X5_settleMade, z_settle hN hj, Option.bind_some]
  refine lp_cf (L := fun m i => L_X5_settleMade_1 (nI N) wk _ m (nI (nz wk i)) (nI i)) (2 ^ N) (fun m => ?_) (fun m i hi => ?_) (2 ^ N) 0 FU (by omega) (by rw [FU_eq]; omega)
  · show B_X5_settleMade_1 _ _ _ _ _ _ = _
    rw [B_X5_settleMade_1, z_sets hN, Option.bind_some, if_neg (by rw [ltI (by omega) (by omega)]; omega)]
  · show B_X5_settleMade_1 _ _ _ _ _ _ = _
    rw [B_X5_settleMade_1, z_sets hN, Option.bind_some, if_pos (by rw [ltI (by omega) (by omega)]; exact hi)]
    simp only [ck_nI (show i < 512 by omega) (show 512 < 2 ^ 31 by omega), nI_clamp (show i < 2 ^ 31 by omega), nm_eq, jn1_eq, nI_1]
    by_cases c : wk i = 0
    · rw [if_pos c, show nz wk (i + 1) = nz wk i from by simp [nz, cnt, c]]
    · rw [if_neg c, show nz wk (i + 1) = nz wk i + 1 from by simp [nz, cnt, c]]
theorem z_others (h0 : g 0 = lN N) (hN : N ≤ 9) {j : Nat} (hj : j < 4) : f_X6_others g (nI j) = some (nI (nz (fun s => g (183 + 512 * j + s)) (2 ^ N))) := by
  have hp := pw_le hN
  have hp1 := pw_pos N
  refine lp_cf (L := fun m i => L_X6_others_1 g (nI j) m (nI (nz (fun s => g (183 + 512 * j + s)) i)) (nI i)) (2 ^ N) (fun m => ?_) (fun m i hi => ?_) (2 ^ N) 0 FU (by omega) (by rw [FU_eq]; omega)
  · show B_X6_others_1 _ _ _ _ _ = _
    rw [B_X6_others_1, z_allM h0 hN, Option.bind_some, if_pos (by rw [ltI (by omega) (by omega)]; omega)]
  · show B_X6_others_1 _ _ _ _ _ = _
    rw [B_X6_others_1, z_allM h0 hN, Option.bind_some, if_neg (by rw [ltI (by omega) (by omega)]; omega), z_v hj (by omega), Option.bind_some]
    simp only [nm_eq, jn1_eq, nI_1]
    by_cases c : g (183 + 512 * j + i) = 0
    · rw [if_pos c, nI_zero, nI_add, show nz (fun s => g (183 + 512 * j + s)) (i + 1) = nz (fun s => g (183 + 512 * j + s)) i from by simp [nz, cnt, c]]
      rfl
    · rw [if_neg c, show nz (fun s => g (183 + 512 * j + s)) (i + 1) = nz (fun s => g (183 + 512 * j + s)) i + 1 from by simp [nz, cnt, c]]
/-- the end of a call that lays F into a game at once -/
theorem RG.laid (R : RG N n nd es wt un ed G g) {j : Nat} (hj : j < 4) (F : Nat → Int64) (hF : F 0 = 0) (wk : Nat → Int64) : f_X6_others (gset g j (2 ^ N) F) (nI j) = some (nI (nz (fil wk (2 ^ N) F) (2 ^ N))) ∧ RG N n nd es wt un ed (Gset G j (2 ^ N) (fil wk (2 ^ N) F)) (gset g j (2 ^ N) F) := by
  refine ⟨?_, R.made hj F hF (fun s hs => fil_lt hs) (fun s hs => rfl)⟩
  rw [z_others (N := N) (by rw [gset_ne (by omega)]; exact R.1.2.2.2) R.1.2.1 hj]
  congr 2
  refine cnt_congr _ (fun i hi => ?_)
  simp only [gset_at hi, fil_lt hi]
theorem z_rng4 {ρ : Type} (a : Int32) {x y : ρ} : (if a < 0 then x else if 4 < a then x else y) = if inb a 5 = true then y else x := z_rng2 (n := 4) (by omega)
theorem o_make (R : RG N n nd es wt un ed G g) (wk : Nat → Int64) (a1 a2 : Int32) : ∃ r G' wk' g', f_X5_make n nd es wt ed G wk a1 a2 = some (r, G', wk') ∧ f_X6_make g a1 a2 = some (r, g') ∧ RG N n nd es wt un ed G' g' := by
  obtain ⟨h1, h2, h3, h4⟩ := id R.1
  have hp := pw_le h2
  have hp1 := pw_pos N
  obtain ⟨Q, E, W, hQ, hE, q1, q2, hw, H⟩ := R.head
  have hw1 : ∀ p, p < 9 → W p ≤ 1000 := fun p hp => (H.2.2.2.1 p hp).1
  have hed : ∀ e, e < 81 → ¬ ed e = 10000 → -9999 ≤ (ed e).toInt ∧ (ed e).toInt ≤ 9999 := fun e he hn => by
    rcases H.2.2.2.2 e he with ⟨z, -⟩ | ⟨-, -, -, z1, z2⟩
    · exact absurd z hn
    · exact ⟨z1, z2⟩
  simp only [f_X5_make, f_X6_make, z_isGame, z_isGameM, z_rng4, Option.bind_some]
  rw [show (4 : Int64) = (nI 4).toInt64 from rfl, z_inI a2 (by omega), Option.bind_some]
  by_cases c1 : inb a1 4 = true
  · by_cases c2 : inb a2 5 = true
    · simp only [if_pos c1, if_pos c2]
      obtain ⟨j, hj, hj2, rfl⟩ := inb_of c1
      obtain ⟨F, hF⟩ : ∃ F : Nat → Int64, F = fun s => if s = 0 then 0 else mv N Q E W ed a2 s := ⟨_, rfl⟩
      obtain ⟨e1, e2⟩ := R.laid hj F (by rw [hF]; rfl) wk
      refine ⟨nI (nz (fil wk (2 ^ N) F) (2 ^ N)), _, fil wk (2 ^ N) F, _, ?_, ?_, e2⟩
      · refine (congrArg (L_X5_make_1 n nd es wt ed (nI j) a2 FU 0 G) fil_0.symm).trans (lp_cf (L := fun m i => L_X5_make_1 n nd es wt ed (nI j) a2 m (nI i) G (fil wk i F)) (2 ^ N) (fun m => ?_) (fun m i hi => ?_) (2 ^ N) 0 FU (by omega) (by rw [FU_eq]; omega))
        · show B_X5_make_1 _ _ _ _ _ _ _ _ _ _ _ = _
          rw [B_X5_make_1, h3, z_sets h2, Option.bind_some, if_neg (by rw [ltI (by omega) (by omega)]; omega), z_settleMade h2 hj, Option.bind_some]
        · show B_X5_make_1 _ _ _ _ _ _ _ _ _ _ _ = _
          rw [B_X5_make_1, h3, q1, q2, z_sets h2, Option.bind_some, if_pos (by rw [ltI (by omega) (by omega)]; exact hi)]
          simp only [ck_nI (show i < 512 by omega) (show 512 < 2 ^ 31 by omega), nI_clamp (show i < 2 ^ 31 by omega), nm_eq, jn1_eq, nI_1, z_made h2 hQ hE hw hw1 hed a2 (show i < 512 by omega), Option.bind_some, nI_zero, eqI (show i < 2 ^ 31 by omega) (show 0 < 2 ^ 31 by omega)]
          by_cases c : i = 0
          · rw [if_pos c, fil_s (by rw [hF]; dsimp only; rw [if_pos c])]
          · rw [if_neg c, fil_s (by rw [hF]; dsimp only; rw [if_neg c])]
      · refine (congrArg (L_X6_make_1 (nI j) a2 FU 0) gset_0.symm).trans (lp_cf (L := fun m i => L_X6_make_1 (nI j) a2 m (nI i) (gset g j i F)) (2 ^ N) (fun m => ?_) (fun m i hi => ?_) (2 ^ N) 0 FU (by omega) (by rw [FU_eq]; omega))
        · show B_X6_make_1 _ _ _ _ _ = _
          rw [B_X6_make_1, z_allM (N := N) (by rw [gset_ne (by omega)]; exact h4) h2, Option.bind_some, if_pos (by rw [ltI (by omega) (by omega)]; omega), e1, Option.bind_some]
        · show B_X6_make_1 _ _ _ _ _ = _
          rw [B_X6_make_1, z_allM (N := N) (by rw [gset_ne (by omega)]; exact h4) h2, Option.bind_some, if_neg (by rw [ltI (by omega) (by omega)]; omega), z_madeM h2 hQ hE (H.gset j i F) a2 (show i < 512 by omega), Option.bind_some]
          have e3 : (if i = 0 then 0 else mv N Q E W ed a2 i) = F i := by rw [hF]
          simp only [e3, z_vix hj (show i < 512 by omega), ck_nI (show 183 + 512 * j + i < 2231 by omega) (show 2231 < 2 ^ 31 by omega), nI_clamp (show 183 + 512 * j + i < 2 ^ 31 by omega), nm_eq, nI_1, gset_s]
    · simp only [if_pos c1, if_neg c2]
      exact ⟨_, _, _, _, rfl, rfl, R⟩
  · simp only [if_neg c1]
    exact ⟨_, _, _, _, rfl, rfl, R⟩
theorem pcn_le (s : Nat) : pcn s ≤ 9 := by
  have h : ∀ b : Bool, (if b = true then 1 else 0) ≤ 1 := fun b => by cases b <;> simp
  unfold pcn
  have h0 := h (s.testBit 0)
  have h1 := h (s.testBit 1)
  have h2 := h (s.testBit 2)
  have h3 := h (s.testBit 3)
  have h4 := h (s.testBit 4)
  have h5 := h (s.testBit 5)
  have h6 := h (s.testBit 6)
  have h7 := h (s.testBit 7)
  have h8 := h (s.testBit 8)
  omega
theorem o_pairs (R : RG N n nd es wt un ed G g) (wk : Nat → Int64) (a1 a2 a3 : Int32) : ∃ r G' wk' g', f_X5_pairs n G wk a1 a2 a3 = some (r, G', wk') ∧ f_X6_pairs g a1 a2 a3 = some (r, g') ∧ RG N n nd es wt un ed G' g' := by
  obtain ⟨h1, h2, h3, h4⟩ := id R.1
  have hp := pw_le h2
  have hp1 := pw_pos N
  simp only [f_X5_pairs, f_X6_pairs, z_isGame, z_isGameM, h3, z_hasSet h2, z_isSetM h4 h2, Option.bind_some]
  by_cases c1 : inb a1 4 = true
  · by_cases c2 : inb a2 (2 ^ N) = true
    · by_cases c3 : inb a3 (2 ^ N) = true
      · simp only [if_pos c1, if_pos c2, if_pos c3]
        obtain ⟨j, hj, hj2, rfl⟩ := inb_of c1
        obtain ⟨a, ha, ha2, rfl⟩ := inb_of c2
        obtain ⟨b, hb, hb2, rfl⟩ := inb_of c3
        obtain ⟨F, hF⟩ : ∃ F : Nat → Int64, F = fun s => lN (min (pcn (s &&& a)) (pcn (s &&& b))) := ⟨_, rfl⟩
        obtain ⟨e1, e2⟩ := R.laid hj F (by rw [hF]; dsimp only; rw [Nat.zero_and, Nat.zero_and]; rfl) wk
        have hs : ∀ s t, s < 2 ^ N → s &&& t < 512 := fun s t h => Nat.lt_of_le_of_lt Nat.and_le_left (by omega)
        have hm : ∀ i, iMin (nI (pcn (i &&& a))) (nI (pcn (i &&& b))) = nI (min (pcn (i &&& a)) (pcn (i &&& b))) := fun i => by
          have := pcn_le (i &&& a)
          have := pcn_le (i &&& b)
          rw [iMin_nI (by omega) (by omega)]
        have hl : ∀ i, (nI (min (pcn (i &&& a)) (pcn (i &&& b)))).toInt64 = F i := fun i => by
          have := pcn_le (i &&& a)
          rw [nI_l (by omega), hF]
        refine ⟨nI (nz (fil wk (2 ^ N) F) (2 ^ N)), _, fil wk (2 ^ N) F, _, ?_, ?_, h3 ▸ e2⟩
        · refine (congrArg (L_X5_pairs_1 (nI N) (nI j) (nI a) (nI b) FU 0 G) fil_0.symm).trans (lp_cf (L := fun m i => L_X5_pairs_1 (nI N) (nI j) (nI a) (nI b) m (nI i) G (fil wk i F)) (2 ^ N) (fun m => ?_) (fun m i hi => ?_) (2 ^ N) 0 FU (by omega) (by rw [FU_eq]; omega))
          · show B_X5_pairs_1 _ _ _ _ _ _ _ _ = _
            rw [B_X5_pairs_1, z_sets h2, Option.bind_some, if_neg (by rw [ltI (by omega) (by omega)]; omega), z_settleMade h2 hj, Option.bind_some]
          · show B_X5_pairs_1 _ _ _ _ _ _ _ _ = _
            rw [B_X5_pairs_1, z_sets h2, Option.bind_some, if_pos (by rw [ltI (by omega) (by omega)]; exact hi), nI_and, nI_and]
            simp only [z_bitCount (hs i a hi), z_bitCount (hs i b hi), Option.bind_some, ck_nI (show i < 512 by omega) (show 512 < 2 ^ 31 by omega), nI_clamp (show i < 2 ^ 31 by omega), nm_eq, nI_1, hm, hl]
            rw [fil_s rfl]
        · refine (congrArg (L_X6_pairs_1 (nI j) (nI a) (nI b) FU 0) gset_0.symm).trans (lp_cf (L := fun m i => L_X6_pairs_1 (nI j) (nI a) (nI b) m (nI i) (gset g j i F)) (2 ^ N) (fun m => ?_) (fun m i hi => ?_) (2 ^ N) 0 FU (by omega) (by rw [FU_eq]; omega))
          · show B_X6_pairs_1 _ _ _ _ _ _ = _
            rw [B_X6_pairs_1, z_allM (N := N) (by rw [gset_ne (by omega)]; exact h4) h2, Option.bind_some, if_pos (by rw [ltI (by omega) (by omega)]; omega), e1, Option.bind_some]
          · show B_X6_pairs_1 _ _ _ _ _ _ = _
            rw [B_X6_pairs_1, z_allM (N := N) (by rw [gset_ne (by omega)]; exact h4) h2, Option.bind_some, if_neg (by rw [ltI (by omega) (by omega)]; omega), nI_and, nI_and]
            simp only [z_size (hs i a hi), z_size (hs i b hi), Option.bind_some, hm, hl, z_vix hj (show i < 512 by omega), ck_nI (show 183 + 512 * j + i < 2231 by omega) (show 2231 < 2 ^ 31 by omega), nI_clamp (show 183 + 512 * j + i < 2 ^ 31 by omega), nm_eq, nI_1, gset_s]
      · simp only [if_pos c1, if_pos c2, if_neg c3]
        exact ⟨_, _, _, _, rfl, rfl, h3 ▸ R⟩
    · simp only [if_pos c1, if_neg c2]
      exact ⟨_, _, _, _, rfl, rfl, h3 ▸ R⟩
  · simp only [if_neg c1]
    exact ⟨_, _, _, _, rfl, rfl, h3 ▸ R⟩
theorem o_differ (R : RG N n nd es wt un ed G g) (a1 a2 : Int32) : ∃ r, f_X5_differ n G a1 a2 = some r ∧ f_X6_differ g a1 a2 = some r := by
  obtain ⟨h1, h2, h3, h4⟩ := id R.1
  have hp := pw_le h2
  have hp1 := pw_pos N
  simp only [f_X5_differ, f_X6_differ, z_isGame, z_isGameM, Option.bind_some]
  by_cases c1 : inb a1 4 = true
  · by_cases c2 : inb a2 4 = true
    · simp only [if_pos c1, if_pos c2]
      obtain ⟨j, hj, hj2, rfl⟩ := inb_of c1
      obtain ⟨k, hk, hk2, rfl⟩ := inb_of c2
      obtain ⟨P, hP⟩ : ∃ P : Nat → Option Int32, P = fun s => if G j s = G k s then none else some (nI s) := ⟨_, rfl⟩
      refine ⟨fstF P (-5) 0 (2 ^ N), ?_, ?_⟩
      · refine lp_fst (L := fun m i => L_X5_differ_1 n G (nI j) (nI k) m (nI i)) P (-5) some (2 ^ N) (fun m => ?_) (fun m i hi => ?_) (2 ^ N) 0 FU (by omega) (by rw [FU_eq]; omega)
        · show B_X5_differ_1 _ _ _ _ _ _ = _
          rw [B_X5_differ_1, h3, z_sets h2, Option.bind_some, if_neg (by rw [ltI (by omega) (by omega)]; omega)]
        · show B_X5_differ_1 _ _ _ _ _ _ = _
          rw [B_X5_differ_1, h3, z_sets h2, Option.bind_some, if_pos (by rw [ltI (by omega) (by omega)]; exact hi)]
          simp only [ck_nI hj (show 4 < 2 ^ 31 by omega), ck_nI hk (show 4 < 2 ^ 31 by omega), ck_nI (show i < 512 by omega) (show 512 < 2 ^ 31 by omega), nI_clamp hj2, nI_clamp hk2, nI_clamp (show i < 2 ^ 31 by omega), nm_eq, nI_1, hP]
          by_cases c : G j i = G k i
          · rw [if_pos c, if_pos c]
          · rw [if_neg c, if_neg c]
      · refine lp_fst (L := fun m i => L_X6_differ_1 g (nI j) (nI k) m (nI i)) P (-5) some (2 ^ N) (fun m => ?_) (fun m i hi => ?_) (2 ^ N) 0 FU (by omega) (by rw [FU_eq]; omega)
        · show B_X6_differ_1 _ _ _ _ _ = _
          rw [B_X6_differ_1, R.all, Option.bind_some, if_pos (by rw [ltI (by omega) (by omega)]; omega)]
        · show B_X6_differ_1 _ _ _ _ _ = _
          rw [B_X6_differ_1, R.all, Option.bind_some, if_neg (by rw [ltI (by omega) (by omega)]; omega), R.v hj hi, R.v hk hi]
          simp only [Option.bind_some, nm_eq, nI_1, hP]
          by_cases c : G j i = G k i
          · rw [if_pos c, if_pos c]
          · rw [if_neg c, if_neg c]
    · simp only [if_pos c1, if_neg c2]
      exact ⟨_, rfl, rfl⟩
  · simp only [if_neg c1]
    exact ⟨_, rfl, rfl⟩
def fresh (A : Nat → Int64) (s : Nat) : Bool := allF (fun b => !decide (A b = A s)) 0 s
theorem fst_all {A : Nat → Int64} {s : Nat} : ∀ c i, i + c ≤ s → ((fstF (fun b => if A b = A s then some b else none) s i c = s) = (allF (fun b => !decide (A b = A s)) i c = true))
  | 0, i, h => by simp [fstF, allF]
  | c + 1, i, h => by
    have ih := fst_all (A := A) (s := s) c (i + 1) (by omega)
    by_cases e : A i = A s
    · simp only [fstF, allF, if_pos e, e]
      simp
      omega
    · simp only [fstF, allF, if_neg e, ih]
      simp [e]
theorem fst_le {A : Nat → Int64} {s : Nat} : ∀ c i, i + c ≤ s → fstF (fun b => if A b = A s then some b else none) s i c ≤ s
  | 0, i, h => Nat.le_refl _
  | c + 1, i, h => by
    have ih := fst_le (A := A) (s := s) c (i + 1) (by omega)
    by_cases e : A i = A s
    · simp only [fstF, if_pos e]
      omega
    · simp only [fstF, if_neg e]
      exact ih
theorem z_met {A : Nat → Int64} {s : Nat} (hs : s < 512) : f_X5_isMetBefore A (nI s) = some (!fresh A s) := by
  have h := lp_all (L := fun m i => L_X5_isMetBefore_1 A (nI s) m (nI i)) (K := some false) (R := some true) (fun b => !decide (A b = A s)) s (fun m => ?_) (fun m i hi => ?_) s 0 FU (by omega) (by rw [FU_eq]; omega)
  · rw [f_X5_isMetBefore]
    refine h.trans ?_
    unfold fresh
    cases allF (fun b => !decide (A b = A s)) 0 s <;> rfl
  · show B_X5_isMetBefore_1 _ _ _ _ = _
    rw [B_X5_isMetBefore_1, if_neg (by rw [ltI (by omega) (by omega)]; omega)]
  · show B_X5_isMetBefore_1 _ _ _ _ = _
    rw [B_X5_isMetBefore_1, if_pos (by rw [ltI (by omega) (by omega)]; exact hi)]
    simp only [ck_nI (show i < 512 by omega) (show 512 < 2 ^ 31 by omega), ck_nI hs (show 512 < 2 ^ 31 by omega), nI_clamp (show i < 2 ^ 31 by omega), nI_clamp (show s < 2 ^ 31 by omega), nm_eq, nI_1]
    by_cases c : A i = A s <;> simp [c]
theorem o_unlike (R : RG N n nd es wt un ed G g) (a1 : Int32) : ∃ r, f_X5_unlike n G a1 = some r ∧ f_X6_unlike g a1 = some r := by
  obtain ⟨h1, h2, h3, h4⟩ := id R.1
  have hp := pw_le h2
  have hp1 := pw_pos N
  simp only [f_X5_unlike, f_X6_unlike, z_isGame, z_isGameM, Option.bind_some]
  by_cases c1 : inb a1 4 = true
  · simp only [if_pos c1]
    obtain ⟨j, hj, hj2, rfl⟩ := inb_of c1
    refine ⟨nI (cnt (fresh (G j)) (2 ^ N)), ?_, ?_⟩
    · refine lp_cf (L := fun m i => L_X5_unlike_1 n G (nI j) m (nI (cnt (fresh (G j)) i)) (nI i)) (2 ^ N) (fun m => ?_) (fun m i hi => ?_) (2 ^ N) 0 FU (by omega) (by rw [FU_eq]; omega)
      · show B_X5_unlike_1 _ _ _ _ _ _ = _
        rw [B_X5_unlike_1, h3, z_sets h2, Option.bind_some, if_neg (by rw [ltI (by omega) (by omega)]; omega)]
      · show B_X5_unlike_1 _ _ _ _ _ _ = _
        rw [B_X5_unlike_1, h3, z_sets h2, Option.bind_some, if_pos (by rw [ltI (by omega) (by omega)]; exact hi)]
        simp only [ck_nI hj (show 4 < 2 ^ 31 by omega), nI_clamp hj2, z_met (show i < 512 by omega), Option.bind_some, jn1_eq, nm_eq, nI_1]
        cases c : fresh (G j) i <;> simp [cnt, c]
    · refine lp_cf (L := fun m i => L_X6_unlike_1 g (nI j) m (nI (cnt (fresh (G j)) i)) (nI i)) (2 ^ N) (fun m => ?_) (fun m i hi => ?_) (2 ^ N) 0 FU (by omega) (by rw [FU_eq]; omega)
      · show B_X6_unlike_1 _ _ _ _ _ = _
        rw [B_X6_unlike_1, R.all, Option.bind_some, if_pos (by rw [ltI (by omega) (by omega)]; omega)]
      · show B_X6_unlike_1 _ _ _ _ _ = _
        rw [B_X6_unlike_1, R.all, Option.bind_some, if_neg (by rw [ltI (by omega) (by omega)]; omega)]
        have e : ∀ kx : Int32 → Option Int32, L_X6_unlike_2 g (nI j) (nI i) kx FU 0 = kx (nI (fstF (fun b => if G j b = G j i then some b else none) i 0 i)) := fun kx => by
          refine lp_fst (L := fun m b => L_X6_unlike_2 g (nI j) (nI i) kx m (nI b)) (fun b => if G j b = G j i then some b else none) i (fun t => kx (nI t)) i (fun m => ?_) (fun m b hb => ?_) i 0 FU (by omega) (by rw [FU_eq]; omega)
          · show B_X6_unlike_2 _ _ _ _ _ _ = _
            rw [B_X6_unlike_2, R.v hj hi, Option.bind_some, Option.bind_some, if_pos rfl]
          · show B_X6_unlike_2 _ _ _ _ _ _ = _
            rw [B_X6_unlike_2, R.v hj (show b < 2 ^ N by omega), Option.bind_some, R.v hj hi, Option.bind_some]
            simp only [nm_eq, nI_1]
            by_cases c : G j b = G j i
            · rw [if_pos c, if_pos c]
            · rw [if_neg c, if_neg c]
        have hle := fst_le (A := G j) (s := i) i 0 (by omega)
        rw [e]
        simp only [jn1_eq, nm_eq, nI_1, eqI (show fstF (fun b => if G j b = G j i then some b else none) i 0 i < 2 ^ 31 by omega) (show i < 2 ^ 31 by omega), fst_all (A := G j) (s := i) i 0 (by omega)]
        change (if fresh (G j) i = true then _ else _) = _
        cases c : fresh (G j) i
        · rw [if_neg (by decide), nI_zero, nI_add]
          simp [cnt, c]
        · rw [if_pos rfl]
          simp [cnt, c]
  · simp only [if_neg c1]
    exact ⟨_, rfl, rfl⟩
end OP8
