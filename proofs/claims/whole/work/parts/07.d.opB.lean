/-! PURE PART: worst, stable, power. -/
def oi : Option Nat → Int32
  | none => -5
  | some k => nI k
def wst (N : Nat) (F V : Nat → Int64) : Nat → Option Nat × Int64 × Bool
  | 0 => (none, 0, false)
  | i + 1 =>
    let p := wst N F V i
    let q := ts F (i + 1) p.2.2 N
    let d := V (i + 1) - q.1
    let b := q.2 || ovm (V (i + 1)) q.1
    match p.1 with
    | none => (some (i + 1), d, b)
    | some k => if p.2.1 < d then (some (i + 1), d, b) else (some k, p.2.1, b)
theorem wst_le {N : Nat} {F V : Nat → Int64} : ∀ i k, (wst N F V i).1 = some k → k ≤ i
  | 0, k, h => by cases h
  | i + 1, k, h => by
    have ih := wst_le (N := N) (F := F) (V := V) i
    revert h
    simp only [wst]
    split
    · intro h; cases h; exact Nat.le_refl _
    · rename_i k' e
      have := ih k' e
      split <;> intro h <;> cases h <;> omega
theorem if_o {b : Bool} {x y : Int32} : (some (if b = true then x else y, b) : Option (Int32 × Bool)) = if b = true then some (x, b) else some (y, b) := by cases b <;> rfl
theorem nI_n5 {k : Nat} (h : k < 2 ^ 31) : ¬ nI k = -5 := fun e => nI_pos h (e ▸ (by decide))
theorem ts_0 {F : Nat → Int64} {b : Bool} : ∀ i, ts F 0 b i = (0, b)
  | 0 => rfl
  | i + 1 => by rw [ts, Nat.zero_testBit, if_neg (by decide), ts_0 i]
section OPB
variable {N : Nat} {n nd es : Int32} {wt un ed : Nat → Int32} {G : Nat → Nat → Int64} {g : Nat → Int64} {sz ct : Nat → Int32} {P : Nat → Nat → Int64} {it : Nat → Int64} {r c : Nat} {F : Nat → Int64}
theorem o_worst (R : RG N n nd es wt un ed G g) (S : RR sz P ct it) (bey isB : Bool) (a1 a2 a3 : Int32) : ∃ r b1 b2, f_X5_worst n bey sz G P a1 a2 a3 = some (r, b1) ∧ f_X6_worst isB g ct it a1 a2 a3 = some (r, b2) := by
  obtain ⟨h1, h2, h3, h4⟩ := id R.1
  subst h3
  have hp := pw_le h2
  have hp1 : 2 ≤ 2 ^ N := by
    have := Nat.pow_le_pow_right (n := 2) (by omega) h1
    simpa using this
  simp only [f_X5_worst, f_X6_worst, z_isGame, z_isGameM, z_isRow, z_isRowM, Option.bind_some]
  by_cases c0 : inb a1 4 = true
  · simp only [if_pos c0]
    by_cases c1 : inb a2 4 = true
    · simp only [if_pos c1]
      obtain ⟨j, hj, hj2, rfl⟩ := inb_of c0
      obtain ⟨r, hr, hr2, rfl⟩ := inb_of c1
      have b := S.rng hr
      rw [z_holds hr (by omega) b.1 b.2, z_isThere S h4 h1 h2 hr, Option.bind_some, Option.bind_some]
      by_cases c2 : hld (sz r) a3 N = true
      · obtain ⟨c, hc, rfl, A⟩ := S.at hr c2 h1
        obtain ⟨F, hF⟩ : ∃ F : Nat → Int64, F = fun j => P r (c + j) := ⟨_, rfl⟩
        rw [← hF] at A
        rw [if_pos c2, if_pos c2]
        simp only [f_X1_begin, Option.bind_some, nm_eq]
        obtain ⟨w, hw⟩ : ∃ w, w = wst N F (G j) (2 ^ N - 2) := ⟨_, rfl⟩
        refine ⟨if w.2.2 = true then -6 else oi w.1, w.2.2, w.2.2, ?_, ?_⟩
        · refine lp_cf (L := fun m i => L_X5_worst_1 (nI N) sz G P (nI j) (nI r) (nI c) _ m (oi (wst N F (G j) i).1) (wst N F (G j) i).2.1 (nI (i + 1)) (wst N F (G j) i).2.2) (2 ^ N - 2) (fun m => ?_) (fun m i hi => ?_) (2 ^ N - 2) 0 FU (by omega) (by rw [FU_eq]; omega)
          · show B_X5_worst_1 _ _ _ _ _ _ _ _ _ _ _ _ _ = _
            rw [B_X5_worst_1, z_every h2, Option.bind_some, if_neg (by rw [ltI (by omega) (by omega)]; omega), ← hw]
            exact if_o.symm
          · show B_X5_worst_1 _ _ _ _ _ _ _ _ _ _ _ _ _ = _
            rw [B_X5_worst_1, z_every h2, Option.bind_some, if_pos (by rw [ltI (by omega) (by omega)]; omega), ck_nI hj (by omega), ck_nI (show i + 1 < 512 by omega) (by omega), A.sum h2 (by omega), Option.bind_some, z_less, Option.bind_some, nI_clamp hj2, nI_clamp (by omega)]
            simp only [jn0_eq, jn2_eq, nm_eq, nI_1]
            have hle := wst_le (N := N) (F := F) (V := G j) i
            cases e : (wst N F (G j) i).1 with
            | none => simp only [wst, e, oi, if_true]
            | some k =>
              have := hle k e
              have h5 := nI_n5 (show k < 2 ^ 31 by omega)
              simp only [wst, e, oi, h5, if_false]
              split <;> simp [oi]
        · refine lp_cf (L := fun m i => L_X6_worst_1 g it (nI j) (nI r) (nI c) _ m (oi (wst N F (G j) i).1) (wst N F (G j) i).2.1 (nI (i + 1)) (wst N F (G j) i).2.2) (2 ^ N - 2) (fun m => ?_) (fun m i hi => ?_) (2 ^ N - 2) 0 FU (by omega) (by rw [FU_eq]; omega)
          · show B_X6_worst_1 _ _ _ _ _ _ _ _ _ _ _ = _
            rw [B_X6_worst_1, R.all, Option.bind_some, if_neg (by rw [ltI (by omega) (by omega)]; omega), ← hw]
            exact if_o.symm
          · show B_X6_worst_1 _ _ _ _ _ _ _ _ _ _ _ = _
            rw [B_X6_worst_1, R.all, Option.bind_some, if_pos (by rw [ltI (by omega) (by omega)]; omega), R.v hj (by omega), Option.bind_some, A.sumM h2 h4 (by omega), Option.bind_some, z_minus, Option.bind_some]
            simp only [jn0_eq, jn2_eq, nm_eq, nI_1]
            have hle := wst_le (N := N) (F := F) (V := G j) i
            cases e : (wst N F (G j) i).1 with
            | none =>
              simp only [wst, e, oi, eq_true (show (-5 : Int32) < 0 by decide), if_true]
            | some k =>
              have := hle k e
              have h5 := nI_pos (show k < 2 ^ 31 by omega)
              simp only [wst, e, oi, h5, if_false]
              split <;> simp [oi]
      · rw [if_neg c2, if_neg c2]
        exact ⟨_, _, _, rfl, rfl⟩
    · simp only [if_neg c1]
      exact ⟨_, _, _, rfl, rfl⟩
  · simp only [if_neg c0]
    exact ⟨_, _, _, rfl, rfl⟩
theorem x_stable {a1 a2 a3 v : Int32} {kx : Bool → Bool → Option (Int32 × Bool)} (R : RG N n nd es wt un ed G g) {f b : Bool} (h : f = false ∨ b = true) (m : Nat) : L_X6_stable_1 g it a1 a2 a3 kx (m + 1) f v b = kx f b := by
  show B_X6_stable_1 _ _ _ _ _ _ _ _ _ _ = _
  rw [B_X6_stable_1, R.all, Option.bind_some]
  split
  · rfl
  · rcases h with h | h
    · subst h; rfl
    · subst h; cases f <;> rfl
def sbl (N : Nat) (F V : Nat → Int64) (s : Nat) : Option (Int32 × Bool) :=
  if (ts F s false N).2 = true then some (-6, true) else if (ts F s false N).1 < V s then some (0, false) else none
theorem l_stable (R : RG N n nd es wt un ed G g) (A : AT sz P it r c N F) {j : Nat} (hj : j < 4) : ∀ k i m : Nat, i + k = 2 ^ N → k + 1 < m → L_X6_stable_1 g it (nI j) (nI r) (nI c) (fun (v22 : Bool) (isB23 : Bool) => if isB23 = true then (some ((-6), isB23)) else (if v22 = true then (some (1, isB23)) else (some (0, isB23)))) m true (nI i) false = some (fstF (sbl N F (G j)) (1, false) i k)
  | 0, i, m, e, hm => by
    obtain ⟨m, rfl⟩ : ∃ k, m = k + 1 := ⟨m - 1, by omega⟩
    have hp := pw_le R.1.2.1
    have hp1 := pw_pos N
    show B_X6_stable_1 _ _ _ _ _ _ _ _ _ _ = _
    rw [B_X6_stable_1, R.all, Option.bind_some, if_pos (by rw [ltI (by omega) (by omega)]; omega)]
    rfl
  | k + 1, i, m, e, hm => by
    obtain ⟨m, rfl⟩ : ∃ k, m = k + 2 := ⟨m - 2, by omega⟩
    have hp := pw_le R.1.2.1
    have hp1 := pw_pos N
    have ih := l_stable R A hj k (i + 1) (m + 1) (by omega) (by omega)
    show B_X6_stable_1 _ _ _ _ _ _ _ _ _ _ = _
    rw [B_X6_stable_1, R.all, Option.bind_some, if_neg (by rw [ltI (by omega) (by omega)]; omega), if_pos rfl, if_neg (by decide), R.v hj (by omega), Option.bind_some, A.sumM R.1.2.1 R.1.2.2.2 (by omega), Option.bind_some]
    simp only [jn1_eq, nm_eq, nI_1]
    rw [fstF]
    cases hb : (ts F i false N).2
    · by_cases hl : (ts F i false N).1 < G j i
      · rw [if_pos hl, x_stable R (Or.inl rfl)]
        simp [sbl, hb, hl]
      · rw [if_neg hl, ih]
        simp [sbl, hb, hl]
    · have : ∀ f : Bool, L_X6_stable_1 g it (nI j) (nI r) (nI c) (fun (v22 : Bool) (isB23 : Bool) => if isB23 = true then (some ((-6), isB23)) else (if v22 = true then (some (1, isB23)) else (some (0, isB23)))) (m + 1) f (nI (i + 1)) true = some (-6, true) := fun f => by
        rw [x_stable R (Or.inr rfl)]; rfl
      rw [this, this]
      simp [sbl, hb]
theorem o_stable (R : RG N n nd es wt un ed G g) (S : RR sz P ct it) (bey isB : Bool) (a1 a2 a3 : Int32) : ∃ r b1 b2, f_X5_stable n bey sz G P a1 a2 a3 = some (r, b1) ∧ f_X6_stable isB g ct it a1 a2 a3 = some (r, b2) := by
  obtain ⟨h1, h2, h3, h4⟩ := id R.1
  subst h3
  have hp := pw_le h2
  have hp1 : 2 ≤ 2 ^ N := by
    have := Nat.pow_le_pow_right (n := 2) (by omega) h1
    simpa using this
  simp only [f_X5_stable, f_X6_stable, z_isGame, z_isGameM, z_isRow, z_isRowM, Option.bind_some]
  by_cases c0 : inb a1 4 = true
  · simp only [if_pos c0]
    by_cases c1 : inb a2 4 = true
    · simp only [if_pos c1]
      obtain ⟨j, hj, hj2, rfl⟩ := inb_of c0
      obtain ⟨r, hr, hr2, rfl⟩ := inb_of c1
      have b := S.rng hr
      rw [z_holds hr (by omega) b.1 b.2, z_isThere S h4 h1 h2 hr, Option.bind_some, Option.bind_some]
      by_cases c2 : hld (sz r) a3 N = true
      · obtain ⟨c, hc, rfl, A⟩ := S.at hr c2 h1
        obtain ⟨F, hF⟩ : ∃ F : Nat → Int64, F = fun j => P r (c + j) := ⟨_, rfl⟩
        rw [← hF] at A
        rw [if_pos c2, if_pos c2]
        simp only [f_X1_begin, Option.bind_some, nm_eq, z_every h2, R.all, jn1_eq]
        rw [ck_nI hj (by omega), A.sum h2 (by omega), Option.bind_some, A.sumM h2 h4 (by omega), Option.bind_some, R.v hj (by omega), Option.bind_some]
        cases hb : (ts F (2 ^ N - 1) false N).2
        · simp only [Bool.false_eq_true, if_false]
          rw [ck_nI (by omega) (by omega), nI_clamp hj2, nI_clamp (by omega)]
          by_cases he : (ts F (2 ^ N - 1) false N).1 = G j (2 ^ N - 1)
          · rw [if_pos he, if_pos he]
            have e1 := l_stable R A hj (2 ^ N - 1) 1 FU (by omega) (by rw [FU_eq]; omega)
            have e2 : L_X5_stable_1 (nI N) sz G P (nI j) (nI r) (nI c) FU 0 false = some (fstF (sbl N F (G j)) (1, false) 0 (2 ^ N)) := by
              refine lp_fst (L := fun m i => L_X5_stable_1 (nI N) sz G P (nI j) (nI r) (nI c) m (nI i) false) (sbl N F (G j)) (1, false) some (2 ^ N) (fun m => ?_) (fun m i hi => ?_) (2 ^ N) 0 FU (by omega) (by rw [FU_eq]; omega)
              · show B_X5_stable_1 _ _ _ _ _ _ _ _ _ _ = _
                rw [B_X5_stable_1, z_sets h2, Option.bind_some, if_neg (by rw [ltI (by omega) (by omega)]; omega)]
              · show B_X5_stable_1 _ _ _ _ _ _ _ _ _ _ = _
                rw [B_X5_stable_1, z_sets h2, Option.bind_some, if_pos (by rw [ltI (by omega) (by omega)]; omega), A.sum h2 (by omega), Option.bind_some, ck_nI (by omega) (by omega), nI_clamp (by omega), nI_clamp (by omega), nI_1]
                simp only [nm_eq]
                cases hb2 : (ts F i false N).2
                · by_cases hl : (ts F i false N).1 < G j i
                  · simp [sbl, hb2, hl]
                  · simp [sbl, hb2, hl]
                · simp [sbl, hb2]
            have e3 : fstF (sbl N F (G j)) (1, false) 0 (2 ^ N) = fstF (sbl N F (G j)) (1, false) 1 (2 ^ N - 1) := by
              have : 2 ^ N = (2 ^ N - 1) + 1 := by omega
              rw [this, fstF]
              have : sbl N F (G j) 0 = none := by
                rw [sbl, ts_0, R.2.2.2.2.2.2.2 j hj]
                rfl
              rw [this, Nat.add_sub_cancel]
            rw [e2, e3]
            exact ⟨_, _, _, rfl, e1⟩
          · rw [if_neg he, if_neg he]
            refine ⟨_, _, _, rfl, x_stable R (Or.inl rfl) 99999⟩
        · have e : ∀ f, L_X6_stable_1 g it (nI j) (nI r) (nI c) (fun (v22 : Bool) (isB23 : Bool) => if isB23 = true then (some ((-6), isB23)) else (if v22 = true then (some (1, isB23)) else (some (0, isB23)))) FU f 1 true = some (-6, true) := fun f => by
            refine (x_stable R (Or.inr rfl) 99999).trans ?_
            rfl
          rw [e, e]
          refine ⟨_, _, true, rfl, ?_⟩
          split <;> rfl
      · rw [if_neg c2, if_neg c2]
        exact ⟨_, _, _, rfl, rfl⟩
    · simp only [if_neg c1]
      exact ⟨_, _, _, rfl, rfl⟩
  · simp only [if_neg c0]
    exact ⟨_, _, _, rfl, rfl⟩
-- what a partner adds
def bt (s p : Nat) : Nat := s ||| 2 ^ p
theorem bt_lt {N s p : Nat} (hs : s < 2 ^ N) (hp : p < N) : bt s p < 2 ^ N := Nat.or_lt_two_pow hs (Nat.pow_lt_pow_right (by omega) hp)
def gn (V : Nat → Int64) (p s : Nat) : Int64 := V (bt s p) - V s
def gno (V : Nat → Int64) (p s : Nat) : Bool := ovm (V (bt s p)) (V s)
theorem z_addedBy (hN : N ≤ 9) {p s : Nat} (hp : p < N) (hs : s < 2 ^ N) (b : Bool) (V : Nat → Int64) : f_X5_addedBy b V (nI p) (nI s) = some (gn V p s, b || gno V p s) := by
  have h2 := pw_le hN
  have h3 := bt_lt hs hp
  rw [f_X5_addedBy, shl_pw (by omega), nI_or]
  change ck (inb (nI (bt s p)) 512) (ck _ (Option.bind (f_X1_less b (V (nI (bt s p)).toNatClampNeg) _) _)) = _
  rw [ck_nI (by omega) (by omega), ck_nI (by omega) (by omega), nI_clamp (by omega), nI_clamp (by omega), z_less]
  rfl
theorem RG.gain (R : RG N n nd es wt un ed G g) {j p s : Nat} (hj : j < 4) (hp : p < N) (hs : s < 2 ^ N) (b : Bool) : f_X6_gain b g (nI j) (nI p) (nI s) = some (gn (G j) p s, b || gno (G j) p s) := by
  have h2 := pw_le R.1.2.1
  have hN := R.1.2.1
  have h3 := bt_lt hs hp
  rw [f_X6_gain, shl_pw (by omega), nI_or]
  change Option.bind (f_X6_v g (nI j) (nI (bt s p))) _ = _
  rw [R.v hj h3, Option.bind_some, R.v hj hs, Option.bind_some, z_minus]
  rfl
def pws (V : Nat → Int64) (p : Nat) : Nat → Int64 × Bool
  | 0 => (0, false)
  | s + 1 => if s.testBit p = true then pws V p s else ((pws V p s).1 + gn V p s, ((pws V p s).2 || gno V p s) || ovp (pws V p s).1 (gn V p s))
theorem o_power (R : RG N n nd es wt un ed G g) (bey isB : Bool) (a1 a2 : Int32) : ∃ r b1 b2, f_X5_power n bey G a1 a2 = some (r, b1) ∧ f_X6_power isB g a1 a2 = some (r, b2) := by
  obtain ⟨h1, h2, h3, h4⟩ := id R.1
  subst h3
  have hp := pw_le h2
  have hp1 := pw_pos N
  simp only [f_X5_power, f_X6_power, z_isGame, z_isGameM, z_hasPartner h2, z_isPartnerM h4 h1 h2, Option.bind_some, f_X1_begin, nm_eq]
  by_cases c0 : inb a1 4 = true
  · by_cases c1 : inb a2 N = true
    · simp only [if_pos c0, if_pos c1]
      obtain ⟨j, hj, hj2, rfl⟩ := inb_of c0
      obtain ⟨p, hq, hq2, rfl⟩ := inb_of c1
      rw [ck_nI hj (by omega)]
      obtain ⟨w, hw⟩ : ∃ w, w = pws (G j) p (2 ^ N) := ⟨_, rfl⟩
      refine ⟨if w.2 = true then -9223372036854775808 else w.1, w.2, w.2, ?_, ?_⟩
      · refine lp_cf (L := fun m i => L_X5_power_1 (nI N) G (nI j) (nI p) _ m (pws (G j) p i).1 (nI i) (pws (G j) p i).2) (2 ^ N) (fun m => ?_) (fun m i hi => ?_) (2 ^ N) 0 FU (by omega) (by rw [FU_eq]; omega)
        · show B_X5_power_1 _ _ _ _ _ _ _ _ _ = _
          rw [B_X5_power_1, z_sets h2, Option.bind_some, if_neg (by rw [ltI (by omega) (by omega)]; omega), ← hw]
          exact if_p.symm
        · show B_X5_power_1 _ _ _ _ _ _ _ _ _ = _
          rw [B_X5_power_1, z_sets h2, Option.bind_some, if_pos (by rw [ltI (by omega) (by omega)]; omega), z_has (by omega) (by omega), Option.bind_some]
          simp only [jn2_eq, nm_eq]
          rw [nI_1, nI_clamp hj2, z_addedBy h2 hq hi, Option.bind_some, z_plus, Option.bind_some]
          by_cases e : i.testBit p = true
          · simp only [if_pos e, pws]
          · simp only [if_neg e, pws]
      · refine lp_cf (L := fun m i => L_X6_power_1 g (nI j) (nI p) _ m (pws (G j) p i).1 (nI i) (pws (G j) p i).2) (2 ^ N) (fun m => ?_) (fun m i hi => ?_) (2 ^ N) 0 FU (by omega) (by rw [FU_eq]; omega)
        · show B_X6_power_1 _ _ _ _ _ _ _ _ = _
          rw [B_X6_power_1, R.all, Option.bind_some, if_pos (by rw [ltI (by omega) (by omega)]; omega), ← hw]
          exact if_p.symm
        · show B_X6_power_1 _ _ _ _ _ _ _ _ = _
          rw [B_X6_power_1, R.all, Option.bind_some, if_neg (by rw [ltI (by omega) (by omega)]; omega), z_hasM (by omega) (by omega), Option.bind_some]
          simp only [jn2_eq, nm_eq]
          rw [nI_1, R.gain hj hq hi, Option.bind_some, z_plusM, Option.bind_some]
          by_cases e : i.testBit p = true
          · simp only [if_pos e, pws]
          · simp only [if_neg e, pws]
    · simp only [if_pos c0, if_neg c1]
      exact ⟨_, _, _, rfl, rfl⟩
  · simp only [if_neg c0]
    exact ⟨_, _, _, rfl, rfl⟩
end OPB
