/-! PURE PART: pivot, adds, excess, worst, stable. -/
theorem if_p {b : Bool} {x y : Int64} : (some (if b = true then x else y, b) : Option (Int64 × Bool)) = if b = true then some (x, b) else some (y, b) := by cases b <;> rfl
section OPA
variable {N : Nat} {n nd es : Int32} {wt un ed : Nat → Int32} {G : Nat → Nat → Int64} {g : Nat → Int64} {sz ct : Nat → Int32} {P : Nat → Nat → Int64} {it : Nat → Int64} {r c : Nat} {F : Nat → Int64}
theorem pk_i {v : Int64} (h : v = lN (pk v)) : v.toInt32 = nI (pk v) := (congrArg Int64.toInt32 h).trans (lN_i _)
theorem ordr_in (h : ordr N F = true) : ∀ j, j < N → pt N (F j) = true := fun j hj => by
  simp only [ordr, Bool.and_eq_true] at h
  exact (allF_iff N 0).mp h.1 j (by omega) (by omega)
theorem AT.ahead (A : AT sz P it r c N F) (hN : N ≤ 9) (h : ordr N F = true) {k : Nat} (hk : k ≤ N) : f_X6_ahead it (nI r) (nI c) (nI k) = some (nI (mk F k)) := by
  refine lp_cf (L := fun m i => L_X6_ahead_1 it (nI r) (nI c) (nI k) m (nI (mk F i)) (nI i)) k (fun m => ?_) (fun m i hi => ?_) k 0 FU (by omega) (by rw [FU_eq]; omega)
  · show B_X6_ahead_1 _ _ _ _ _ _ _ = _
    rw [B_X6_ahead_1, if_neg (by rw [ltI (by omega) (by omega)]; omega)]
  · show B_X6_ahead_1 _ _ _ _ _ _ _ = _
    have d2 := pt_of (by omega) (ordr_in h i (by omega))
    rw [B_X6_ahead_1, if_pos (by rw [ltI (by omega) (by omega)]; exact hi), A.cck (by omega), A.cit (by omega), pk_i d2.2, shl_pw (by omega), nI_or, nI_1]
    rfl
theorem or_same {m p : Nat} (h : m.testBit p = true) : m ||| 2 ^ p = m := by
  apply Nat.eq_of_testBit_eq
  intro i
  rw [Nat.testBit_or, tb2]
  by_cases e : p = i
  · subst e; rw [h]; rfl
  · simp [e]
theorem z_swing {Q : Nat} (hN : N ≤ 9) (hQ : Q ≤ 9999) {W : Nat → Nat} (hw : ∀ p, p < 9 → wt p = nI (W p)) (hw1 : ∀ p, p < 9 → W p ≤ 1000) {m p : Nat} (hm : m < 2 ^ N) (hp : p < N) : f_X0_isSwing (nI N) (nI Q) wt (nI m) (nI p) = some (!wn Q W N m && wn Q W N (m ||| 2 ^ p)) := by
  have h2 := pw_le hN
  have h3 : m ||| 2 ^ p < 2 ^ N := Nat.or_lt_two_pow hm (Nat.pow_lt_pow_right (by omega) hp)
  simp only [f_X0_isSwing, jn0_eq]
  rw [z_has (by omega) (by omega), Option.bind_some, shl_pw (by omega), nI_or, z_wins hN hQ hw hw1 (by omega), z_wins hN hQ hw hw1 (by omega)]
  by_cases e : m.testBit p = true
  · rw [if_pos e, or_same e]
    cases wn Q W N m <;> rfl
  · rw [if_neg e]
    cases wn Q W N m
    · cases wn Q W N (m ||| 2 ^ p) <;> rfl
    · rfl
theorem o_pivot (R : RG N n nd es wt un ed G g) (S : RR sz P ct it) (a1 a2 : Int32) : ∃ r, f_X5_pivot n nd wt sz P a1 a2 = some r ∧ f_X6_pivot g ct it a1 a2 = some r := by
  obtain ⟨h1, h2, h3, h4⟩ := id R.1
  obtain ⟨Q, E, W, q1, -, rfl, -, hw, H⟩ := R.head
  subst h3
  have hp := pw_le h2
  simp only [f_X5_pivot, f_X6_pivot, z_isRow, z_isRowM, Option.bind_some]
  by_cases c1 : inb a1 4 = true
  · simp only [if_pos c1]
    obtain ⟨r, hr, hr2, rfl⟩ := inb_of c1
    by_cases c2 : hld (sz r) a2 N = true
    · obtain ⟨c, hc, rfl, A⟩ := S.at hr c2 h1
      rw [A.order h2 h1, A.orderM h2 h1 h4 S, Option.bind_some, Option.bind_some]
      by_cases c3 : ordr N (fun j => P r (c + j)) = true
      · rw [if_pos c3, if_pos c3]
        obtain ⟨F, hF⟩ : ∃ F : Nat → Int64, F = fun j => P r (c + j) := ⟨_, rfl⟩
        rw [← hF] at A c3
        have hm : ∀ i, i ≤ N → mk F i < 2 ^ N := fun i hi => mk_lt (by omega) i (fun j hj => ordr_in c3 j (by omega))
        obtain ⟨X, hX⟩ : ∃ X : Nat → Option Int32, X = fun i => if (!wn Q W N (mk F i) && wn Q W N (mk F (i + 1))) = true then some (nI (pk (F i))) else none := ⟨_, rfl⟩
        refine ⟨fstF X (-5) 0 N, ?_, ?_⟩
        · refine lp_fst (L := fun m i => L_X5_pivot_1 (nI N) (nI Q) wt sz P (nI r) (nI c) m (nI (mk F i)) (nI i)) X (-5) some N (fun m => ?_) (fun m i hi => ?_) N 0 FU (by omega) (by rw [FU_eq]; omega)
          · show B_X5_pivot_1 _ _ _ _ _ _ _ _ _ _ = _
            rw [B_X5_pivot_1, if_neg (by rw [ltI (by omega) (by omega)]; omega)]
          · show B_X5_pivot_1 _ _ _ _ _ _ _ _ _ _ = _
            have d := ordr_in c3 i hi
            have d2 := pt_of (by omega) d
            rw [B_X5_pivot_1, if_pos (by rw [ltI (by omega) (by omega)]; exact hi), A.partner h2 hi, Option.bind_some, if_pos d, z_swing h2 q1 hw (fun p hp => (H.2.2.2.1 p hp).1) (hm i (by omega)) d2.1, Option.bind_some, shl_pw (by omega), nI_or, nI_1, hX]
            simp only [nm_eq]
            change (if (!wn Q W N (mk F i) && wn Q W N (mk F (i + 1))) = true then _ else _) = _
            cases (!wn Q W N (mk F i) && wn Q W N (mk F (i + 1))) <;> rfl
        · refine lp_fst (L := fun m i => L_X6_pivot_1 g it (nI r) (nI c) m (nI i)) X (-5) some N (fun m => ?_) (fun m i hi => ?_) N 0 FU (by omega) (by rw [FU_eq]; omega)
          · show B_X6_pivot_1 _ _ _ _ _ _ = _
            rw [B_X6_pivot_1, z_nM h4, Option.bind_some, if_neg (by rw [ltI (by omega) (by omega)]; omega)]
          · show B_X6_pivot_1 _ _ _ _ _ _ = _
            have d := ordr_in c3 i hi
            have d2 := pt_of (by omega) d
            have e1 := hm i (by omega)
            have e2 := hm (i + 1) (by omega)
            rw [B_X6_pivot_1, z_nM h4, Option.bind_some, if_pos (by rw [ltI (by omega) (by omega)]; exact hi), A.ahead h2 c3 (by omega), Option.bind_some, z_winsM h2 q1 h4 H.2.1 H.2.2.2.1 (by omega), Option.bind_some]
            simp only [jn0_eq, nm_eq]
            rw [nI_1, A.ahead h2 c3 (by omega), Option.bind_some, z_winsM h2 q1 h4 H.2.1 H.2.2.2.1 (by omega), Option.bind_some, A.cck hi, A.cit hi, hX]
            rw [pk_i d2.2]
            dsimp only
            cases wn Q W N (mk F i) <;> cases wn Q W N (mk F (i + 1)) <;> rfl
      · rw [if_neg c3, if_neg c3]
        exact ⟨_, rfl, rfl⟩
    · have b := S.rng hr
      have e1 : f_X5_isOrder (nI N) sz P (nI r) a2 = some false := by
        rw [f_X5_isOrder, z_holds hr (by omega) b.1 b.2, Option.bind_some, if_neg c2]
      have e2 : f_X6_isOrder g ct it (nI r) a2 = some false := by
        rw [f_X6_isOrder, z_isThere S h4 h1 h2 hr, Option.bind_some, if_neg c2]
      rw [e1, e2, Option.bind_some, Option.bind_some]
      exact ⟨_, rfl, rfl⟩
  · simp only [if_neg c1]
    exact ⟨_, rfl, rfl⟩
theorem S_none (S : RR sz P ct it) (h4 : g 0 = lN N) (h1 : 1 ≤ N) (h2 : N ≤ 9) {r : Nat} (hr : r < 4) {a2 : Int32} (c2 : ¬ hld (sz r) a2 N = true) : f_X5_isOrder (nI N) sz P (nI r) a2 = some false ∧ f_X6_isOrder g ct it (nI r) a2 = some false := by
  have b := S.rng hr
  refine ⟨?_, ?_⟩
  · rw [f_X5_isOrder, z_holds hr (by omega) b.1 b.2, Option.bind_some, if_neg c2]
  · rw [f_X6_isOrder, z_isThere S h4 h1 h2 hr, Option.bind_some, if_neg c2]
theorem o_adds (R : RG N n nd es wt un ed G g) (S : RR sz P ct it) (bey isB : Bool) (a1 a2 a3 a4 : Int32) : ∃ r b1 b2, f_X5_adds n bey sz G P a1 a2 a3 a4 = some (r, b1) ∧ f_X6_adds isB g ct it a1 a2 a3 a4 = some (r, b2) := by
  obtain ⟨h1, h2, h3, h4⟩ := id R.1
  subst h3
  have hp := pw_le h2
  simp only [f_X5_adds, f_X6_adds, z_isGame, z_isGameM, z_isRowM, z_nM h4, Option.bind_some]
  by_cases c0 : inb a1 4 = true
  · simp only [if_pos c0]
    by_cases c1 : inb a2 4 = true
    · simp only [if_pos c1]
      obtain ⟨j, hj, hj2, rfl⟩ := inb_of c0
      obtain ⟨r, hr, hr2, rfl⟩ := inb_of c1
      rw [nI_m1 h1, z_inI a4 (show N - 1 + 1 < 2 ^ 31 by omega), Option.bind_some, z_hasPartner h2, Option.bind_some, Nat.sub_add_cancel h1]
      by_cases c2 : hld (sz r) a3 N = true
      · obtain ⟨c, hc, rfl, A⟩ := S.at hr c2 h1
        rw [A.order h2 h1, A.orderM h2 h1 h4 S, Option.bind_some, Option.bind_some]
        by_cases c3 : ordr N (fun j => P r (c + j)) = true
        · rw [if_pos c3, if_pos c3]
          by_cases c4 : inb a4 N = true
          · rw [if_pos c4, if_pos c4]
            obtain ⟨q, hq, hq2, rfl⟩ := inb_of c4
            obtain ⟨F, hF⟩ : ∃ F : Nat → Int64, F = fun j => P r (c + j) := ⟨_, rfl⟩
            rw [← hF] at A c3
            have hm : ∀ i, i ≤ N → mk F i < 2 ^ N := fun i hi => mk_lt (by omega) i (fun j hj => ordr_in c3 j (by omega))
            have d := ordr_in c3 q hq
            have d2 := pt_of (by omega) d
            have e1 := hm q (by omega)
            have e2 := hm (q + 1) (by omega)
            refine ⟨if ovm (G j (mk F (q + 1))) (G j (mk F q)) = true then -9223372036854775808 else G j (mk F (q + 1)) - G j (mk F q), ovm (G j (mk F (q + 1))) (G j (mk F q)), ovm (G j (mk F (q + 1))) (G j (mk F q)), ?_, ?_⟩
            · refine lp_cf (L := fun m i => L_X5_adds_1 (nI N) sz P (nI r) (nI c) (nI q) _ m (nI (mk F i)) (nI i)) q (fun m => ?_) (fun m i hi => ?_) q 0 FU (by omega) (by rw [FU_eq]; omega)
              · show B_X5_adds_1 _ _ _ _ _ _ _ _ _ _ = _
                rw [B_X5_adds_1, if_neg (by rw [ltI (by omega) (by omega)]; omega), A.partner h2 hq, Option.bind_some, if_pos d, shl_pw (by omega), nI_or]
                simp only [nm_eq, f_X1_begin, Option.bind_some]
                have e3 : mk F q ||| 2 ^ pk (F q) = mk F (q + 1) := rfl
                rw [e3, ck_nI hj (by omega), ck_nI (by omega) (by omega), ck_nI hj (by omega), ck_nI (by omega) (by omega), nI_clamp hj2, nI_clamp (by omega), nI_clamp (by omega), z_less, Option.bind_some, Bool.false_or]
                cases ovm (G j (mk F (q + 1))) (G j (mk F q)) <;> rfl
              · show B_X5_adds_1 _ _ _ _ _ _ _ _ _ _ = _
                have di := ordr_in c3 i (by omega)
                have di2 := pt_of (by omega) di
                rw [B_X5_adds_1, if_pos (by rw [ltI (by omega) (by omega)]; exact hi), A.partner h2 (by omega), Option.bind_some, if_pos di, shl_pw (by omega), nI_or, nI_1]
                rfl
            · simp only [nm_eq]
              rw [nI_1, A.ahead h2 c3 (by omega), Option.bind_some, R.v hj e2, Option.bind_some, A.ahead h2 c3 (by omega), Option.bind_some, R.v hj e1, Option.bind_some, z_minus, Option.bind_some, Bool.false_or]
              cases ovm (G j (mk F (q + 1))) (G j (mk F q)) <;> rfl
          · rw [if_neg c4, if_neg c4]
            exact ⟨_, _, _, rfl, rfl⟩
        · rw [if_neg c3]
          by_cases c4 : inb a4 N = true
          · rw [if_pos c4, if_neg c3]
            exact ⟨_, _, _, rfl, rfl⟩
          · rw [if_neg c4]
            exact ⟨_, _, _, rfl, rfl⟩
      · obtain ⟨e1, e2⟩ := S_none S h4 h1 h2 hr c2
        rw [e1, e2, Option.bind_some, Option.bind_some]
        by_cases c4 : inb a4 N = true
        · simp only [if_pos c4, Bool.false_eq_true, if_false]
          exact ⟨_, _, _, rfl, rfl⟩
        · simp only [if_neg c4, Bool.false_eq_true, if_false]
          exact ⟨_, _, _, rfl, rfl⟩
    · simp only [if_neg c1]
      rw [f_X5_isOrder, z_holds0 c1]
      exact ⟨_, _, _, rfl, rfl⟩
  · simp only [if_neg c0]
    exact ⟨_, _, _, rfl, rfl⟩
-- sums told
def ts (F : Nat → Int64) (s : Nat) (b : Bool) : Nat → Int64 × Bool
  | 0 => (0, b)
  | i + 1 => if s.testBit i = true then ((ts F s b i).1 + F i, (ts F s b i).2 || ovp (ts F s b i).1 (F i)) else ts F s b i
theorem AT.sum (A : AT sz P it r c N F) (hN : N ≤ 9) {s : Nat} (hs : s < 2 ^ N) (b : Bool) : f_X5_toldSum (nI N) b sz P (nI r) (nI c) (nI s) = some (ts F s b N) := by
  have hp := pw_le hN
  have hr := A.hr
  have hc := A.hc
  have hz := A.hz
  refine lp_cf (L := fun m i => L_X5_toldSum_1 (nI N) sz P (nI r) (nI c) (nI s) m (ts F s b i).1 (nI i) (ts F s b i).2) N (fun m => ?_) (fun m i hi => ?_) N 0 FU (by omega) (by rw [FU_eq]; omega)
  · show B_X5_toldSum_1 _ _ _ _ _ _ _ _ _ _ = _
    rw [B_X5_toldSum_1, if_neg (by rw [ltI (by omega) (by omega)]; omega)]
  · show B_X5_toldSum_1 _ _ _ _ _ _ _ _ _ _ = _
    have hh : hld (sz r) (nI c) (i + 1) = true := by
      simp only [hld, Bool.and_eq_true, decide_eq_true_eq, nI_toInt (show c < 2 ^ 31 by omega)]
      omega
    rw [B_X5_toldSum_1, if_pos (by rw [ltI (by omega) (by omega)]; exact hi), z_has (by omega) (by omega), Option.bind_some]
    simp only [jn2_eq, nm_eq]
    rw [nI_1, z_holds hr (by omega) A.b1 A.b2, Option.bind_some, hh, if_pos rfl, nI_add, ck_nI hr (by omega), ck_nI (show c + i < 20 by omega) (by omega), nI_clamp (by omega), nI_clamp (by omega), A.hP i hi, z_plus, Option.bind_some]
    by_cases e : s.testBit i = true
    · simp only [if_pos e, ts]
    · simp only [if_neg e, ts]
theorem AT.sumM (A : AT sz P it r c N F) (hN : N ≤ 9) (h0 : g 0 = lN N) {s : Nat} (hs : s < 2 ^ N) (b : Bool) : f_X6_summed b g it (nI r) (nI c) (nI s) = some (ts F s b N) := by
  have hp := pw_le hN
  refine lp_cf (L := fun m i => L_X6_summed_1 g it (nI r) (nI c) (nI s) m (ts F s b i).1 (nI i) (ts F s b i).2) N (fun m => ?_) (fun m i hi => ?_) N 0 FU (by omega) (by rw [FU_eq]; omega)
  · show B_X6_summed_1 _ _ _ _ _ _ _ _ _ = _
    rw [B_X6_summed_1, z_nM h0, Option.bind_some, if_neg (by rw [ltI (by omega) (by omega)]; omega)]
  · show B_X6_summed_1 _ _ _ _ _ _ _ _ _ = _
    rw [B_X6_summed_1, z_nM h0, Option.bind_some, if_pos (by rw [ltI (by omega) (by omega)]; exact hi), z_hasM (by omega) (by omega), Option.bind_some]
    simp only [jn2_eq, nm_eq]
    rw [nI_1, A.cck hi, A.cit hi, z_plusM, Option.bind_some]
    by_cases e : s.testBit i = true
    · simp only [if_pos e, ts]
    · simp only [if_neg e, ts]
theorem o_excess (R : RG N n nd es wt un ed G g) (S : RR sz P ct it) (bey isB : Bool) (a1 a2 a3 a4 : Int32) : ∃ r b1 b2, f_X5_excess n bey sz G P a1 a2 a3 a4 = some (r, b1) ∧ f_X6_excess isB g ct it a1 a2 a3 a4 = some (r, b2) := by
  obtain ⟨h1, h2, h3, h4⟩ := id R.1
  subst h3
  have hp := pw_le h2
  simp only [f_X5_excess, f_X6_excess, z_isGame, z_isGameM, z_isRowM, z_hasSet h2, z_isSetM h4 h2, Option.bind_some]
  by_cases c0 : inb a1 4 = true
  · simp only [if_pos c0]
    by_cases c1 : inb a2 4 = true
    · simp only [if_pos c1]
      by_cases c4 : inb a4 (2 ^ N) = true
      · simp only [if_pos c4]
        obtain ⟨j, hj, hj2, rfl⟩ := inb_of c0
        obtain ⟨r, hr, hr2, rfl⟩ := inb_of c1
        obtain ⟨s, hs, hs2, rfl⟩ := inb_of c4
        have b := S.rng hr
        rw [z_holds hr (by omega) b.1 b.2, z_isThere S h4 h1 h2 hr, Option.bind_some, Option.bind_some]
        by_cases c2 : hld (sz r) a3 N = true
        · obtain ⟨c, hc, rfl, A⟩ := S.at hr c2 h1
          rw [if_pos c2, if_pos c2]
          simp only [f_X1_begin, Option.bind_some, nm_eq]
          rw [ck_nI hj (by omega), ck_nI (by omega) (by omega), nI_clamp hj2, nI_clamp hs2, A.sum h2 hs, Option.bind_some, z_less, Option.bind_some, R.v hj hs, Option.bind_some, A.sumM h2 h4 hs, Option.bind_some, z_minus, Option.bind_some]
          exact ⟨_, _, _, if_p.symm, if_p.symm⟩
        · rw [if_neg c2, if_neg c2]
          exact ⟨_, _, _, rfl, rfl⟩
      · simp only [if_neg c4]
        exact ⟨_, _, _, rfl, rfl⟩
    · simp only [if_neg c1]
      rw [z_holds0 c1]
      by_cases c4 : inb a4 (2 ^ N) = true
      · simp only [if_pos c4]
        exact ⟨_, _, _, rfl, rfl⟩
      · simp only [if_neg c4]
        exact ⟨_, _, _, rfl, rfl⟩
  · simp only [if_neg c0]
    exact ⟨_, _, _, rfl, rfl⟩
end OPA
