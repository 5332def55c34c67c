/-! PURE PART: owen. -/
section OPN
variable {N : Nat} {n nd es : Int32} {wt un ed : Nat → Int32} {G : Nat → Nat → Int64} {g : Nat → Int64} {L U : Nat → Nat} {fa : Nat → Int64}
theorem z_members (HL : LB N g L) (hN : N ≤ 9) {l : Nat} (hl : l ≤ 9) : f_X6_members g (nI l) = some (nI (msk (fun p => decide (L p = l)) N)) := by
  refine lp_cf (L := fun m i => L_X6_members_1 g (nI l) m (nI (msk (fun p => decide (L p = l)) i)) (nI i)) N (fun m => ?_) (fun m i hi => ?_) N 0 FU (by omega) (by rw [FU_eq]; omega)
  · show B_X6_members_1 _ _ _ _ _ = _
    rw [B_X6_members_1, z_nM HL.1, Option.bind_some, if_neg (by rw [ltI (by omega) (by omega)]; omega)]
  · show B_X6_members_1 _ _ _ _ _ = _
    have := (HL.2 i hi).2
    rw [B_X6_members_1, z_nM HL.1, Option.bind_some, if_pos (by rw [ltI (by omega) (by omega)]; omega), z_label HL hN hi, Option.bind_some]
    simp only [jn1_eq, nm_eq, nI_1, shl_pw (show i ≤ 9 by omega), nI_or, nI_zero, Nat.or_zero, eqI (show L i < 2 ^ 31 by omega) (show l < 2 ^ 31 by omega), msk]
    by_cases c : L i = l <;> simp [c]
theorem LU.mskU (H : LU N L U) {l : Nat} (hl : l < N) (h : L l = l) : msk (fun p => decide (L p = l)) N = U l := by
  apply Nat.eq_of_testBit_eq
  intro i
  rw [msk_bit, (H l hl).2.2.2, h]
theorem LU.msk0 (H : LU N L U) {l : Nat} (h : ¬ L l = l) : msk (fun p => decide (L p = l)) N = 0 := by
  apply Nat.eq_of_testBit_eq
  intro i
  rw [msk_bit, Nat.zero_testBit]
  by_cases hi : i < N
  · have : ¬ L i = l := fun z => h (by rw [← z]; exact (H i hi).2.1)
    simp [this]
  · simp [hi]
theorem z_wholeM (H : LU N L U) (HL : LB N g L) (hN : N ≤ 9) {a s : Nat} (ha : a < N) (hs : s < 2 ^ N) : f_X6_whole g (nI s) (nI (L a)) = some (whl N L U a s) := by
  have hpw := pw_le hN
  have hla := (H a ha).1
  refine (lp_all (L := fun m i => L_X6_whole_1 g (nI s) (nI (L a)) m (nI (cnt (okM L U a s) i)) (nI i)) (K := some (nI (cnt (okM L U a s) N))) (R := some (-1)) (fun p => !bdM L U a s p) N (fun m => ?_) (fun m p hp => ?_) N 0 FU (by omega) (by rw [FU_eq]; omega)).trans ?_
  · show B_X6_whole_1 _ _ _ _ _ _ = _
    rw [B_X6_whole_1, z_nM HL.1, Option.bind_some, if_neg (by rw [ltI (by omega) (by omega)]; omega)]
  · show B_X6_whole_1 _ _ _ _ _ _ = _
    have hU := (H p hp).2.2.1
    have hand : s &&& U p ≤ U p := Nat.and_le_right
    rw [B_X6_whole_1, z_nM HL.1, Option.bind_some, if_pos (by rw [ltI (by omega) (by omega)]; omega), z_members HL hN (by omega), Option.bind_some]
    simp only [jn1_eq, nm_eq, nI_1]
    by_cases c1 : L p = p
    · have e0 : (nI (U p) = 0) = (U p = 0) := eqI (a := U p) (b := 0) (by omega) (by omega)
      have hne : ¬ U p = 0 := fun z => by
        have := (H p hp).2.2.2 p
        rw [z, Nat.zero_testBit] at this
        simp at this
        omega
      have e1 : (nI (s &&& U p) = 0) = (s &&& U p = 0) := eqI (a := s &&& U p) (b := 0) (by omega) (by omega)
      rw [H.mskU hp c1, nI_and]
      simp only [e0, e1, eqI (show p < 2 ^ 31 by omega) (show L a < 2 ^ 31 by omega), eqI (show s &&& U p < 2 ^ 31 by omega) (show U p < 2 ^ 31 by omega)]
      rw [if_neg hne]
      by_cases c2 : p = L a
      · rw [if_pos c2]
        have : bdM L U a s p = false := by simp [bdM, c2]
        have h2 : okM L U a s p = false := by simp [okM, c2]
        simp [this, h2, cnt]
      · rw [if_neg c2]
        by_cases c3 : s &&& U p = 0
        · rw [if_pos c3]
          have : bdM L U a s p = false := by simp [bdM, c3]
          have h2 : okM L U a s p = false := by simp [okM, c3]
          simp [this, h2, cnt]
        · rw [if_neg c3]
          by_cases c4 : s &&& U p = U p
          · rw [if_pos c4]
            have : bdM L U a s p = false := by simp [bdM, c4]
            have h2 : okM L U a s p = true := by simp [okM, c1, c2, c3, c4, hne]
            simp [this, h2, cnt]
          · rw [if_neg c4]
            have : bdM L U a s p = true := by simp [bdM, c1, c2, c3, c4]
            simp [this]
    · rw [H.msk0 c1, if_pos (show nI 0 = 0 from rfl)]
      have : bdM L U a s p = false := by simp [bdM, c1]
      have h2 : okM L U a s p = false := by simp [okM, c1]
      simp [this, h2, cnt]
  · unfold whl
    rw [← bd_iff H]
    cases c : allF (fun p => !bdC L U a s p) 0 N
    · rfl
    · rw [if_pos rfl, if_pos rfl, ok_eq H c]
def ctu (N : Nat) (L : Nat → Nat) : Nat := cnt (fun p => decide (L p = p)) N
theorem z_countU (H : LU N L U) (hN : N ≤ 9) (hl : ∀ p, p < N → f_X5_leastOf (un p) = some (nI (L p))) : f_X0_countUnions (nI N) un = some (nI (ctu N L)) := by
  refine lp_cf (L := fun m i => L_X0_countUnions_1 (nI N) un m (nI (cnt (fun p => decide (L p = p)) i)) (nI i)) N (fun m => ?_) (fun m i hi => ?_) N 0 FU (by omega) (by rw [FU_eq]; omega)
  · show B_X0_countUnions_1 _ _ _ _ _ = _
    rw [B_X0_countUnions_1, if_neg (by rw [ltI (by omega) (by omega)]; omega)]
    rfl
  · show B_X0_countUnions_1 _ _ _ _ _ = _
    have := (H i hi).1
    rw [B_X0_countUnions_1, if_pos (by rw [ltI (by omega) (by omega)]; omega), ck_nI (show i < 9 by omega) (by omega), nI_clamp (by omega), hl i hi, Option.bind_some]
    simp only [jn1_eq, nm_eq, nI_1, eqI (show L i < 2 ^ 31 by omega) (show i < 2 ^ 31 by omega), cnt]
    by_cases c : L i = i <;> simp [c]
theorem z_unionsM (H : LU N L U) (HL : LB N g L) (hN : N ≤ 9) : f_X6_unions g = some (nI (ctu N L)) := by
  refine lp_cf (L := fun m i => L_X6_unions_1 g m (nI (cnt (fun p => decide (L p = p)) i)) (nI i)) N (fun m => ?_) (fun m i hi => ?_) N 0 FU (by omega) (by rw [FU_eq]; omega)
  · show B_X6_unions_1 _ _ _ _ = _
    rw [B_X6_unions_1, z_nM HL.1, Option.bind_some, if_neg (by rw [ltI (by omega) (by omega)]; omega)]
    rfl
  · show B_X6_unions_1 _ _ _ _ = _
    have := (H i hi).1
    rw [B_X6_unions_1, z_nM HL.1, Option.bind_some, if_pos (by rw [ltI (by omega) (by omega)]; omega), z_label HL hN hi, Option.bind_some]
    simp only [jn1_eq, nm_eq, nI_1, nI_zero, nI_add, eqI (show L i < 2 ^ 31 by omega) (show i < 2 ^ 31 by omega), cnt]
    by_cases c : L i = i <;> simp [c]
/-- how many they may be -/
theorem ctu_b (H : LU N L U) (hN : N ≤ 9) {a : Nat} (ha : a < N) : ctu N L + pcn (U a) ≤ N + 1 ∧ 1 ≤ pcn (U a) ∧ ∀ s, cnt (okC L a s) N < ctu N L := by
  have h1 : pcn (U a) = cnt (fun i => (U a).testBit i) N := by
    rw [pcn_cnt]
    have := cnt_ext9 (P := fun i => (U a).testBit i) (N := N) (fun i hi => by rw [(H a ha).2.2.2]; simp; omega) (9 - N)
    rw [show N + (9 - N) = 9 by omega] at this
    exact this
  have hLa := H a ha
  have h2 : cnt (fun p => decide (L p = p) && !decide (p = L a)) N + cnt (fun i => (U a).testBit i) N ≤ N := by
    refine cnt_disj N (fun i hi h => ?_)
    simp only [Bool.and_eq_true, decide_eq_true_eq, Bool.not_eq_true', decide_eq_false_iff_not] at h
    rw [hLa.2.2.2, decide_eq_true hi, Bool.true_and, decide_eq_false_iff_not]
    exact fun z => h.2 (h.1.symm.trans z)
  have h3 : ctu N L = cnt (fun p => decide (L p = p) && !decide (p = L a)) N + 1 := by
    have := cnt_upd (P := fun p => decide (L p = p) && !decide (p = L a)) (Q := fun p => decide (L p = p)) (p := L a) (by simp [hLa.2.1]) (fun i hi => by simp [hi]) N (by omega)
    rw [ctu, this]
    simp
  refine ⟨by omega, ?_, fun s => ?_⟩
  · rw [h1]
    have := cnt_strict (P := fun _ => false) (Q := fun i => (U a).testBit i) (p := a) rfl (by simp only [hLa.2.2.2]; simp [ha]) N ha (fun i _ h => by cases h)
    omega
  · have := cnt_mono (P := okC L a s) (Q := fun p => decide (L p = p) && !decide (p = L a)) N (fun i hi h => by
      simp only [okC, Bool.and_eq_true, Bool.not_eq_true', decide_eq_true_eq, decide_eq_false_iff_not] at h ⊢
      exact ⟨h.2.2, fun z => h.2.1 (by rw [h.2.2]; exact z)⟩)
    omega
end OPN
