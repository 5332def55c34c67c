/-! PURE PART: the tape is read. -/
def TP (K : Nat) (C : Nat → Nat) (tb tp : Nat → Int32) : Prop := K ≤ 120 ∧ ∀ j, j < K → 1 ≤ C j ∧ C j ≤ 127 ∧ tb j = nI (C j) ∧ tp j = nI (C j)
def chr (K : Nat) (C : Nat → Nat) (p : Nat) : Nat := if p < K then C p else 0
section OPP
variable {K : Nat} {C : Nat → Nat} {tb tp : Nat → Int32} {N : Nat} {g : Nat → Int64}
theorem chr_le (T : TP K C tb tp) (p : Nat) : chr K C p ≤ 127 := by
  unfold chr
  split
  · rename_i h; exact (T.2 p h).2.1
  · omega
theorem chr_lt (T : TP K C tb tp) {p : Nat} (h : chr K C p ≠ 0) : p < K := by
  unfold chr at h
  split at h
  · assumption
  · exact absurd rfl h
theorem z_here (T : TP K C tb tp) {p : Nat} (hp : p ≤ K) : f_X4_here (nI K) (nI p) tb = some (nI (chr K C p)) := by
  have hK := T.1
  simp only [f_X4_here, jn0_eq]
  rw [if_neg (nI_pos (by omega))]
  simp only [ltI (show p < 2 ^ 31 by omega) (show K < 2 ^ 31 by omega), chr]
  by_cases c : p < K
  · rw [if_pos c, if_pos c, ck_nI (by omega) (by omega), nI_clamp (by omega), (T.2 p c).2.2.1]
  · rw [if_neg c, if_neg c]; rfl
theorem z_hereM (T : TP K C tb tp) {p : Nat} (hp : p ≤ K) : f_X6_here (nI K) (nI p) tp = some (if chr K C p = 0 then -1 else nI (chr K C p)) := by
  have hK := T.1
  simp only [f_X6_here]
  simp only [ltI (show p < 2 ^ 31 by omega) (show K < 2 ^ 31 by omega), chr]
  by_cases c : p < K
  · have := (T.2 p c).1
    simp only [if_pos c]
    rw [if_neg (by omega), ck_nI (by omega) (by omega), nI_clamp (by omega), (T.2 p c).2.2.2]
  · simp only [if_neg c, if_true]
theorem z_take (T : TP K C tb tp) {p c : Nat} (hp : p ≤ K) (hc : c < 2 ^ 31) : f_X4_take (nI K) (nI p) tb (nI c) = some (if chr K C p = c then (true, nI (p + 1)) else (false, nI p)) := by
  have := chr_le T p
  rw [f_X4_take, z_here T hp, Option.bind_some]
  simp only [eqI (show chr K C p < 2 ^ 31 by omega) hc, nm_eq, nI_1]
  split <;> rfl
theorem ch97 {v : Nat} (h : v < 9) : ((97 + nI v).toUInt32 % 65536).toInt32 = nI (97 + v) := co_dec (N := 9) (P := fun v => ((97 + nI v).toUInt32 % 65536).toInt32 = nI (97 + v)) (by decide +kernel) h
/-- may this be the next letter -/
def ltr (N : Nat) (v c : Nat) : Bool := decide (97 + v ≤ c) && decide (c < 97 + N)
theorem z_isLetter (hN : N ≤ 9) (h1 : 1 ≤ N) {v c : Nat} (hv : v ≤ 9) (hc : c ≤ 127) : (∃ b1, f_X6_isIn (if c = 0 then (-1 : Int32) else nI c).toInt64 97 105 = some b1 ∧ (b1 = true → c ≠ 0 ∧ 97 ≤ c) ∧ (b1 = false → ltr N v c = false)) ∧ (97 ≤ c → f_X6_isIn (nI c - 97).toInt64 (nI v).toInt64 (nI N - 1).toInt64 = some (ltr N v c)) := by
  constructor
  · by_cases e : c = 0
    · refine ⟨false, ?_, (fun h => by cases h), fun _ => ?_⟩
      · rw [if_pos e]; decide
      · unfold ltr; rw [e]; simp
    · rw [if_neg e, nI_l (by omega), z_isIn, show (97 : Int64) = lN 97 from rfl, show (105 : Int64) = lN 105 from rfl]
      refine ⟨_, rfl, fun h => ?_, fun h => ?_⟩
      · rw [Bool.and_eq_true, decide_eq_true_eq, decide_eq_true_eq, pk_lLE (by omega) (by omega)] at h
        exact ⟨e, h.1⟩
      · unfold ltr
        rw [Bool.and_eq_false_iff, decide_eq_false_iff_not, decide_eq_false_iff_not, pk_lLE (by omega) (by omega), pk_lLE (by omega) (by omega)] at h
        rw [Bool.and_eq_false_iff, decide_eq_false_iff_not, decide_eq_false_iff_not]
        omega
  · intro h
    rw [show (97 : Int32) = nI 97 from rfl, pk_sub h, nI_m1 h1, nI_l (by omega), nI_l (by omega), nI_l (by omega), z_isIn, ltr]
    have e1 : (lN v ≤ lN (c - 97)) = (97 + v ≤ c) := propext (by rw [pk_lLE (by omega) (by omega)]; omega)
    have e2 : (lN (c - 97) ≤ lN (N - 1)) = (c < 97 + N) := propext (by rw [pk_lLE (by omega) (by omega)]; omega)
    simp only [e1, e2]
/-- the model's step -/
theorem s_letter (T : TP K C tb tp) (h0 : g 0 = lN N) (hN : N ≤ 9) (h1 : 1 ≤ N) {mk v p : Nat} (hv : v ≤ 9) (hp : p ≤ K) (kx : Int32 → Int32 → Option (Int32 × Int32)) (m : Nat) : L_X6_readsSet_1 (nI K) g tp kx (m + 1) (nI mk) (nI v) (nI p) = if ltr N v (chr K C p) = true then L_X6_readsSet_1 (nI K) g tp kx m (nI (mk ||| 2 ^ (chr K C p - 97))) (nI (chr K C p - 97 + 1)) (nI (p + 1)) else kx (nI mk) (nI p) := by
  have hc := chr_le T p
  obtain ⟨⟨b1, e1, e2, e3⟩, e4⟩ := z_isLetter (N := N) (v := v) (c := chr K C p) hN h1 hv hc
  show B_X6_readsSet_1 _ _ _ _ _ _ _ _ = _
  rw [B_X6_readsSet_1, z_hereM T hp, Option.bind_some, e1, Option.bind_some]
  cases b1
  · rw [e3 rfl]; rfl
  · obtain ⟨e5, e6⟩ := e2 rfl
    rw [if_pos rfl, Option.bind_some, z_nM h0, Option.bind_some, if_neg e5, e4 e6, Option.bind_some]
    by_cases c : ltr N v (chr K C p) = true
    · have : chr K C p < 97 + N := by
        simp only [ltr, Bool.and_eq_true, decide_eq_true_eq] at c
        exact c.2
      rw [if_pos c, if_pos c]
      simp only [nm_eq, Option.bind_some]
      rw [show (97 : Int32) = nI 97 from rfl, pk_sub e6, shl_pw (by omega), nI_or, nI_1, nI_1]
    · rw [if_neg c, if_neg c]
theorem z_letters (T : TP K C tb tp) (h0 : g 0 = lN N) (hN : N ≤ 9) (h1 : 1 ≤ N) : ∀ d v mk p m m', v + d = N → p ≤ K → mk < 2 ^ N → d < m → d < m' → ∃ mk' p', mk' < 2 ^ N ∧ p ≤ p' ∧ p' ≤ K ∧ L_X4_readLetters_1 (nI K) tb (nI N) m (nI mk) (nI v) (nI p) = some (nI mk', nI p') ∧ ∀ kx, L_X6_readsSet_1 (nI K) g tp kx m' (nI mk) (nI v) (nI p) = kx (nI mk') (nI p')
  | 0, v, mk, p, m, m', e, hp, hk, hm, hm' => by
    obtain ⟨m, rfl⟩ : ∃ k, m = k + 1 := ⟨m - 1, by omega⟩
    obtain ⟨m', rfl⟩ : ∃ k, m' = k + 1 := ⟨m' - 1, by omega⟩
    refine ⟨mk, p, hk, Nat.le_refl _, hp, ?_, fun kx => ?_⟩
    · show B_X4_readLetters_1 _ _ _ _ _ _ _ = _
      rw [B_X4_readLetters_1, if_neg (by rw [ltI (by omega) (by omega)]; omega)]
    · rw [s_letter T h0 hN h1 (by omega) hp, if_neg]
      simp only [ltr, Bool.and_eq_true, decide_eq_true_eq]
      omega
  | d + 1, v, mk, p, m, m', e, hp, hk, hm, hm' => by
    obtain ⟨m, rfl⟩ : ∃ k, m = k + 1 := ⟨m - 1, by omega⟩
    obtain ⟨m', rfl⟩ : ∃ k, m' = k + 1 := ⟨m' - 1, by omega⟩
    have ec : L_X4_readLetters_1 (nI K) tb (nI N) (m + 1) (nI mk) (nI v) (nI p) = if chr K C p = 97 + v then L_X4_readLetters_1 (nI K) tb (nI N) m (nI (mk ||| 2 ^ v)) (nI (v + 1)) (nI (p + 1)) else L_X4_readLetters_1 (nI K) tb (nI N) m (nI mk) (nI (v + 1)) (nI p) := by
      show B_X4_readLetters_1 _ _ _ _ _ _ _ = _
      rw [B_X4_readLetters_1, if_pos (by rw [ltI (by omega) (by omega)]; omega), ch97 (by omega), z_take T hp (by omega), Option.bind_some]
      simp only [jn1_eq, nm_eq, nI_1]
      rw [shl_pw (by omega), nI_or]
      split <;> rfl
    by_cases c : chr K C p = 97 + v
    · have hlt := chr_lt T (p := p) (by omega)
      have hm2 : mk ||| 2 ^ v < 2 ^ N := Nat.or_lt_two_pow hk (Nat.pow_lt_pow_right (by omega) (by omega))
      obtain ⟨mk', p', q1, q2, q3, q4, q5⟩ := z_letters T h0 hN h1 d (v + 1) (mk ||| 2 ^ v) (p + 1) m m' (by omega) (by omega) hm2 (by omega) (by omega)
      refine ⟨mk', p', q1, by omega, q3, by rw [ec, if_pos c]; exact q4, fun kx => ?_⟩
      rw [s_letter T h0 hN h1 (by omega) hp, if_pos (by simp only [ltr, Bool.and_eq_true, decide_eq_true_eq]; omega), c, Nat.add_sub_cancel_left]
      exact q5 kx
    · obtain ⟨mk', p', q1, q2, q3, q4, q5⟩ := z_letters T h0 hN h1 d (v + 1) mk p m (m' + 1) (by omega) hp hk (by omega) (by omega)
      refine ⟨mk', p', q1, q2, q3, by rw [ec, if_neg c]; exact q4, fun kx => ?_⟩
      have h5 := q5 kx
      rw [s_letter T h0 hN h1 (by omega) hp] at h5 ⊢
      have : ltr N v (chr K C p) = ltr N (v + 1) (chr K C p) := by
        unfold ltr
        have : (97 + v ≤ chr K C p) = (97 + (v + 1) ≤ chr K C p) := propext (by omega)
        simp only [this]
      rw [this]
      exact h5
end OPP
