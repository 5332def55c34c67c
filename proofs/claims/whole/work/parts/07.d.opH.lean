/-! PURE PART: is. -/
def fo {β : Type} (P : Nat → Option β) (i : Nat) : Nat → Option β
  | 0 => none
  | c + 1 => match P i with
    | some b => some b
    | none => fo P (i + 1) c
def orE {β : Type} : Option β → Option β → Option β
  | some b, _ => some b
  | none, K => K
theorem lp_fo {β : Type} {L : Nat → Nat → Option β} (P : Nat → Option β) (K : Option β) (i0 e : Nat) (hx : ∀ m, L (m + 1) e = K) (hs : ∀ m i, i0 ≤ i → i < e → L (m + 1) i = match P i with | some b => some b | none => L m (i + 1)) : ∀ c i m : Nat, i0 ≤ i → i + c = e → c < m → L m i = orE (fo P i c) K
  | 0, i, m, h0, h1, h2 => by
    obtain ⟨m, rfl⟩ : ∃ k, m = k + 1 := ⟨m - 1, by omega⟩
    have : i = e := by omega
    subst this
    rw [hx m]; rfl
  | c + 1, i, m, h0, h1, h2 => by
    obtain ⟨m, rfl⟩ : ∃ k, m = k + 1 := ⟨m - 1, by omega⟩
    rw [hs m i h0 (by omega), lp_fo P K i0 e hx hs c (i + 1) m (by omega) (by omega) (by omega)]
    cases h : P i <;> simp [fo, h, orE]
theorem fo_none {β : Type} {P : Nat → Option β} : ∀ c i, fo P i c = none ↔ ∀ k, i ≤ k → k < i + c → P k = none
  | 0, i => ⟨fun _ k h1 h2 => by omega, fun _ => rfl⟩
  | c + 1, i => by
    constructor
    · intro h k h1 h2
      cases hp : P i with
      | some b => rw [fo, hp] at h; cases h
      | none =>
        rw [fo, hp] at h
        by_cases e : k = i
        · subst e; exact hp
        · exact (fo_none c (i + 1)).mp h k (by omega) (by omega)
    · intro h
      rw [fo, h i (by omega) (by omega)]
      exact (fo_none c (i + 1)).mpr (fun k h1 h2 => h k (by omega) (by omega))
theorem fo_one {β : Type} {P : Nat → Option β} {x : β} : ∀ c i, (∀ k, i ≤ k → k < i + c → P k = none ∨ P k = some x) → fo P i c = none ∨ fo P i c = some x
  | 0, i, _ => Or.inl rfl
  | c + 1, i, h => by
    rcases h i (by omega) (by omega) with e | e
    · rw [fo, e]
      exact fo_one c (i + 1) (fun k h1 h2 => h k (by omega) (by omega))
    · rw [fo, e]
      exact Or.inr rfl
def agp (d : Nat) (V : Nat → Int64) (s t : Nat) : Bool × Bool :=
  if d = 0 then (!(decide (dif s t = 0) && decide (V t < V s)), false)
  else if d = 2 then (if s &&& t = 0 then (!decide (V (s ||| t) < V s + V t), ovp (V s) (V t)) else (true, false))
  else (!decide (V (s &&& t) + V (s ||| t) < V s + V t), ovp (V s) (V t) || ovp (V (s &&& t)) (V (s ||| t)))
def pq (d : Nat) (V : Nat → Int64) (s t : Nat) : Option (Int32 × Bool) := if (agp d V s t).2 = true then some (-6, true) else if (agp d V s t).1 = true then none else some (0, false)
def pqs (N d : Nat) (V : Nat → Int64) (s : Nat) : Option (Int32 × Bool) := fo (pq d V s) (s + 1) (2 ^ N - (s + 1))
def isr (N d : Nat) (V : Nat → Int64) : Option (Int32 × Bool) := orE (fo (pqs N d V) 0 (2 ^ N)) (some (1, false))
section OPH
variable {N : Nat} {n nd es : Int32} {wt un ed : Nat → Int32} {G : Nat → Nat → Int64} {g : Nat → Int64}
theorem RG.agree (R : RG N n nd es wt un ed G g) {j d s t : Nat} (hj : j < 4) (hd : d < 3) (hs : s < 2 ^ N) (ht : t < 2 ^ N) : f_X6_agree false g (nI j) (nI d) (nI s) (nI t) = some (agp d (G j) s t) := by
  have hN := R.1.2.1
  have hpw := pw_le hN
  have h1 : s &&& t < 2 ^ N := Nat.lt_of_le_of_lt Nat.and_le_left hs
  have h2 : s ||| t < 2 ^ N := Nat.or_lt_two_pow hs ht
  have h3 := dif_le (a := s) (b := t)
  have ea0 : (nI d = 0) = (d = 0) := eqI (a := d) (b := 0) (by omega) (by omega)
  have ea2 : (nI d = 2) = (d = 2) := eqI (a := d) (b := 2) (by omega) (by omega)
  have ea3 : (nI (s &&& t) = 0) = (s &&& t = 0) := eqI (a := s &&& t) (b := 0) (by omega) (by omega)
  have ea4 : (nI (dif s t) = 0) = (dif s t = 0) := eqI (a := dif s t) (b := 0) (by omega) (by omega)
  rw [f_X6_agree]
  simp only [jn0_eq, jn2_eq, nI_dif, nI_and, nI_or, R.v hj hs, R.v hj ht, R.v hj h1, R.v hj h2, z_plusM, Option.bind_some, ea0, ea2, ea3, ea4, Bool.false_or]
  unfold agp
  by_cases e0 : d = 0
  · rw [if_pos e0, if_pos e0]
    by_cases e1 : dif s t = 0
    · rw [if_pos e1, decide_eq_true e1]
      by_cases e2 : G j t < G j s
      · rw [if_pos e2, decide_eq_true e2]; rfl
      · rw [if_neg e2, decide_eq_false e2]; rfl
    · rw [if_neg e1, decide_eq_false e1]; rfl
  · rw [if_neg e0, if_neg e0]
    by_cases e2 : d = 2
    · simp only [if_pos e2]
      by_cases e3 : s &&& t = 0
      · simp only [if_pos e3]
        by_cases e4 : G j (s ||| t) < G j s + G j t
        · rw [if_pos e4, decide_eq_true e4]; rfl
        · rw [if_neg e4, decide_eq_false e4]; rfl
      · simp only [if_neg e3]
    · simp only [if_neg e2]
      by_cases e4 : G j (s &&& t) + G j (s ||| t) < G j s + G j t
      · rw [if_pos e4, decide_eq_true e4]; rfl
      · rw [if_neg e4, decide_eq_false e4]; rfl
theorem z_isM (R : RG N n nd es wt un ed G g) {j d : Nat} (hj : j < 4) (hd : d < 3) : L_X6_is_1 g (nI j) (nI d) FU 0 false = isr N d (G j) := by
  have hN := R.1.2.1
  have hpw := pw_le hN
  have hp1 := pw_pos N
  refine lp_fo (L := fun m i => L_X6_is_1 g (nI j) (nI d) m (nI i) false) (pqs N d (G j)) (some (1, false)) 0 (2 ^ N) (fun m => ?_) (fun m i _ hi => ?_) (2 ^ N) 0 FU (by omega) (by omega) (by rw [FU_eq]; omega)
  · show B_X6_is_1 _ _ _ _ _ _ = _
    rw [B_X6_is_1, R.all, Option.bind_some, if_pos (by rw [ltI (by omega) (by omega)]; omega)]
  · show B_X6_is_1 _ _ _ _ _ _ = _
    rw [B_X6_is_1, R.all, Option.bind_some, if_neg (by rw [ltI (by omega) (by omega)]; omega)]
    simp only [nm_eq, nI_1]
    refine (lp_fo (L := fun m t => L_X6_is_2 g (nI j) (nI d) (nI i) _ m (nI t) false) (pq d (G j) i) (L_X6_is_1 g (nI j) (nI d) m (nI (i + 1)) false) (i + 1) (2 ^ N) (fun m' => ?_) (fun m' t h0 ht => ?_) (2 ^ N - (i + 1)) (i + 1) FU (by omega) (by omega) (by rw [FU_eq]; omega)).trans ?_
    · show B_X6_is_2 _ _ _ _ _ _ _ _ = _
      rw [B_X6_is_2, R.all, Option.bind_some, if_pos (by rw [ltI (by omega) (by omega)]; omega)]
    · show B_X6_is_2 _ _ _ _ _ _ _ _ = _
      rw [B_X6_is_2, R.all, Option.bind_some, if_neg (by rw [ltI (by omega) (by omega)]; omega), R.agree hj hd hi ht, Option.bind_some]
      simp only [nm_eq, nI_1, pq]
      obtain ⟨a, f, haf⟩ : ∃ a f, agp d (G j) i t = (a, f) := ⟨_, _, rfl⟩
      rw [haf]
      cases f <;> cases a <;> rfl
    · change orE (pqs N d (G j) i) _ = _
      cases pqs N d (G j) i <;> rfl
theorem z_gains (hN : N ≤ 9) {d : Nat} (hd : d = 1 ∨ d = 2) (V : Nat → Int64) (hV : V 0 = 0) (b : Bool) : f_X5_gainsTogether (nI N) b V (decide (d = 2)) = isr N d V := by
  have hpw := pw_le hN
  have hp1 := pw_pos N
  rw [f_X5_gainsTogether, f_X1_begin, nm_eq, Option.bind_some]
  refine lp_fo (L := fun m i => L_X5_gainsTogether_1 (nI N) V (decide (d = 2)) m (nI i) false) (pqs N d V) (some (1, false)) 0 (2 ^ N) (fun m => ?_) (fun m i _ hi => ?_) (2 ^ N) 0 FU (by omega) (by omega) (by rw [FU_eq]; omega)
  · show B_X5_gainsTogether_1 _ _ _ _ _ _ = _
    rw [B_X5_gainsTogether_1, z_sets hN, Option.bind_some, if_neg (by rw [ltI (by omega) (by omega)]; omega)]
  · show B_X5_gainsTogether_1 _ _ _ _ _ _ = _
    rw [B_X5_gainsTogether_1, z_sets hN, Option.bind_some, if_pos (by rw [ltI (by omega) (by omega)]; omega)]
    simp only [nm_eq, nI_1]
    refine (lp_fo (L := fun m t => L_X5_gainsTogether_2 (nI N) V (decide (d = 2)) (nI i) _ m (nI t) false) (pq d V i) (L_X5_gainsTogether_1 (nI N) V (decide (d = 2)) m (nI (i + 1)) false) (i + 1) (2 ^ N) (fun m' => ?_) (fun m' t h0 ht => ?_) (2 ^ N - (i + 1)) (i + 1) FU (by omega) (by omega) (by rw [FU_eq]; omega)).trans ?_
    · show B_X5_gainsTogether_2 _ _ _ _ _ _ _ _ = _
      rw [B_X5_gainsTogether_2, z_sets hN, Option.bind_some, if_neg (by rw [ltI (by omega) (by omega)]; omega)]
    · show B_X5_gainsTogether_2 _ _ _ _ _ _ _ _ = _
      have h1 : i &&& t < 2 ^ N := Nat.lt_of_le_of_lt Nat.and_le_left hi
      have h2 : i ||| t < 2 ^ N := Nat.or_lt_two_pow hi ht
      have ea3 : (nI (i &&& t) = 0) = (i &&& t = 0) := eqI (a := i &&& t) (b := 0) (by omega) (by omega)
      rw [B_X5_gainsTogether_2, z_sets hN, Option.bind_some, if_pos (by rw [ltI (by omega) (by omega)]; omega)]
      simp only [jn0_eq, jn1_eq, nm_eq, nI_1, nI_and, nI_or, ck_nI (show i < 512 by omega) (show 512 < 2 ^ 31 by omega), ck_nI (show t < 512 by omega) (show 512 < 2 ^ 31 by omega), ck_nI (show i &&& t < 512 by omega) (show 512 < 2 ^ 31 by omega), ck_nI (show i ||| t < 512 by omega) (show 512 < 2 ^ 31 by omega), nI_clamp (show i < 2 ^ 31 by omega), nI_clamp (show t < 2 ^ 31 by omega), nI_clamp (show i &&& t < 2 ^ 31 by omega), nI_clamp (show i ||| t < 2 ^ 31 by omega), z_plus, Option.bind_some, Bool.false_or, ea3, decide_eq_true_eq]
      rcases hd with e | e
      · subst e
        rw [if_neg (by decide)]
        simp only [pq, agp, Nat.one_ne_zero, if_false, show ¬ (1 = 2) by decide]
        cases hb : ovp (V i) (V t) || ovp (V (i &&& t)) (V (i ||| t))
        · by_cases e4 : V (i &&& t) + V (i ||| t) < V i + V t <;> simp [e4]
        · simp
      · subst e
        rw [if_pos rfl]
        by_cases e3 : i &&& t = 0
        · have hz : ovp (V (i &&& t)) (V (i ||| t)) = false := by
            rw [e3, hV, ovp_iff, Int64.zero_add, Int64.toInt_zero, Int.zero_add]
          have hz2 : V (i &&& t) + V (i ||| t) = V (i ||| t) := by
            rw [e3, hV, Int64.zero_add]
          simp only [if_pos e3, pq, agp, show ¬ (2 = 0) by decide, if_false, if_true, hz, hz2, Bool.or_false]
          cases hb : ovp (V i) (V t)
          · by_cases e4 : V (i ||| t) < V i + V t <;> simp [e4]
          · simp
        · simp only [if_neg e3, pq, agp, show ¬ (2 = 0) by decide, if_false, if_true, Bool.false_eq_true]
    · change orE (pqs N d V i) _ = _
      cases pqs N d V i <;> rfl
def mos (N : Nat) (V : Nat → Int64) (s : Nat) : Bool := allF (fun p => !(s.testBit p && decide (V s < V (dif s (2 ^ p))))) 0 N
theorem z_mono (hN : N ≤ 9) (V : Nat → Int64) : f_X5_isMonotone (nI N) V = some (allF (mos N V) 0 (2 ^ N)) := by
  have hpw := pw_le hN
  refine (lp_all (L := fun m i => L_X5_isMonotone_1 (nI N) V m (nI i)) (K := some true) (R := some false) (mos N V) (2 ^ N) (fun m => ?_) (fun m i hi => ?_) (2 ^ N) 0 FU (by omega) (by rw [FU_eq]; omega)).trans ?_
  · show B_X5_isMonotone_1 _ _ _ _ = _
    rw [B_X5_isMonotone_1, z_sets hN, Option.bind_some, if_neg (by rw [ltI (by omega) (by omega)]; omega)]
  · show B_X5_isMonotone_1 _ _ _ _ = _
    rw [B_X5_isMonotone_1, z_sets hN, Option.bind_some, if_pos (by rw [ltI (by omega) (by omega)]; omega)]
    simp only [nm_eq, nI_1]
    refine lp_all (L := fun m p => L_X5_isMonotone_2 (nI N) V (nI i) _ m (nI p)) (K := L_X5_isMonotone_1 (nI N) V m (nI (i + 1))) (R := some false) (fun p => !(i.testBit p && decide (V i < V (dif i (2 ^ p))))) N (fun m' => ?_) (fun m' p hp => ?_) N 0 FU (by omega) (by rw [FU_eq]; omega)
    · show B_X5_isMonotone_2 _ _ _ _ _ _ = _
      rw [B_X5_isMonotone_2, if_neg (by rw [ltI (by omega) (by omega)]; omega)]
    · show B_X5_isMonotone_2 _ _ _ _ _ _ = _
      have hd := dif_le (a := i) (b := 2 ^ p)
      rw [B_X5_isMonotone_2, if_pos (by rw [ltI (by omega) (by omega)]; omega), z_has (by omega) (by omega), Option.bind_some]
      simp only [jn0_eq, nm_eq, nI_1]
      rw [shl_pw (by omega), nI_dif, ck_nI (by omega) (by omega), ck_nI (by omega) (by omega), nI_clamp (by omega), nI_clamp (by omega)]
      cases i.testBit p <;> by_cases d : V i < V (dif i (2 ^ p)) <;> simp [d]
  · cases allF (mos N V) 0 (2 ^ N) <;> rfl
theorem dif_sub {s t : Nat} (hs : s < 2 ^ 32) : dif s t = 0 ↔ ∀ i, s.testBit i = true → t.testBit i = true := by
  constructor
  · intro h i hi
    have h1 := dif_bit (a := s) (b := t) (i := i) hs
    rw [h, Nat.zero_testBit, hi] at h1
    cases c : t.testBit i
    · rw [c] at h1; cases h1
    · rfl
  · intro h
    apply Nat.eq_of_testBit_eq
    intro i
    rw [dif_bit hs, Nat.zero_testBit]
    cases c : s.testBit i
    · rfl
    · rw [h i c]; rfl
theorem mono_all {V : Nat → Int64} (h : ∀ s, s < 2 ^ N → ∀ p, p < N → s.testBit p = true → ¬ V s < V (dif s (2 ^ p))) (hN : N ≤ 9) : ∀ t, t < 2 ^ N → ∀ s, s < 2 ^ N → (∀ i, s.testBit i = true → t.testBit i = true) → ¬ V t < V s := by
  intro t
  induction t using Nat.strongRecOn with
  | _ t ih =>
    intro ht s hs hst
    have hpw := pw_le hN
    by_cases e : s = t
    · subst e
      rw [Int64.lt_iff_toInt_lt]
      omega
    · have : ∃ p, t.testBit p = true ∧ s.testBit p = false := by
        apply Classical.byContradiction
        intro hn
        apply e
        apply Nat.eq_of_testBit_eq
        intro i
        cases c : s.testBit i
        · cases d : t.testBit i
          · rfl
          · exact absurd ⟨i, d, c⟩ hn
        · rw [hst i c]
      obtain ⟨p, hp1, hp2⟩ := this
      have hpN := bit_lt ht hp1
      have hle := dif_le (a := t) (b := 2 ^ p)
      have hne : dif t (2 ^ p) ≠ t := fun z => by
        have := dif_bit (a := t) (b := 2 ^ p) (i := p) (by omega)
        rw [z, hp1, tb2] at this
        simp at this
      have h1 := h t ht p hpN hp1
      have h2 := ih (dif t (2 ^ p)) (by omega) (by omega) s hs (fun i hi => by
        rw [dif_bit (by omega), hst i hi, tb2]
        by_cases c : p = i
        · subst c
          rw [hp2] at hi
          cases hi
        · simp [c])
      rw [Int64.lt_iff_toInt_lt] at h1 h2 ⊢
      omega
theorem mono_iff {V : Nat → Int64} (hN : N ≤ 9) : (if allF (mos N V) 0 (2 ^ N) = true then some ((1 : Int32), false) else some (0, false)) = isr N 0 V := by
  have hpw := pw_le hN
  have hp1 := pw_pos N
  have hone : ∀ s t, pq 0 V s t = none ∨ pq 0 V s t = some (0, false) := fun s t => by
    simp only [pq, agp, if_true]
    cases (!(decide (dif s t = 0) && decide (V t < V s))) <;> simp
  have hone1 : ∀ s, pqs N 0 V s = none ∨ pqs N 0 V s = some (0, false) := fun s => fo_one _ _ (fun t _ _ => hone s t)
  have hone2 : fo (pqs N 0 V) 0 (2 ^ N) = none ∨ fo (pqs N 0 V) 0 (2 ^ N) = some (0, false) := fo_one _ _ (fun t _ _ => hone1 t)
  have hpq : ∀ s t, pq 0 V s t = none ↔ ¬ (dif s t = 0 ∧ V t < V s) := fun s t => by
    simp only [pq, agp, if_true]
    by_cases c1 : dif s t = 0 <;> by_cases c2 : V t < V s <;> simp [c1, c2]
  have key : allF (mos N V) 0 (2 ^ N) = true ↔ fo (pqs N 0 V) 0 (2 ^ N) = none := by
    rw [fo_none, allF_iff]
    constructor
    · intro h s _ hs
      rw [pqs, fo_none]
      intro t h1 h2
      rw [hpq]
      rintro ⟨h3, h4⟩
      refine mono_all (V := V) (fun a ha p hp hb => ?_) hN t (by omega) s (by omega) ((dif_sub (by omega)).mp h3) h4
      have := (allF_iff _ _).mp (h a (by omega) (by omega)) p (by omega) (by omega)
      simp [hb] at this
      rw [Int64.lt_iff_toInt_lt]
      rw [Int64.le_iff_toInt_le] at this
      omega
    · intro h s _ hs
      rw [mos, allF_iff]
      intro p _ hp
      cases c : s.testBit p
      · rfl
      · have hle := dif_le (a := s) (b := 2 ^ p)
        have hne : dif s (2 ^ p) ≠ s := fun z => by
          have := dif_bit (a := s) (b := 2 ^ p) (i := p) (by omega)
          rw [z, c, tb2] at this
          simp at this
        have h1 := h (dif s (2 ^ p)) (by omega) (by omega)
        rw [pqs, fo_none] at h1
        have h2 := (hpq _ _).mp (h1 s (by omega) (by omega))
        have h3 : dif (dif s (2 ^ p)) s = 0 := (dif_sub (by omega)).mpr (fun i hi => by
          rw [dif_bit (by omega)] at hi
          cases d : s.testBit i
          · rw [d] at hi; cases hi
          · rfl)
        have h4 : ¬ V s < V (dif s (2 ^ p)) := fun z => h2 ⟨h3, z⟩
        simp [h4]
  rw [isr]
  rcases hone2 with e | e
  · rw [key.mpr e, e, if_pos rfl]
    rfl
  · have : ¬ allF (mos N V) 0 (2 ^ N) = true := fun z => by
      rw [key.mp z] at e
      cases e
    rw [if_neg this, e]
    rfl
theorem o_is (R : RG N n nd es wt un ed G g) (bey isB : Bool) (a1 a2 : Int32) : ∃ r b1 b2, f_X5_is n bey G a1 a2 = some (r, b1) ∧ f_X6_is isB g a1 a2 = some (r, b2) := by
  obtain ⟨h1, h2, h3, h4⟩ := id R.1
  subst h3
  rw [f_X5_is, f_X6_is, z_isGame, z_isGameM, Option.bind_some, Option.bind_some, z_rng02, show (2 : Int64) = (nI 2).toInt64 from rfl, z_inI a2 (by omega), Option.bind_some]
  by_cases c0 : inb a1 4 = true
  · rw [if_pos c0, if_pos c0]
    by_cases c1 : inb a2 (2 + 1) = true
    · rw [if_pos c1, if_pos c1]
      obtain ⟨j, hj, hj2, rfl⟩ := inb_of c0
      obtain ⟨d, hd, hd2, rfl⟩ := inb_of c1
      have hV := R.2.2.2.2.2.2.2 j hj
      have eM := z_isM R hj hd
      have ea0 : (nI d = 0) = (d = 0) := eqI (a := d) (b := 0) (by omega) (by omega)
      have ea1 : (nI d = 1) = (d = 1) := eqI (a := d) (b := 1) (by omega) (by omega)
      simp only [ea0, ea1, nm_eq]
      obtain ⟨v, hv⟩ : ∃ v, isr N d (G j) = some v := by
        unfold isr
        cases fo (pqs N d (G j)) 0 (2 ^ N)
        · exact ⟨_, rfl⟩
        · exact ⟨_, rfl⟩
      rw [eM, hv]
      have : d = 0 ∨ d = 1 ∨ d = 2 := by omega
      rcases this with e | e | e
      · subst e
        rw [if_pos rfl, ck_nI hj (by omega), nI_clamp hj2, z_mono h2, Option.bind_some]
        have h5 := mono_iff (V := G j) h2
        rw [hv] at h5
        cases hb : allF (mos N (G j)) 0 (2 ^ N)
        · rw [hb, if_neg (by decide)] at h5
          cases h5
          exact ⟨_, _, _, rfl, rfl⟩
        · rw [hb, if_pos rfl] at h5
          cases h5
          exact ⟨_, _, _, rfl, rfl⟩
      · subst e
        have e2 := z_gains h2 (Or.inl rfl) (G j) hV bey
        rw [show decide (1 = 2) = false from rfl, hv] at e2
        rw [if_neg (by decide), if_pos rfl, ck_nI hj (by omega), nI_clamp hj2, e2, Option.bind_some]
        exact ⟨_, _, _, rfl, rfl⟩
      · subst e
        have e2 := z_gains h2 (Or.inr rfl) (G j) hV bey
        rw [show decide (2 = 2) = true from rfl, hv] at e2
        rw [if_neg (by decide), if_neg (by decide), ck_nI hj (by omega), nI_clamp hj2, e2, Option.bind_some]
        exact ⟨_, _, _, rfl, rfl⟩
    · rw [if_neg c1, if_neg c1]
      exact ⟨_, _, _, rfl, rfl⟩
  · rw [if_neg c0, if_neg c0]
    exact ⟨_, _, _, rfl, rfl⟩
end OPH
