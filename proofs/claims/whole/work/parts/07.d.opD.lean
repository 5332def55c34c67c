/-! PURE PART: swings, by sets and by sums. -/
theorem cnt_split {P : Nat → Bool} (a : Nat) : ∀ b, cnt P (a + b) = cnt P a + cnt (fun i => P (a + i)) b
  | 0 => rfl
  | b + 1 => by
    show cnt P (a + b + 1) = _
    simp only [cnt, cnt_split a b]
    omega
def cs (W : Nat → Nat) (p k v : Nat) : Nat := cnt (fun s => !s.testBit p && decide (wsum W s k = v)) (2 ^ k)
def tk (W : Nat → Nat) (p : Nat) : Nat → Nat
  | 0 => 0
  | k + 1 => if k = p then tk W p k else tk W p k + W k
theorem tk_le {W : Nat → Nat} {p : Nat} (h : ∀ p, p < 9 → W p ≤ 1000) : ∀ k, k ≤ 9 → tk W p k ≤ 1000 * k
  | 0, _ => Nat.le_refl _
  | k + 1, hk => by
    have h1 := tk_le (p := p) h k (by omega)
    have h2 := h k (by omega)
    simp only [tk]
    split <;> omega
theorem tk_le8 {W : Nat → Nat} {p : Nat} (h : ∀ p, p < 9 → W p ≤ 1000) (hp : p < 9) : ∀ k, k ≤ 9 → tk W p k ≤ 1000 * (if p < k then k - 1 else k)
  | 0, _ => by simp [tk]
  | k + 1, hk => by
    have h1 := tk_le8 h hp k (by omega)
    have h2 := h k (by omega)
    simp only [tk]
    by_cases e : k = p
    · subst e
      simp at h1 ⊢
      omega
    · rw [if_neg e]
      by_cases c : p < k
      · rw [if_pos c] at h1
        rw [if_pos (by omega)]
        omega
      · rw [if_neg c] at h1
        rw [if_neg (by omega)]
        omega
theorem wsum_tk {W : Nat → Nat} {p s : Nat} (hs : s.testBit p = false) : ∀ k, wsum W s k ≤ tk W p k
  | 0 => Nat.le_refl _
  | k + 1 => by
    have h1 := wsum_tk (W := W) hs k
    simp only [tk, wsum]
    by_cases e : k = p
    · subst e
      rw [hs]
      simp
      exact h1
    · rw [if_neg e]
      split <;> omega
theorem wsum_congr {W : Nat → Nat} {s t : Nat} : ∀ k, (∀ i, i < k → s.testBit i = t.testBit i) → wsum W s k = wsum W t k
  | 0, _ => rfl
  | k + 1, h => by
    simp only [wsum, wsum_congr k (fun i hi => h i (by omega)), h k (by omega)]
theorem bit_hi {k s : Nat} (h : s < 2 ^ k) (i : Nat) : (2 ^ k + s).testBit i = if i = k then true else s.testBit i := by
  by_cases e : i = k
  · subst e
    rw [if_pos rfl, Nat.testBit_two_pow_add_eq, Nat.testBit_lt_two_pow h]
    rfl
  · rw [if_neg e]
    have : 2 ^ k + s = 2 ^ k ||| s := Nat.two_pow_add_eq_or_of_lt h 1 |> (by simpa using ·)
    rw [this, Nat.testBit_or, Nat.testBit_two_pow]
    simp [Ne.symm e]
theorem cnt_none : ∀ n, cnt (fun _ => false) n = 0
  | 0 => rfl
  | n + 1 => by simp [cnt, cnt_none n]
theorem cs_s {W : Nat → Nat} {p k v : Nat} : cs W p (k + 1) v = cs W p k v + if k = p then 0 else if W k ≤ v then cs W p k (v - W k) else 0 := by
  unfold cs
  rw [show 2 ^ (k + 1) = 2 ^ k + 2 ^ k from by rw [Nat.pow_succ]; omega, cnt_split]
  congr 1
  · apply cnt_congr
    intro s hs
    have : s.testBit k = false := Nat.testBit_lt_two_pow hs
    simp only [wsum, this, Bool.false_eq_true, if_false, Nat.add_zero]
  · by_cases e : k = p
    · subst e
      rw [if_pos rfl, ← cnt_none (2 ^ k)]
      apply cnt_congr
      intro s hs
      rw [bit_hi hs, if_pos rfl]
      rfl
    · rw [if_neg e]
      by_cases c : W k ≤ v
      · rw [if_pos c]
        apply cnt_congr
        intro s hs
        have h1 : wsum W (2 ^ k + s) k = wsum W s k := wsum_congr k (fun i hi => by rw [bit_hi hs, if_neg (by omega)])
        rw [bit_hi hs, if_neg (fun z => e z.symm), wsum, h1, bit_hi hs, if_pos rfl, if_pos rfl]
        have : (wsum W s k + W k = v) = (wsum W s k = v - W k) := propext (by omega)
        simp only [this]
      · rw [if_neg c, ← cnt_none (2 ^ k)]
        apply cnt_congr
        intro s hs
        have h1 : wsum W (2 ^ k + s) k = wsum W s k := wsum_congr k (fun i hi => by rw [bit_hi hs, if_neg (by omega)])
        rw [wsum, h1, bit_hi hs, bit_hi hs, if_pos rfl, if_pos rfl]
        have : ¬ (wsum W s k + W k = v) := by omega
        simp [this]
theorem cs_big {W : Nat → Nat} {p k v : Nat} (h : tk W p k < v) : cs W p k v = 0 := by
  unfold cs
  rw [← cnt_none (2 ^ k)]
  apply cnt_congr
  intro s hs
  cases c : s.testBit p
  · have := wsum_tk (W := W) c k
    have : ¬ wsum W s k = v := by omega
    simp [this]
  · rfl
/-- by sums, by sets -/
def smc (C : Nat → Nat) (ok : Nat → Bool) : Nat → Nat
  | 0 => 0
  | v + 1 => smc C ok v + if ok v = true then C v else 0
theorem smc_fub {A : Nat → Bool} {h : Nat → Nat} {ok : Nat → Bool} (T : Nat) : ∀ n, (∀ s, s < n → A s = true → h s < T) → smc (fun v => cnt (fun s => A s && decide (h s = v)) n) ok T = cnt (fun s => A s && ok (h s)) n
  | 0, _ => by
    have : ∀ T, smc (fun v => cnt (fun s => A s && decide (h s = v)) 0) ok T = 0 := fun T => by
      induction T with
      | zero => rfl
      | succ T ih =>
        simp only [cnt] at ih
        simp only [smc, cnt, ih, ite_self]
    exact this T
  | n + 1, hh => by
    have ih := smc_fub (A := A) (h := h) (ok := ok) T n (fun s hs => hh s (by omega))
    have key : ∀ T, smc (fun v => cnt (fun s => A s && decide (h s = v)) (n + 1)) ok T = smc (fun v => cnt (fun s => A s && decide (h s = v)) n) ok T + if A n = true ∧ h n < T ∧ ok (h n) = true then 1 else 0 := fun T => by
      induction T with
      | zero => simp [smc]
      | succ T it =>
        simp only [smc] at it ⊢
        rw [it]
        simp only [cnt]
        by_cases e : h n = T
        · subst e
          by_cases hA : A n = true <;> by_cases hO : ok (h n) = true <;> simp [hA, hO] <;> omega
        · have e1 : (h n < T + 1) = (h n < T) := propext (by omega)
          simp only [e1, e, decide_false, Bool.and_false, Bool.false_eq_true, if_false, Nat.add_zero]
          by_cases hO : ok T = true <;> simp [hO] <;> omega
    rw [key, ih]
    simp only [cnt]
    by_cases c : A n = true
    · have := hh n (by omega) c
      by_cases hO : ok (h n) = true <;> simp [this, c, hO]
    · simp [c]
section OPD
variable {N Q E : Nat} {n nd es : Int32} {wt un ed : Nat → Int32} {G : Nat → Nat → Int64} {g : Nat → Int64} {W : Nat → Nat}
theorem wsum_bit {s p : Nat} (hs : s.testBit p = false) : ∀ k, wsum W (bt s p) k = wsum W s k + if p < k then W p else 0
  | 0 => rfl
  | k + 1 => by
    have ih := wsum_bit hs k
    unfold bt at ih ⊢
    simp only [wsum, ih, Nat.testBit_or, tb2]
    by_cases e : p = k
    · subst e
      simp [hs]
    · have : (p < k + 1) = (p < k) := propext (by omega)
      simp only [e, decide_false, Bool.or_false, this]
      omega
/-- an array of counts, on the way -/
def arr (z : Nat → Int32) (c : Nat → Nat) (w t : Nat) : Nat → Int32 := fun d => if d < 8001 then nI (c d + if w ≤ d ∧ t ≤ d - w then c (d - w) else 0) else z d
theorem z_cs2 {z : Nat → Int32} {c : Nat → Nat} {w T : Nat} (hT : T + w ≤ 8000) {kx : (Nat → Int32) → Option (Int32 × (Nat → Int32))} : ∀ t m, t ≤ T + 1 → t < m → L_X5_countSetsBySum_2 (nI w) kx m (nI t - 1) (arr z c w t) = kx (arr z c w 0)
  | 0, m, h, hm => by
    obtain ⟨m, rfl⟩ : ∃ k, m = k + 1 := ⟨m - 1, by omega⟩
    show B_X5_countSetsBySum_2 _ _ _ _ _ = _
    rw [B_X5_countSetsBySum_2, if_pos (by decide)]
  | t + 1, m, h, hm => by
    obtain ⟨m, rfl⟩ : ∃ k, m = k + 1 := ⟨m - 1, by omega⟩
    have ih := z_cs2 (z := z) (c := c) hT (kx := kx) t m (by omega) (by omega)
    show B_X5_countSetsBySum_2 _ _ _ _ _ = _
    rw [B_X5_countSetsBySum_2, nI_m1 (by omega), Nat.add_sub_cancel, if_neg (nI_pos (by omega))]
    simp only [nm_eq]
    rw [nI_add, ck_nI (by omega) (by omega), ck_nI (by omega) (by omega), ck_nI (by omega) (by omega), nI_clamp (by omega), nI_clamp (by omega)]
    refine Eq.trans ?_ ih
    have e1 : nI t + -1 = nI t - 1 := (Int32.sub_eq_add_neg _ _).symm
    rw [e1]
    congr 1
    funext d
    by_cases ed : d = t + w
    · subst ed
      have a1 : arr z c w (t + 1) (t + w) = nI (c (t + w)) := by
        simp only [arr]
        rw [if_pos (by omega), if_neg (by omega), Nat.add_zero]
      have a2 : arr z c w (t + 1) t = nI (c t) := by
        simp only [arr]
        rw [if_pos (by omega), if_neg (by omega), Nat.add_zero]
      have a3 : arr z c w t (t + w) = nI (c (t + w) + c t) := by
        simp only [arr]
        rw [if_pos (by omega), if_pos (by omega), Nat.add_sub_cancel]
      rw [pk_us, a1, a2, a3, nI_add]
    · rw [pk_un ed]
      simp only [arr]
      have : (w ≤ d ∧ t + 1 ≤ d - w) = (w ≤ d ∧ t ≤ d - w) := propext (by omega)
      simp only [this]
theorem z_cs0 {p : Nat} (sbs : Nat → Int32) : upd (fun j => if j < 8001 then 0 else sbs j) 0 1 = fun d => if d < 8001 then nI (cs W p 0 d) else sbs d := by
  funext d
  by_cases e : d = 0
  · subst e
    have : cs W p 0 0 = 1 := by simp [cs, cnt, wsum]
    rw [pk_us, if_pos (by omega), this, nI_one]
  · rw [pk_un e]
    have : cs W p 0 d = 0 := cs_big (by simp only [tk]; omega)
    rw [this, nI_zero]
theorem z_csS (hw : ∀ p, p < 9 → wt p = nI (W p)) (hw1 : ∀ p, p < 9 → W p ≤ 1000) (hN : N ≤ 9) {p : Nat} (hp : p < N) (sbs : Nat → Int32) (m : Nat) {i : Nat} (hi : i < N) : L_X5_countSetsBySum_1 (nI N) wt (nI p) (m + 1) (nI (tk W p i)) (nI i) (fun d => if d < 8001 then nI (cs W p i d) else sbs d) = L_X5_countSetsBySum_1 (nI N) wt (nI p) m (nI (tk W p (i + 1))) (nI (i + 1)) (fun d => if d < 8001 then nI (cs W p (i + 1) d) else sbs d) := by
  show B_X5_countSetsBySum_1 _ _ _ _ _ _ _ = _
  rw [B_X5_countSetsBySum_1, if_pos (by rw [ltI (by omega) (by omega)]; omega)]
  obtain ⟨fu, hfu⟩ : ∃ k, k = FU := ⟨_, rfl⟩
  have hfu2 : fu = 100000 := hfu.trans FU_eq
  rw [← hfu]
  simp only [jn2_eq, nm_eq, nI_1, eqI (show i < 2 ^ 31 by omega) (show p < 2 ^ 31 by omega)]
  by_cases e : i = p
  · rw [if_pos e]
    simp only [tk, if_pos e, cs_s, Nat.add_zero]
  · rw [if_neg e, ck_nI (show i < 9 by omega) (by omega), nI_clamp (by omega), hw i (by omega)]
    have hT := tk_le8 hw1 (show p < 9 by omega) (i + 1) (by omega)
    have hT2 : tk W p (i + 1) ≤ 8000 := by
      by_cases c : p < i + 1
      · rw [if_pos c] at hT; omega
      · rw [if_neg c] at hT; omega
    simp only [tk, if_neg e] at hT2
    have ea : (fun d => if d < 8001 then nI (cs W p i d) else sbs d) = arr sbs (cs W p i) (W i) (tk W p i + 1) := by
      funext d
      simp only [arr]
      by_cases c : W i ≤ d ∧ tk W p i + 1 ≤ d - W i
      · rw [if_pos c, cs_big (v := d - W i) (by omega), Nat.add_zero]
      · rw [if_neg c, Nat.add_zero]
    have et : nI (tk W p i) = nI (tk W p i + 1) - 1 := by
      rw [nI_m1 (by omega), Nat.add_sub_cancel]
    have eb : (fun d => if d < 8001 then nI (cs W p (i + 1) d) else sbs d) = arr sbs (cs W p i) (W i) 0 := by
      funext d
      simp only [arr, cs_s, if_neg e, Nat.zero_le, and_true]
    have ec : tk W p (i + 1) = tk W p i + W i := by simp only [tk, if_neg e]
    rw [ea, et, z_cs2 hT2 (tk W p i + 1) fu (by omega) (by omega), ← et, nI_add, eb, ec]
theorem z_cs1 (hN : N ≤ 9) (hw : ∀ p, p < 9 → wt p = nI (W p)) (hw1 : ∀ p, p < 9 → W p ≤ 1000) {p : Nat} (hp : p < N) (sbs : Nat → Int32) : f_X5_countSetsBySum (nI N) wt sbs (nI p) = some (nI (tk W p N), fun d => if d < 8001 then nI (cs W p N d) else sbs d) := by
  have h : L_X5_countSetsBySum_1 (nI N) wt (nI p) FU (nI (tk W p 0)) (nI 0) (fun d => if d < 8001 then nI (cs W p 0 d) else sbs d) = some (nI (tk W p N), fun d => if d < 8001 then nI (cs W p N d) else sbs d) := by
    refine lp_cf (L := fun m i => L_X5_countSetsBySum_1 (nI N) wt (nI p) m (nI (tk W p i)) (nI i) (fun d => if d < 8001 then nI (cs W p i d) else sbs d)) N (fun m => ?_) (fun m i hi => z_csS hw hw1 hN hp sbs m hi) N 0 FU (by omega) (by rw [FU_eq]; omega)
    show B_X5_countSetsBySum_1 _ _ _ _ _ _ _ = _
    rw [B_X5_countSetsBySum_1, if_neg (by rw [ltI (by omega) (by omega)]; omega)]
  have ht : nI (tk W p 0) = 0 := rfl
  rw [ht, ← nI_zero] at h
  rw [f_X5_countSetsBySum, z_filli (by omega), Option.bind_some, show inb (0 : Int32) 8001 = true from by decide, ck_true]
  simp only [nm_eq]
  rw [show (0 : Int32).toNatClampNeg = 0 from by decide, z_cs0 (W := W) (p := p)]
  exact h
def swc (Q : Nat) (W : Nat → Nat) (N p : Nat) : Nat := cnt (sw Q W N p) (2 ^ N)
theorem z_bySums (hN : N ≤ 9) (hQ : Q ≤ 9999) (hw : ∀ p, p < 9 → wt p = nI (W p)) (hw1 : ∀ p, p < 9 → W p ≤ 1000) {p : Nat} (hp : p < N) (sbs : Nat → Int32) : ∃ sbs', f_X5_swingsBySums (nI N) (nI Q) wt sbs (nI p) = some (nI (swc Q W N p), sbs') := by
  refine ⟨fun d => if d < 8001 then nI (cs W p N d) else sbs d, ?_⟩
  rw [f_X5_swingsBySums, z_cs1 hN hw hw1 hp, Option.bind_some, ck_nI (show p < 9 by omega) (by omega), nI_clamp (by omega), hw p (by omega)]
  simp only [nm_eq]
  have hT := tk_le8 hw1 (show p < 9 by omega) N hN
  rw [if_pos hp] at hT
  have hwp := hw1 p (by omega)
  obtain ⟨ok, hok⟩ : ∃ ok : Nat → Bool, ok = fun v => decide (v < Q) && decide (Q ≤ v + W p) := ⟨_, rfl⟩
  have hS : smc (cs W p N) ok (tk W p N + 1) = swc Q W N p := by
    have := smc_fub (A := fun s => !s.testBit p) (h := fun s => wsum W s N) (ok := ok) (tk W p N + 1) (2 ^ N) (fun s hs ha => by
      have := wsum_tk (W := W) (p := p) (s := s) (by simpa using ha) N
      omega)
    refine this.trans (cnt_congr _ (fun s hs => ?_))
    simp only [sw, wn, hok]
    cases c : s.testBit p
    · rw [wsum_bit c, if_pos hp]
      have : decide (wsum W s N < Q) = !decide (Q ≤ wsum W s N) := by
        by_cases d : Q ≤ wsum W s N
        · rw [decide_eq_true d, decide_eq_false (by omega)]; rfl
        · rw [decide_eq_false d, decide_eq_true (by omega)]; rfl
      simp only [this, Bool.not_false, Bool.true_and]
    · rw [bt, or_same c]
      by_cases d : Q ≤ wsum W s N <;> simp [d]
  rw [← hS]
  refine lp_cf (L := fun m i => L_X5_swingsBySums_1 (nI Q) (nI (tk W p N), fun d => if d < 8001 then nI (cs W p N d) else sbs d) (nI (W p)) m (nI (smc (cs W p N) ok i)) (nI i)) (tk W p N + 1) (fun m => ?_) (fun m i hi => ?_) (tk W p N + 1) 0 FU (by omega) (by rw [FU_eq]; omega)
  · show B_X5_swingsBySums_1 _ _ _ _ _ _ = _
    rw [B_X5_swingsBySums_1, if_pos (by rw [ltI (by omega) (by omega)]; omega)]
  · show B_X5_swingsBySums_1 _ _ _ _ _ _ = _
    rw [B_X5_swingsBySums_1, if_neg (by rw [ltI (by omega) (by omega)]; omega)]
    simp only [jn1_eq, nm_eq, nI_1, nI_add, ltI (show i < 2 ^ 31 by omega) (show Q < 2 ^ 31 by omega), ltI (show i + W p < 2 ^ 31 by omega) (show Q < 2 ^ 31 by omega)]
    rw [ck_nI (show i < 8001 by omega) (by omega), nI_clamp (by omega), if_pos (show i < 8001 by omega), nI_add]
    by_cases c : i < Q
    · rw [if_pos c]
      by_cases d : i + W p < Q
      · rw [if_pos d]
        have : ok i = false := by simp [hok]; omega
        simp [smc, this]
      · rw [if_neg d]
        have : ok i = true := by simp [hok]; omega
        simp [smc, this]
    · rw [if_neg c]
      have : ok i = false := by simp [hok]; omega
      simp [smc, this]
theorem z_bySets (hN : N ≤ 9) (hQ : Q ≤ 9999) (hw : ∀ p, p < 9 → wt p = nI (W p)) (hw1 : ∀ p, p < 9 → W p ≤ 1000) {p : Nat} (hp : p < N) : f_X5_swingsBySets (nI N) (nI Q) wt (nI p) = some (nI (swc Q W N p)) := by
  have h2 := pw_le hN
  refine lp_cf (L := fun m i => L_X5_swingsBySets_1 (nI N) (nI Q) wt (nI p) m (nI (cnt (sw Q W N p) i)) (nI i)) (2 ^ N) (fun m => ?_) (fun m i hi => ?_) (2 ^ N) 0 FU (by omega) (by rw [FU_eq]; omega)
  · show B_X5_swingsBySets_1 _ _ _ _ _ _ _ = _
    rw [B_X5_swingsBySets_1, z_sets hN, Option.bind_some, if_neg (by rw [ltI (by omega) (by omega)]; omega)]
    rfl
  · show B_X5_swingsBySets_1 _ _ _ _ _ _ _ = _
    rw [B_X5_swingsBySets_1, z_sets hN, Option.bind_some, if_pos (by rw [ltI (by omega) (by omega)]; omega), z_swing hN hQ hw hw1 hi hp, Option.bind_some]
    simp only [jn1_eq, nm_eq, nI_1, cnt]
    change (if sw Q W N p i = true then _ else _) = _
    cases sw Q W N p i <;> rfl
theorem z_swingsM (R : RG N n nd es wt un ed G g) (hQ : Q ≤ 9999) (H : HD N Q E W ed g) {p : Nat} (hp : p < N) : L_X6_swings_1 g (nI p) FU 0 0 = some (nI (swc Q W N p)) := by
  have hN := R.1.2.1
  have h2 := pw_le hN
  have hp1 := pw_pos N
  refine lp_cf (L := fun m i => L_X6_swings_1 g (nI p) m (nI (cnt (sw Q W N p) i)) (nI i)) (2 ^ N) (fun m => ?_) (fun m i hi => ?_) (2 ^ N) 0 FU (by omega) (by rw [FU_eq]; omega)
  · show B_X6_swings_1 _ _ _ _ _ = _
    rw [B_X6_swings_1, R.all, Option.bind_some, if_pos (by rw [ltI (by omega) (by omega)]; omega)]
    rfl
  · show B_X6_swings_1 _ _ _ _ _ = _
    rw [B_X6_swings_1, R.all, Option.bind_some, if_neg (by rw [ltI (by omega) (by omega)]; omega), z_swingM hN hQ H hi hp, Option.bind_some]
    simp only [jn1_eq, nm_eq, nI_1, cnt]
    cases sw Q W N p i
    · simp only [Bool.false_eq_true, if_false]
      rw [nI_zero, nI_add]
    · simp only [if_true]
theorem z_rng01 {ρ : Type} {a : Int32} {x y : ρ} : (if a = 0 then x else if a = 1 then x else y) = if inb a 2 = true then x else y := by
  by_cases h : inb a 2 = true
  · rw [if_pos h]
    obtain ⟨k, hk, hk2, rfl⟩ := inb_of h
    have : k = 0 ∨ k = 1 := by omega
    rcases this with e | e <;> subst e <;> rfl
  · rw [if_neg h, if_neg (fun e : a = 0 => h (by rw [e]; decide)), if_neg (fun e : a = 1 => h (by rw [e]; decide))]
theorem o_swings (R : RG N n nd es wt un ed G g) (sbs : Nat → Int32) (a1 a2 : Int32) : ∃ r sbs', f_X5_swings n nd wt sbs a1 a2 = some (r, sbs') ∧ f_X6_swings g a1 a2 = some r := by
  obtain ⟨h1, h2, h3, h4⟩ := id R.1
  subst h3
  obtain ⟨Q, E, W, q1, -, rfl, -, hw, H⟩ := R.head
  have hw1 : ∀ p, p < 9 → W p ≤ 1000 := fun p hp => (H.2.2.2.1 p hp).1
  rw [f_X5_swings, f_X6_swings, z_hasPartner h2, z_isPartnerM h4 h1 h2, Option.bind_some, Option.bind_some, show (1 : Int64) = (nI 1).toInt64 from rfl, z_inI a2 (by omega), Option.bind_some]
  simp only [jn0_eq, z_rng01]
  by_cases c1 : inb a1 N = true
  · rw [if_pos c1, if_pos c1]
    by_cases c2 : inb a2 2 = true
    · rw [if_pos c2, if_pos c2]
      obtain ⟨p, hp, hp2, rfl⟩ := inb_of c1
      by_cases e : a2 = 0
      · rw [if_pos e, z_bySets h2 q1 hw hw1 hp, Option.bind_some]
        exact ⟨_, _, rfl, z_swingsM R q1 H hp⟩
      · obtain ⟨sbs', hs⟩ := z_bySums h2 q1 hw hw1 hp sbs
        rw [if_neg e, hs, Option.bind_some]
        exact ⟨_, _, rfl, z_swingsM R q1 H hp⟩
    · rw [if_neg c2, if_neg c2]
      exact ⟨_, _, rfl, rfl⟩
  · rw [if_neg c1, if_neg c1]
    exact ⟨_, _, rfl, rfl⟩
end OPD
