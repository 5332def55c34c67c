/-! PURE PART: games made and worked on, first half: copy, add, times, dual, mask, unanimous, without, join, swap. -/
theorem nI_and (a b : Nat) : nI a &&& nI b = nI (a &&& b) := by
  apply Int32.toBitVec_inj.1
  show BitVec.ofNat 32 a &&& BitVec.ofNat 32 b = BitVec.ofNat 32 (a &&& b)
  apply BitVec.eq_of_getLsbD_eq
  intro i hi
  simp [hi]
theorem nI_xor (a b : Nat) : nI a ^^^ nI b = nI (a ^^^ b) := by
  apply Int32.toBitVec_inj.1
  show BitVec.ofNat 32 a ^^^ BitVec.ofNat 32 b = BitVec.ofNat 32 (a ^^^ b)
  apply BitVec.eq_of_getLsbD_eq
  intro i hi
  simp [hi]
theorem nI_or (a b : Nat) : nI a ||| nI b = nI (a ||| b) := by
  apply Int32.toBitVec_inj.1
  show BitVec.ofNat 32 a ||| BitVec.ofNat 32 b = BitVec.ofNat 32 (a ||| b)
  apply BitVec.eq_of_getLsbD_eq
  intro i hi
  simp [hi]
/-- what a has and b hasn't -/
def dif (a b : Nat) : Nat := a &&& (b ^^^ 4294967295)
theorem nI_dif (a b : Nat) : nI a &&& (nI b ^^^ (-1)) = nI (dif a b) := by
  rw [show (-1 : Int32) = nI 4294967295 from by decide, nI_xor, nI_and]
  rfl
theorem bit_lt {s N i : Nat} (h : s < 2 ^ N) (hb : s.testBit i = true) : i < N := by
  rcases Nat.lt_or_ge i N with z | z
  · exact z
  · rw [Nat.testBit_lt_two_pow (Nat.lt_of_lt_of_le h (Nat.pow_le_pow_right (by omega) z))] at hb
    cases hb
theorem dif_bit {a b i : Nat} (ha : a < 2 ^ 32) : (dif a b).testBit i = (a.testBit i && !b.testBit i) := by
  rw [dif, Nat.testBit_and, Nat.testBit_xor, show 4294967295 = 2 ^ 32 - 1 from by decide, Nat.testBit_two_pow_sub_one]
  cases h : a.testBit i with
  | false => rfl
  | true =>
    have := bit_lt ha h
    simp [this]
theorem dif_le {a b : Nat} : dif a b ≤ a := Nat.and_le_left
theorem all_bit (N i : Nat) : (2 ^ N - 1).testBit i = decide (i < N) := Nat.testBit_two_pow_sub_one N i
def cnt (P : Nat → Bool) : Nat → Nat
  | 0 => 0
  | n + 1 => cnt P n + if P n = true then 1 else 0
theorem cnt_le (P : Nat → Bool) : ∀ n, cnt P n ≤ n
  | 0 => Nat.le_refl _
  | n + 1 => by
    have := cnt_le P n
    simp only [cnt]
    split <;> omega
theorem cnt_congr {P Q : Nat → Bool} : ∀ n, (∀ i, i < n → P i = Q i) → cnt P n = cnt Q n
  | 0, _ => rfl
  | n + 1, h => by
    simp only [cnt]
    rw [cnt_congr n (fun i hi => h i (by omega)), h n (by omega)]
def orB (P : Nat → Bool) : Nat → Bool
  | 0 => false
  | n + 1 => orB P n || P n
theorem orB_congr {P Q : Nat → Bool} : ∀ n, (∀ i, i < n → P i = Q i) → orB P n = orB Q n
  | 0, _ => rfl
  | n + 1, h => by
    simp only [orB]
    rw [orB_congr n (fun i hi => h i (by omega)), h n (by omega)]
/-- the first i places of w become F -/
def fil (w : Nat → Int64) (i : Nat) (F : Nat → Int64) : Nat → Int64 := fun s => if s < i then F s else w s
theorem fil_0 {w F : Nat → Int64} : fil w 0 F = w := by
  funext s; exact if_neg (by omega)
theorem fil_s {w F : Nat → Int64} {i : Nat} {x : Int64} (hx : x = F i) : vp_updL (fil w i F) i x = fil w (i + 1) F := by
  subst hx
  funext s
  by_cases e : s = i
  · subst e; rw [pk_uLs]; exact (if_pos (by omega)).symm
  · rw [pk_uLn e]
    have : (s < i) = (s < i + 1) := propext (by omega)
    simp only [fil, this]
theorem fil_lt {w F : Nat → Int64} {i s : Nat} (h : s < i) : fil w i F s = F s := if_pos h
-- sums and products that tell whether they are beyond
def ovp (a b : Int64) : Bool := decide (((a ^^^ (a + b)) &&& (b ^^^ (a + b))) < 0)
def ovm (a b : Int64) : Bool := decide (((a ^^^ b) &&& (a ^^^ (a - b))) < 0)
def ovt (a b : Int64) : Bool := if b = -1 then decide (a = -9223372036854775808) else if b = 0 then false else decide (¬ (a * b) / b = a)
theorem z_plus (b : Bool) (x y : Int64) : f_X1_plus b x y = some (x + y, b || ovp x y) := by
  simp only [f_X1_plus, nm_eq, ovp]
  by_cases h : ((x ^^^ (x + y)) &&& (y ^^^ (x + y))) < 0 <;> cases b <;> simp [h]
theorem z_plusM (b : Bool) (x y : Int64) : f_X6_plus b x y = some (x + y, b || ovp x y) := by
  simp only [f_X6_plus, nm_eq, ovp]
  by_cases h : ((x ^^^ (x + y)) &&& (y ^^^ (x + y))) < 0 <;> cases b <;> simp [h]
theorem z_less (b : Bool) (x y : Int64) : f_X1_less b x y = some (x - y, b || ovm x y) := by
  simp only [f_X1_less, nm_eq, ovm]
  by_cases h : ((x ^^^ y) &&& (x ^^^ (x - y))) < 0 <;> cases b <;> simp [h]
theorem z_minus (b : Bool) (x y : Int64) : f_X6_minus b x y = some (x - y, b || ovm x y) := by
  simp only [f_X6_minus, nm_eq, ovm]
  by_cases h : ((x ^^^ y) &&& (x ^^^ (x - y))) < 0 <;> cases b <;> simp [h]
theorem z_product (b : Bool) (x y : Int64) : f_X1_product b x y = some (x * y, b || ovt x y) := by
  simp only [f_X1_product, nm_eq, jn0_eq, ovt]
  by_cases h1 : y = -1
  · simp only [if_pos h1]
    by_cases h2 : x = -9223372036854775808 <;> cases b <;> simp [h2]
  · simp only [if_neg h1]
    by_cases h0 : y = 0
    · simp only [if_pos h0]
      cases b <;> rfl
    · simp only [if_neg h0]
      rw [show (y != 0) = true from by simpa using h0, ck_true]
      by_cases h2 : x * y / y = x <;> cases b <;> simp [h2]
theorem z_productM (b : Bool) (x y : Int64) : f_X6_product b x y = some (x * y, b || ovt x y) := by
  simp only [f_X6_product, nm_eq, jn0_eq, ovt]
  by_cases h1 : y = -1
  · have h0 : ¬ y = 0 := fun z => by rw [z] at h1; exact absurd h1 (by decide)
    simp only [if_pos h1, if_neg h0]
    by_cases h2 : x = -9223372036854775808 <;> cases b <;> simp [h2]
  · simp only [if_neg h1]
    by_cases h0 : y = 0
    · simp only [if_pos h0]
    · simp only [if_neg h0]
      rw [show (y != 0) = true from by simpa using h0, ck_true]
      by_cases h2 : x * y / y = x <;> cases b <;> simp [h2]
section OP4
variable {N : Nat} {n nd es : Int32} {wt un ed : Nat → Int32} {G : Nat → Nat → Int64} {g wk nx : Nat → Int64}
theorem pw31 {N : Nat} (h : N ≤ 9) : 2 ^ N < 2 ^ 31 := by have := pw_le h; omega
theorem Gset_keep {j i : Nat} {F : Nat → Int64} (h : G j i = F i) : Gset G j (i + 1) F = Gset G j i F := by
  funext a s
  by_cases e : a = j ∧ s = i
  · obtain ⟨rfl, rfl⟩ := e
    simp [Gset, h]
  · have : (a = j ∧ s < i + 1) = (a = j ∧ s < i) := propext (by constructor <;> intro h9 <;> refine ⟨h9.1, ?_⟩ <;> have := h9.2 <;> omega)
    simp only [Gset, this]
theorem Gset_own {j i : Nat} {F : Nat → Int64} : Gset G j i F j i = G j i := if_neg (by omega)
theorem gset_own {j i : Nat} {F : Nat → Int64} : gset g j i F (183 + 512 * j + i) = g (183 + 512 * j + i) := gset_ne (by omega)
theorem Gset_congr {j M : Nat} {F F' : Nat → Int64} (h : ∀ s, s < M → F s = F' s) : Gset G j M F = Gset G j M F' := by
  funext a s
  by_cases e : a = j ∧ s < M
  · simp only [Gset, if_pos e, h s e.2]
  · simp only [Gset, if_neg e]
theorem gset_congr {j M : Nat} {F F' : Nat → Int64} (h : ∀ s, s < M → F s = F' s) : gset g j M F = gset g j M F' := by
  funext k
  by_cases e : 183 + 512 * j ≤ k ∧ k < 183 + 512 * j + M
  · simp only [gset, if_pos e, h (k - (183 + 512 * j)) (by omega)]
  · simp only [gset, if_neg e]
/-- how many sets get another value -/
def chg (A F : Nat → Int64) : Nat → Nat := cnt (fun s => !decide (A s = F s))
theorem z_settle (hN : N ≤ 9) {j : Nat} (hj : j < 4) (G : Nat → Nat → Int64) (wk : Nat → Int64) : f_X5_settle (nI N) G wk (nI j) = some (nI (chg (G j) wk (2 ^ N)), Gset G j (2 ^ N) wk) := by
  have hp := pw_le hN
  rw [f_X5_settle, ck_nI hj (by omega)]
  refine (congrArg (L_X5_settle_1 (nI N) wk (nI j) FU 0 0) Gset_0.symm).trans (lp_cf (L := fun m i => L_X5_settle_1 (nI N) wk (nI j) m (nI (chg (G j) wk i)) (nI i) (Gset G j i wk)) (2 ^ N) (fun m => ?_) (fun m i hi => ?_) (2 ^ N) 0 FU (by omega) (by rw [FU_eq]; omega))
  · show B_X5_settle_1 _ _ _ _ _ _ _ = _
    rw [B_X5_settle_1, z_sets hN, Option.bind_some, if_neg (by rw [ltI (by omega) (by omega)]; omega)]
  · show B_X5_settle_1 _ _ _ _ _ _ _ = _
    rw [B_X5_settle_1, z_sets hN, Option.bind_some, if_pos (by rw [ltI (by omega) (by omega)]; exact hi)]
    simp only [ck_nI (show i < 512 by omega) (show 512 < 2 ^ 31 by omega), nI_clamp (show i < 2 ^ 31 by omega), nI_clamp (show j < 2 ^ 31 by omega), nm_eq, jn2_eq, nI_1, Gset_own]
    by_cases c : G j i = wk i
    · rw [if_pos c]
      rw [show chg (G j) wk (i + 1) = chg (G j) wk i from by simp [chg, cnt, c], Gset_keep c]
    · rw [if_neg c, Gset_s]
      rw [show chg (G j) wk (i + 1) = chg (G j) wk i + 1 from by simp [chg, cnt, c]]
theorem z_takes (h0 : g 0 = lN N) (hN : N ≤ 9) {j : Nat} (hj : j < 4) (nx : Nat → Int64) : f_X6_takes false g nx (nI j) = some (nI (chg (fun s => g (183 + 512 * j + s)) nx (2 ^ N)), gset g j (2 ^ N) nx) := by
  have hp := pw_le hN
  have hp1 := pw_pos N
  rw [f_X6_takes, if_neg (by decide)]
  refine (congrArg (L_X6_takes_1 nx (nI j) FU 0 0) gset_0.symm).trans (lp_cf (L := fun m i => L_X6_takes_1 nx (nI j) m (nI (chg (fun s => g (183 + 512 * j + s)) nx i)) (nI i) (gset g j i nx)) (2 ^ N) (fun m => ?_) (fun m i hi => ?_) (2 ^ N) 0 FU (by omega) (by rw [FU_eq]; omega))
  · show B_X6_takes_1 _ _ _ _ _ _ = _
    rw [B_X6_takes_1, z_allM (N := N) (by rw [gset_ne (by omega)]; exact h0) hN, Option.bind_some, if_pos (by rw [ltI (by omega) (by omega)]; omega)]
  · show B_X6_takes_1 _ _ _ _ _ _ = _
    rw [B_X6_takes_1, z_allM (N := N) (by rw [gset_ne (by omega)]; exact h0) hN, Option.bind_some, if_neg (by rw [ltI (by omega) (by omega)]; omega), z_v hj (by omega), Option.bind_some, gset_own]
    simp only [ck_nI (show i < 512 by omega) (show 512 < 2 ^ 31 by omega), nI_clamp (show i < 2 ^ 31 by omega), nm_eq, jn1_eq, z_vix hj (show i < 512 by omega), ck_nI (show 183 + 512 * j + i < 2231 by omega) (show 2231 < 2 ^ 31 by omega), nI_clamp (show 183 + 512 * j + i < 2 ^ 31 by omega), nI_1, gset_s]
    by_cases c : g (183 + 512 * j + i) = nx i
    · rw [if_pos c, show nI (chg (fun s => g (183 + 512 * j + s)) nx i) + 0 = nI (chg (fun s => g (183 + 512 * j + s)) nx i) from by rw [nI_zero, nI_add]; rfl]
      rw [show chg (fun s => g (183 + 512 * j + s)) nx (i + 1) = chg (fun s => g (183 + 512 * j + s)) nx i from by simp [chg, cnt, c]]
    · rw [if_neg c]
      rw [show chg (fun s => g (183 + 512 * j + s)) nx (i + 1) = chg (fun s => g (183 + 512 * j + s)) nx i + 1 from by simp [chg, cnt, c]]
theorem z_takesB (g nx : Nat → Int64) (a : Int32) : f_X6_takes true g nx a = some (-6, g) := rfl
theorem z_done (h0 : g 0 = lN N) (hN : N ≤ 9) {j : Nat} (hj : j < 4) (nx : Nat → Int64) (b : Bool) : f_X6_done b g nx (nI j) = some (if b = true then -6 else 1, if b = true then g else gset g j (2 ^ N) nx) := by
  have hp := pw_le hN
  have hc : chg (fun s => g (183 + 512 * j + s)) nx (2 ^ N) ≤ 2 ^ N := cnt_le _ _
  cases b with
  | true => rfl
  | false =>
    rw [f_X6_done, z_takes h0 hN hj, Option.bind_some, if_neg (nI_pos (by omega))]
    rfl
theorem z_sub (hN : N ≤ 9) {j : Nat} (hj : j < 4) (b : Bool) (G : Nat → Nat → Int64) (wk : Nat → Int64) : f_X5_settleUnlessBeyond (nI N) b G wk (nI j) = some (if b = true then -6 else 1, if b = true then G else Gset G j (2 ^ N) wk) := by
  cases b with
  | true => rfl
  | false =>
    rw [f_X5_settleUnlessBeyond, if_neg (by decide), z_settle hN hj, Option.bind_some]
    rfl
/-- a game becomes F on both sides -/
theorem RG.made (R : RG N n nd es wt un ed G g) {j : Nat} (hj : j < 4) (F : Nat → Int64) (hF : F 0 = 0) {wk nx : Nat → Int64} (h1 : ∀ s, s < 2 ^ N → wk s = F s) (h2 : ∀ s, s < 2 ^ N → nx s = F s) : RG N n nd es wt un ed (Gset G j (2 ^ N) wk) (gset g j (2 ^ N) nx) := by
  rw [Gset_congr h1, gset_congr h2]
  exact R.game hj hF
theorem RG.cng (R : RG N n nd es wt un ed G g) {j : Nat} (hj : j < 4) (F : Nat → Int64) {wk nx : Nat → Int64} (h1 : ∀ s, s < 2 ^ N → wk s = F s) (h2 : ∀ s, s < 2 ^ N → nx s = F s) : chg (G j) wk (2 ^ N) = chg (fun s => g (183 + 512 * j + s)) nx (2 ^ N) := by
  refine cnt_congr _ (fun i hi => ?_)
  rw [h1 i hi, h2 i hi]
  simp only [R.2.2.2.2.2.2.1 j hj i hi]
theorem RG.cond (R : RG N n nd es wt un ed G g) {j : Nat} (hj : j < 4) (F : Nat → Int64) (hF : F 0 = 0) {wk nx : Nat → Int64} (b : Bool) (h1 : ∀ s, s < 2 ^ N → wk s = F s) (h2 : ∀ s, s < 2 ^ N → nx s = F s) : RG N n nd es wt un ed (if b = true then G else Gset G j (2 ^ N) wk) (if b = true then g else gset g j (2 ^ N) nx) := by
  cases b with
  | true => exact R
  | false => exact R.made hj F hF h1 h2
end OP4
