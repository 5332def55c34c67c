/-! PURE PART: what the small calls answer, of numbers in range. -/
theorem pw_le {N : Nat} (h : N ≤ 9) : 2 ^ N ≤ 512 := by
  have : N ∈ List.range 10 := List.mem_range.mpr (by omega)
  have h1 : (List.range 10).all (fun N => decide (2 ^ N ≤ 512)) = true := by decide
  exact of_decide_eq_true (List.all_eq_true.mp h1 N this)
theorem pw_pos (N : Nat) : 1 ≤ 2 ^ N := Nat.one_le_two_pow
theorem z_sets {N : Nat} (h : N ≤ 9) : f_X0_sets (nI N) = some (nI (2 ^ N)) :=
  co_dec (N := 10) (P := fun N => f_X0_sets (nI N) = some (nI (2 ^ N))) (by decide +kernel) (by omega)
theorem z_every {N : Nat} (h : N ≤ 9) : f_X0_everyone (nI N) = some (nI (2 ^ N - 1)) :=
  co_dec (N := 10) (P := fun N => f_X0_everyone (nI N) = some (nI (2 ^ N - 1))) (by decide +kernel) (by omega)
theorem lt_of_neg {a : Int32} {n : Nat} (h : a < 0) (hn : n < 2 ^ 31) : a < nI n := by
  rw [Int32.lt_iff_toInt_lt] at h ⊢
  rw [nI_toInt hn]
  rw [Int32.toInt_zero] at h
  omega
theorem z_rng {ρ : Type} {a : Int32} {n : Nat} (hn : n < 2 ^ 31) {x y : ρ} : (if a < 0 then x else if a < nI n then y else x) = if inb a n = true then y else x := by
  rcases i32_cases a with h | ⟨k, hk, rfl⟩
  · rw [if_pos h, inb_neg n h]; rfl
  · rw [if_neg (nI_pos hk), inb_eq hk]
    simp only [ltI hk hn, decide_eq_true_eq]
theorem if_some {ρ : Type} {b : Bool} {x y : ρ} : (if b = true then some x else some y) = some (if b = true then x else y) := by cases b <;> rfl
theorem if_b (b : Bool) : (if b = true then true else false) = b := by cases b <;> rfl
theorem z_hasPartner {N : Nat} (h : N ≤ 9) (a : Int32) : f_X0_hasPartner (nI N) a = some (inb a N) := by
  simp only [f_X0_hasPartner, jn0_eq]
  rw [z_rng (by omega), if_some, if_b]
theorem z_hasSet {N : Nat} (h : N ≤ 9) (a : Int32) : f_X0_hasSet (nI N) a = some (inb a (2 ^ N)) := by
  have := pw_le h
  simp only [f_X0_hasSet, jn0_eq, z_sets h, Option.bind_some]
  rw [z_rng (by omega), if_some, if_b]
theorem z_isGame (a : Int32) : f_X5_isGame a = some (inb a 4) := by
  simp only [f_X5_isGame, jn0_eq]
  rw [show (4 : Int32) = nI 4 from rfl, z_rng (by omega), if_some, if_b]
theorem z_isRow (a : Int32) : f_X5_isRow a = some (inb a 4) := by
  simp only [f_X5_isRow, jn0_eq]
  rw [show (4 : Int32) = nI 4 from rfl, z_rng (by omega), if_some, if_b]
def two (a b : Int32) (N : Nat) : Bool := inb a N && inb b N && decide (¬ a = b)
theorem z_hasTwo {N : Nat} (h : N ≤ 9) (a b : Int32) : f_X0_hasTwo (nI N) a b = some (two a b N) := by
  simp only [f_X0_hasTwo, jn0_eq, z_hasPartner h, Option.bind_some, two]
  cases inb a N <;> cases inb b N <;> by_cases hh : a = b <;> simp [hh]
def prt (a : Int32) : Bool := decide (a = 0 ∨ a = 1)
theorem z_isPart (a : Int32) : f_X5_isPart a = some (prt a) := by
  simp only [f_X5_isPart, jn0_eq, prt]
  by_cases h0 : a = 0
  · simp [h0]
  · by_cases h1 : a = 1 <;> simp [h0, h1]
theorem z_isIn (v l m : Int64) : f_X6_isIn v l m = some (decide (l ≤ v) && decide (v ≤ m)) := by
  simp only [f_X6_isIn, jn0_eq]
  by_cases h0 : v < l
  · rw [if_pos h0]
    have : ¬ l ≤ v := Int64.not_le.mpr h0
    simp [this]
  · rw [if_neg h0]
    have : l ≤ v := Int64.not_lt.mp h0
    by_cases h1 : m < v
    · rw [if_pos h1]
      have : ¬ v ≤ m := Int64.not_le.mpr h1
      simp [this]
    · rw [if_neg h1]
      have h2 : v ≤ m := Int64.not_lt.mp h1
      simp [this, h2]
theorem z_told (v : Int64) : f_X5_isToldValue v = some (decide ((-1000000000000) ≤ v) && decide (v ≤ 1000000000000)) := by
  rw [← z_isIn]; rfl
/-- an Int32 within 0 .. n, told as a long -/
theorem z_inI (a : Int32) {n : Nat} (hn : n + 1 < 2 ^ 31) : f_X6_isIn a.toInt64 0 (nI n).toInt64 = some (inb a (n + 1)) := by
  rw [z_isIn]
  congr 1
  rcases i32_cases a with h | ⟨k, hk, rfl⟩
  · rw [inb_neg _ h]
    have : ¬ (0 : Int64) ≤ a.toInt64 := by
      rw [Int64.le_iff_toInt_le, toI_toL]
      rw [Int32.lt_iff_toInt_lt, Int32.toInt_zero] at h
      simpa using h
    simp [this]
  · rw [inb_eq hk, nI_l hk, nI_l (by omega)]
    have h1 : (0 : Int64) ≤ lN k := by
      rw [show (0 : Int64) = lN 0 from rfl, pk_lLE (by omega) (by omega)]
      omega
    have h2 : (lN k ≤ lN n) = (k < n + 1) := propext (by rw [pk_lLE (by omega) (by omega)]; omega)
    simp [h1, h2]
theorem z_isGameM (a : Int32) : f_X6_isGame a = some (inb a 4) := by
  simp only [f_X6_isGame]
  rw [show (3 : Int64) = (nI 3).toInt64 from rfl, z_inI a (by omega)]
  rfl
theorem z_isRowM (a : Int32) : f_X6_isRow a = some (inb a 4) := by
  simp only [f_X6_isRow]
  rw [show (3 : Int64) = (nI 3).toInt64 from rfl, z_inI a (by omega)]
  rfl
theorem z_nM {g : Nat → Int64} {N : Nat} (h : g 0 = lN N) : f_X6_n g = some (nI N) := by
  simp only [f_X6_n, nI_zero]
  rw [ck_nI (by omega) (by omega), nI_clamp (by omega), h, lN_i]
theorem z_allM {g : Nat → Int64} {N : Nat} (h : g 0 = lN N) (hN : N ≤ 9) : f_X6_all g = some (nI (2 ^ N - 1)) := by
  simp only [f_X6_all, z_nM h, Option.bind_some]
  exact z_every hN
theorem z_isPartnerM {g : Nat → Int64} {N : Nat} (h : g 0 = lN N) (h1 : 1 ≤ N) (hN : N ≤ 9) (a : Int32) : f_X6_isPartner g a = some (inb a N) := by
  simp only [f_X6_isPartner, z_nM h, Option.bind_some]
  rw [nI_m1 h1, z_inI a (by omega), Nat.sub_add_cancel h1]
  rfl
theorem z_isSetM {g : Nat → Int64} {N : Nat} (h : g 0 = lN N) (hN : N ≤ 9) (a : Int32) : f_X6_isSet g a = some (inb a (2 ^ N)) := by
  have := pw_le hN
  have h1 := pw_pos N
  simp only [f_X6_isSet, z_allM h hN, Option.bind_some]
  rw [z_inI a (by omega), Nat.sub_add_cancel h1]
  rfl
theorem z_isTwoM {g : Nat → Int64} {N : Nat} (h : g 0 = lN N) (h1 : 1 ≤ N) (hN : N ≤ 9) (a b : Int32) : f_X6_isTwo g a b = some (two a b N) := by
  simp only [f_X6_isTwo, jn0_eq, z_isPartnerM h h1 hN, Option.bind_some, two]
  cases inb a N <;> cases inb b N <;> by_cases hh : a = b <;> simp [hh]
theorem z_vix {j s : Nat} (hj : j < 4) (hs : s < 512) : (183 + 512 * nI j) + nI s = nI (183 + 512 * j + s) := by
  rw [show (183 : Int32) = nI 183 from rfl, show (512 : Int32) = nI 512 from rfl, pk_mul, nI_add, nI_add]
theorem z_v {g : Nat → Int64} {j s : Nat} (hj : j < 4) (hs : s < 512) : f_X6_v g (nI j) (nI s) = some (g (183 + 512 * j + s)) := by
  simp only [f_X6_v]
  rw [z_vix hj hs, ck_nI (by omega) (by omega), nI_clamp (by omega)]
def epl (a b : Nat) : Nat := if a < b then a * 9 + b else b * 9 + a
theorem z_edgePlace {a b : Nat} (ha : a < 9) (hb : b < 9) : f_X5_edgePlace (nI a) (nI b) = some (nI (epl a b)) :=
  co_dec (N := 9) (P := fun a => ∀ b, b < 9 → f_X5_edgePlace (nI a) (nI b) = some (nI (epl a b))) (by decide +kernel) ha b hb
theorem z_edgeOf {a b : Nat} (ha : a < 9) (hb : b < 9) : f_X6_edgeOf (nI a) (nI b) = some (nI (epl a b)) :=
  co_dec (N := 9) (P := fun a => ∀ b, b < 9 → f_X6_edgeOf (nI a) (nI b) = some (nI (epl a b))) (by decide +kernel) ha b hb
theorem epl_lt {a b : Nat} (ha : a < 9) (hb : b < 9) : epl a b < 81 := by
  unfold epl; split <;> omega
