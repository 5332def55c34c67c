/-! PURE PART: the greatest common divisor, factorials, pivots, holder. -/
theorem tmod_b (a b : Int) (hb : b ≠ 0) : (a.tmod b).natAbs = a.natAbs % b.natAbs ∧ (0 ≤ a → 0 ≤ a.tmod b) ∧ (a ≤ 0 → a.tmod b ≤ 0) := by
  refine ⟨Int.natAbs_tmod a b, fun h => Int.tmod_nonneg b h, fun h => ?_⟩
  have h1 : (-a).tmod b = -(a.tmod b) := Int.neg_tmod a b
  have h2 := Int.tmod_nonneg b (show 0 ≤ -a by omega)
  omega
theorem i64_rng (a : Int64) : -9223372036854775808 ≤ a.toInt ∧ a.toInt ≤ 9223372036854775807 := by
  have h1 := Int64.le_toInt a
  have h2 := Int64.toInt_lt a
  omega
theorem z_rem (a b : Int64) (hb : b ≠ 0) : (a - a / b * b).toInt = a.toInt.tmod b.toInt := by
  have hb0 : b.toInt ≠ 0 := fun e => hb (Int64.toInt_inj.mp (by rw [e]; rfl))
  rw [Int64.toInt_sub, Int64.toInt_mul, Int64.toInt_div, Int.sub_bmod_bmod]
  have e1 : (a.toInt - (a.toInt.tdiv b.toInt).bmod (2 ^ 64) * b.toInt).bmod (2 ^ 64) = (a.toInt.tmod b.toInt).bmod (2 ^ 64) := by
    rw [← Int.sub_bmod_bmod, Int.bmod_mul_bmod, Int.sub_bmod_bmod]
    congr 1
    rw [Int.tmod_def, Int.mul_comm b.toInt]
  rw [e1]
  obtain ⟨t1, t2, t3⟩ := tmod_b a.toInt b.toInt hb0
  have ha := i64_rng a
  have h4 : a.toInt.natAbs % b.toInt.natAbs ≤ a.toInt.natAbs := Nat.mod_le _ _
  apply Int.bmod_eq_of_le
  · by_cases c : 0 ≤ a.toInt
    · have := t2 c
      omega
    · have := t3 (by omega)
      omega
  · by_cases c : 0 ≤ a.toInt
    · have := t2 c
      omega
    · have := t3 (by omega)
      omega
theorem lN_rem {x y : Nat} (hx : x < 2 ^ 63) (hy : y < 2 ^ 63) (h0 : y ≠ 0) : lN x - lN x / lN y * lN y = lN (x % y) := by
  apply Int64.toInt_inj.mp
  have h1 : x % y ≤ x := Nat.mod_le _ _
  rw [z_rem _ _ (fun e => h0 ((eqL (a := y) (b := 0) hy (by omega)).mp e)), lN_int hx, lN_int hy, lN_int (by omega)]
  exact Int.ofNat_tmod x y |>.symm
theorem z_cdl {kx : Int64 → Option Int64} : ∀ k x y c m : Nat, y < 2 ^ k → x < 2 ^ 63 → y < 2 ^ 63 → c + 2 * k < 1000 → 2 * k + 1 < m → L_X5_commonDivisor_1 kx m (lN x) (lN y) (nI c) = kx (lN (Nat.gcd x y))
  | 0, x, y, c, m, h1, h2, h3, h4, h5 => by
    obtain ⟨m, rfl⟩ : ∃ k, m = k + 1 := ⟨m - 1, by omega⟩
    have : y = 0 := by omega
    subst this
    show B_X5_commonDivisor_1 _ _ _ _ _ = _
    rw [B_X5_commonDivisor_1, if_pos (show nI c < 1000 by rw [show (1000 : Int32) = nI 1000 from rfl, ltI (by omega) (by omega)]; omega), if_pos (show lN 0 = 0 from rfl), Nat.gcd_zero_right]
  | k + 1, x, y, c, m, h1, h2, h3, h4, h5 => by
    obtain ⟨m, rfl⟩ : ∃ k, m = k + 1 := ⟨m - 1, by omega⟩
    show B_X5_commonDivisor_1 _ _ _ _ _ = _
    rw [B_X5_commonDivisor_1, if_pos (show nI c < 1000 by rw [show (1000 : Int32) = nI 1000 from rfl, ltI (by omega) (by omega)]; omega)]
    by_cases e : y = 0
    · subst e
      rw [if_pos (show lN 0 = 0 from rfl), Nat.gcd_zero_right]
    · have hy : ¬ lN y = 0 := fun z => e ((eqL (a := y) (b := 0) h3 (by omega)).mp z)
      rw [if_neg hy, show (lN y != 0) = true from by simp [hy], ck_true]
      simp only [nm_eq]
      rw [lN_rem h2 h3 e, nI_1]
      have r1 : x % y < y := Nat.mod_lt _ (by omega)
      have g1 : Nat.gcd x y = Nat.gcd y (x % y) := by
        rw [Nat.gcd_comm, Nat.gcd_rec, Nat.gcd_comm]
      obtain ⟨m, rfl⟩ : ∃ k, m = k + 1 := ⟨m - 1, by omega⟩
      show B_X5_commonDivisor_1 _ _ _ _ _ = _
      rw [B_X5_commonDivisor_1, if_pos (show nI (c + 1) < 1000 by rw [show (1000 : Int32) = nI 1000 from rfl, ltI (by omega) (by omega)]; omega), g1]
      by_cases e2 : x % y = 0
      · rw [e2, if_pos (show lN 0 = 0 from rfl), Nat.gcd_zero_right]
      · have hr : ¬ lN (x % y) = 0 := fun z => e2 ((eqL (a := x % y) (b := 0) (by omega) (by omega)).mp z)
        rw [if_neg hr, show (lN (x % y) != 0) = true from by simp [hr], ck_true]
        simp only [nm_eq]
        rw [lN_rem h3 (by omega) e2, nI_1]
        have r2 : y % (x % y) < x % y := Nat.mod_lt _ (by omega)
        have r3 : y % (x % y) ≤ y - x % y := by
          rw [Nat.mod_eq_sub_mod (by omega)]
          exact Nat.mod_le _ _
        have hk : 2 ^ (k + 1) = 2 * 2 ^ k := by rw [Nat.pow_succ]; omega
        rw [z_cdl k (x % y) (y % (x % y)) (c + 1 + 1) m (by omega) (by omega) (by omega) (by omega) (by omega)]
        have g2 : Nat.gcd y (x % y) = Nat.gcd (x % y) (y % (x % y)) := by
          rw [Nat.gcd_comm, Nat.gcd_rec, Nat.gcd_comm]
        rw [g2]
theorem z_dvl {kx : Int64 → Option Int64} : ∀ (k : Nat) (u v : Int64) (m : Nat), u.toInt.natAbs < 2 ^ k → 2 * k + 1 < m → ∃ w : Int64, w.toInt.natAbs = Nat.gcd v.toInt.natAbs u.toInt.natAbs ∧ L_X6_divisor_1 kx m u v = kx w
  | 0, u, v, m, h1, h5 => by
    obtain ⟨m, rfl⟩ : ∃ k, m = k + 1 := ⟨m - 1, by omega⟩
    have h0 : u.toInt = 0 := by omega
    have : u = 0 := Int64.toInt_inj.mp (by rw [h0]; rfl)
    subst this
    refine ⟨v, (Nat.gcd_zero_right _).symm, ?_⟩
    show B_X6_divisor_1 _ _ _ _ = _
    rw [B_X6_divisor_1, if_pos rfl]
  | k + 1, u, v, m, h1, h5 => by
    obtain ⟨m, rfl⟩ : ∃ k, m = k + 1 := ⟨m - 1, by omega⟩
    by_cases e : u = 0
    · subst e
      refine ⟨v, (Nat.gcd_zero_right _).symm, ?_⟩
      show B_X6_divisor_1 _ _ _ _ = _
      rw [B_X6_divisor_1, if_pos rfl]
    · have hu0 : u.toInt ≠ 0 := fun z => e (Int64.toInt_inj.mp (by rw [z]; rfl))
      have t1 := (tmod_b v.toInt u.toInt hu0).1
      have r1 : v.toInt.natAbs % u.toInt.natAbs < u.toInt.natAbs := Nat.mod_lt _ (by omega)
      obtain ⟨w1, hw1⟩ : ∃ w1, w1 = v - v / u * u := ⟨_, rfl⟩
      have t2 : w1.toInt.natAbs = v.toInt.natAbs % u.toInt.natAbs := by rw [hw1, z_rem _ _ e, t1]
      have g1 : Nat.gcd v.toInt.natAbs u.toInt.natAbs = Nat.gcd u.toInt.natAbs w1.toInt.natAbs := by
        rw [t2, Nat.gcd_comm, Nat.gcd_rec, Nat.gcd_comm]
      have s1 : L_X6_divisor_1 kx (m + 1) u v = L_X6_divisor_1 kx m w1 u := by
        show B_X6_divisor_1 _ _ _ _ = _
        rw [B_X6_divisor_1, if_neg e, show (u != 0) = true from by simp [e], ck_true]
        simp only [nm_eq, hw1]
      obtain ⟨m, rfl⟩ : ∃ k, m = k + 1 := ⟨m - 1, by omega⟩
      rw [s1, g1]
      by_cases e2 : w1 = 0
      · rw [e2]
        refine ⟨u, (Nat.gcd_zero_right _).symm, ?_⟩
        show B_X6_divisor_1 _ _ _ _ = _
        rw [B_X6_divisor_1, if_pos rfl]
      · have hw0 : w1.toInt ≠ 0 := fun z => e2 (Int64.toInt_inj.mp (by rw [z]; rfl))
        obtain ⟨w2, hw2⟩ : ∃ w2, w2 = u - u / w1 * w1 := ⟨_, rfl⟩
        have t3 : w2.toInt.natAbs = u.toInt.natAbs % w1.toInt.natAbs := by rw [hw2, z_rem _ _ e2, (tmod_b _ _ hw0).1]
        have r2 : u.toInt.natAbs % w1.toInt.natAbs < w1.toInt.natAbs := Nat.mod_lt _ (by omega)
        have r3 : u.toInt.natAbs % w1.toInt.natAbs ≤ u.toInt.natAbs - w1.toInt.natAbs := by
          rw [Nat.mod_eq_sub_mod (by omega)]
          exact Nat.mod_le _ _
        have hk : 2 ^ (k + 1) = 2 * 2 ^ k := by rw [Nat.pow_succ]; omega
        have g2 : Nat.gcd u.toInt.natAbs w1.toInt.natAbs = Nat.gcd w1.toInt.natAbs w2.toInt.natAbs := by
          rw [t3, Nat.gcd_comm, Nat.gcd_rec, Nat.gcd_comm]
        have s2 : L_X6_divisor_1 kx (m + 1) w1 u = L_X6_divisor_1 kx m w2 w1 := by
          show B_X6_divisor_1 _ _ _ _ = _
          rw [B_X6_divisor_1, if_neg e2, show (w1 != 0) = true from by simp [e2], ck_true]
          simp only [nm_eq, hw2]
        rw [s2, g2]
        exact z_dvl k w2 w1 m (by omega) (by omega)
/-- what divides both -/
def gg (a b : Int64) : Int64 := lN (Nat.gcd a.toInt.natAbs b.toInt.natAbs)
theorem gcd_lt {a b : Nat} (hb : 0 < b) : Nat.gcd a b ≤ b := Nat.gcd_le_right _ hb
theorem lAbs_nat {x : Int64} (h : x.toInt ≠ -9223372036854775808) : lAbs x = lN x.toInt.natAbs := by
  have hx := i64_rng x
  apply Int64.toInt_inj.mp
  rw [lN_int (by omega), lAbs]
  by_cases c : 0 < x
  · rw [if_pos c]
    rw [Int64.lt_iff_toInt_lt, Int64.toInt_zero] at c
    omega
  · rw [if_neg c]
    rw [Int64.lt_iff_toInt_lt, Int64.toInt_zero] at c
    rw [Int64.toInt_neg, Int.bmod_eq_of_le (by omega) (by omega)]
    omega
theorem z_cd {a b : Int64} (hb : 0 < b.toInt) : f_X5_commonDivisor a b = some (gg a b) := by
  have hbr := i64_rng b
  have hb0 : ¬ b = 0 := fun e => by rw [e] at hb; exact absurd hb (by decide)
  have h1 : ¬ b < 1 := by
    rw [Int64.lt_iff_toInt_lt, show (1 : Int64).toInt = 1 from by decide]
    omega
  obtain ⟨t1, -, -⟩ := tmod_b a.toInt b.toInt (by omega)
  have r1 : a.toInt.natAbs % b.toInt.natAbs < b.toInt.natAbs := Nat.mod_lt _ (by omega)
  rw [f_X5_commonDivisor, if_neg h1, show (b != 0) = true from by simp [hb0], ck_true]
  simp only [nm_eq]
  rw [lAbs_nat (by rw [z_rem _ _ hb0]; omega), z_rem _ _ hb0, t1]
  have eb : b = lN b.toInt.natAbs := Int64.toInt_inj.mp (by rw [lN_int (by omega)]; omega)
  conv => lhs; rw [eb]
  refine (z_cdl 63 b.toInt.natAbs (a.toInt.natAbs % (lN b.toInt.natAbs).toInt.natAbs) 0 FU ?_ ?_ ?_ (by omega) (by rw [FU_eq]; omega)).trans ?_
  · rw [lN_int (by omega), Int.natAbs_natCast]; omega
  · omega
  · rw [lN_int (by omega), Int.natAbs_natCast]; omega
  · rw [lN_int (by omega), Int.natAbs_natCast, gg]
    congr 2
    rw [Nat.gcd_comm b.toInt.natAbs, ← Nat.gcd_rec, Nat.gcd_comm]
theorem z_dv {a b : Int64} (hb : 0 < b.toInt) : f_X6_divisor a b = some (gg a b) := by
  have hbr := i64_rng b
  have hb0 : ¬ b = 0 := fun e => by rw [e] at hb; exact absurd hb (by decide)
  obtain ⟨t1, -, -⟩ := tmod_b a.toInt b.toInt (by omega)
  have r1 : a.toInt.natAbs % b.toInt.natAbs < b.toInt.natAbs := Nat.mod_lt _ (by omega)
  rw [f_X6_divisor, show (b != 0) = true from by simp [hb0], ck_true]
  simp only [nm_eq]
  obtain ⟨w, hw, e⟩ := z_dvl (kx := fun (v7 : Int64) => if (v7 : Int64) < 0 then (some (-v7)) else (some v7)) 63 (a - a / b * b) b FU (by rw [z_rem _ _ hb0, t1]; omega) (by rw [FU_eq]; omega)
  rw [z_rem _ _ hb0, t1, Nat.gcd_comm, ← Nat.gcd_rec, Nat.gcd_comm] at hw
  have hle := gcd_lt (a := a.toInt.natAbs) (b := b.toInt.natAbs) (by omega)
  refine e.trans ?_
  have e2 : gg a b = lN w.toInt.natAbs := by rw [gg, hw]
  rw [e2]
  by_cases c : w < 0
  · rw [if_pos c]
    rw [Int64.lt_iff_toInt_lt, Int64.toInt_zero] at c
    congr 1
    apply Int64.toInt_inj.mp
    rw [Int64.toInt_neg, lN_int (by omega), Int.bmod_eq_of_le (by omega) (by omega)]
    omega
  · rw [if_neg c]
    rw [Int64.lt_iff_toInt_lt, Int64.toInt_zero] at c
    congr 1
    apply Int64.toInt_inj.mp
    rw [lN_int (by omega)]
    omega
def prp (a b : Int64) (c : Int32) : Int64 := if c = 0 then a / gg a b else b / gg a b
theorem gg_pos {a b : Int64} (hb : 0 < b.toInt) : 0 < (gg a b).toInt ∧ (gg a b).toInt = Nat.gcd a.toInt.natAbs b.toInt.natAbs := by
  have hbr := i64_rng b
  have hle := gcd_lt (a := a.toInt.natAbs) (b := b.toInt.natAbs) (by omega)
  have hp := Nat.gcd_pos_of_pos_right a.toInt.natAbs (show 0 < b.toInt.natAbs by omega)
  rw [gg, lN_int (by omega)]
  exact ⟨by omega, rfl⟩
theorem z_lowest {a b : Int64} (hb : 0 < b.toInt) (c : Int32) : f_X5_lowest a b c = some (prp a b c) := by
  have h := (gg_pos (a := a) hb).1
  have h0 : ¬ gg a b = 0 := fun e => by rw [e] at h; exact absurd h (by decide)
  rw [f_X5_lowest, z_cd hb, Option.bind_some, if_neg (by rw [Int64.lt_iff_toInt_lt, show (1 : Int64).toInt = 1 from by decide]; omega), show (gg a b != 0) = true from by simp [h0], ck_true, ck_true, prp]
  split <;> rfl
theorem z_part {a b : Int64} (hb : 0 < b.toInt) (c : Int32) : f_X6_part a b c = some (prp a b c) := by
  have h := (gg_pos (a := a) hb).1
  have h0 : ¬ gg a b = 0 := fun e => by rw [e] at h; exact absurd h (by decide)
  rw [f_X6_part, z_dv hb, Option.bind_some, show (gg a b != 0) = true from by simp [h0], ck_true, ck_true, prp]
  split <;> rfl
-- factorials
def fct : Nat → Nat
  | 0 => 1
  | k + 1 => (k + 1) * fct k
def RF (fa : Nat → Int64) : Prop := ∀ k, k < 10 → fa k = lN (fct k)
theorem z_fac {k : Nat} (h : k < 10) : f_X5_factorial (nI k) = some (nI (fct k)) :=
  co_dec (N := 10) (P := fun k => f_X5_factorial (nI k) = some (nI (fct k))) (by decide +kernel) h
theorem fct_b {k : Nat} (h : k < 10) : 1 ≤ fct k ∧ fct k ≤ 362880 :=
  co_dec (N := 10) (P := fun k => 1 ≤ fct k ∧ fct k ≤ 362880) (by decide +kernel) h
theorem fct_2' : (List.range 9).all (fun a => (List.range 9).all (fun b => decide (a + b < 9 → fct a * fct b ≤ 40320))) = true := by decide +kernel
theorem fct_2 {a b : Nat} (h : a + b < 9) : fct a * fct b ≤ 40320 := by
  have h1 := List.all_eq_true.mp fct_2' a (List.mem_range.mpr (by omega))
  exact of_decide_eq_true (List.all_eq_true.mp h1 b (List.mem_range.mpr (by omega))) h
set_option maxRecDepth 100000 in
theorem pcn_N' : (List.range 10).all (fun N => (List.range 512).all (fun s => decide (s < 2 ^ N → pcn s ≤ N))) = true := by decide +kernel
theorem pcn_N {N s : Nat} (hN : N ≤ 9) (hs : s < 2 ^ N) : pcn s ≤ N := by
  have h1 := List.all_eq_true.mp pcn_N' N (List.mem_range.mpr (by omega))
  have := pw_le hN
  exact of_decide_eq_true (List.all_eq_true.mp h1 s (List.mem_range.mpr (by omega))) hs
set_option maxRecDepth 100000 in
theorem pcn_bt' : (List.range 512).all (fun s => (List.range 9).all (fun p => decide (s.testBit p = false → pcn (s ||| 2 ^ p) = pcn s + 1))) = true := by decide +kernel
theorem pcn_bt {s p : Nat} (hs : s < 512) (hp : p < 9) (h : s.testBit p = false) : pcn (bt s p) = pcn s + 1 := by
  have h1 := List.all_eq_true.mp pcn_bt' s (List.mem_range.mpr hs)
  exact of_decide_eq_true (List.all_eq_true.mp h1 p (List.mem_range.mpr hp)) h
theorem pcn_lt {N s p : Nat} (hN : N ≤ 9) (hs : s < 2 ^ N) (hp : p < N) (h : s.testBit p = false) : pcn s < N := by
  have h1 := pw_le hN
  have h2 := pcn_bt (s := s) (p := p) (by omega) (by omega) h
  have h3 := pcn_N hN (bt_lt hs hp)
  omega
/-- the orders in which just the partners of s stand ahead of one -/
def oar (N s : Nat) : Nat := fct (pcn s) * fct (N - pcn s - 1)
theorem oar_le {N s : Nat} (hN : N ≤ 9) (h : pcn s < N) : oar N s ≤ 40320 := fct_2 (by omega)
theorem z_oar {N s : Nat} (hN : N ≤ 9) (hs : s < 512) (h : pcn s < N) : f_X5_ordersAround (nI N) (nI s) = some (nI (oar N s)) := by
  rw [f_X5_ordersAround, z_bitCount hs, Option.bind_some, z_fac (by omega), Option.bind_some, pk_sub (by omega), nI_m1 (by omega), z_fac (by omega), Option.bind_some, pk_mul]
  rfl
