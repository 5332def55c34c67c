/-! PURE PART: pivots, holder, share. -/
section OPF
variable {N Q E : Nat} {n nd es : Int32} {wt un ed : Nat → Int32} {G : Nat → Nat → Int64} {g : Nat → Int64} {W : Nat → Nat} {fa : Nat → Int64}
theorem sw_bit {Q : Nat} {W : Nat → Nat} {N p s : Nat} (h : sw Q W N p s = true) : s.testBit p = false := by
  cases c : s.testBit p
  · rfl
  · rw [sw, bt, or_same c] at h
    cases d : wn Q W N s <;> rw [d] at h <;> cases h
theorem z_isPartM (a : Int32) : f_X6_isIn a.toInt64 0 1 = some (prt a) := by
  rw [show (1 : Int64) = (nI 1).toInt64 from rfl, z_inI a (by omega), prt]
  congr 1
  by_cases h : inb a (1 + 1) = true
  · obtain ⟨k, hk, hk2, rfl⟩ := inb_of h
    have : k = 0 ∨ k = 1 := by omega
    rcases this with e | e <;> subst e <;> rfl
  · have h0 : ¬ a = 0 := fun e => h (by rw [e]; decide)
    have h1 : ¬ a = 1 := fun e => h (by rw [e]; decide)
    simp [h0, h1]
    simpa using h
/-- the sum of what the places add -/
def sm (f : Nat → Nat) : Nat → Nat
  | 0 => 0
  | i + 1 => sm f i + f i
theorem sm_le {f : Nat → Nat} {B : Nat} : ∀ n, (∀ i, i < n → f i ≤ B) → sm f n ≤ B * n
  | 0, _ => Nat.le_refl _
  | n + 1, h => by
    have h1 := sm_le n (fun i hi => h i (by omega))
    have h2 := h n (by omega)
    simp only [sm, Nat.mul_add, Nat.mul_one]
    omega
def pvt (Q : Nat) (W : Nat → Nat) (N p s : Nat) : Nat := if sw Q W N p s = true then oar N s else 0
theorem pvt_le {Q : Nat} {W : Nat → Nat} {N p s : Nat} (hN : N ≤ 9) (hs : s < 2 ^ N) (hp : p < N) : pvt Q W N p s ≤ 40320 := by
  unfold pvt
  split
  · rename_i h
    exact oar_le hN (pcn_lt hN hs hp (sw_bit h))
  · omega
theorem RF.oar (F : RF fa) (hN : N ≤ 9) {s : Nat} (h : pcn s < N) : ck (inb (nI (pcn s)) 10) (ck (inb ((nI N - nI (pcn s)) - 1) 10) (some (fa (nI (pcn s)).toNatClampNeg * fa ((nI N - nI (pcn s)) - 1).toNatClampNeg))) = some (lN (oar N s)) := by
  rw [pk_sub (by omega), nI_m1 (by omega), ck_nI (by omega) (by omega), ck_nI (by omega) (by omega), nI_clamp (by omega), nI_clamp (by omega), F _ (by omega), F _ (by omega), lN_mul]
  rfl
theorem fct_pos64 {k : Nat} (h : k < 10) : 0 < (lN (fct k)).toInt := by
  have := fct_b h
  rw [lN_int (by omega)]
  omega
theorem o_pivots (R : RG N n nd es wt un ed G g) (F : RF fa) (a1 a2 : Int32) : ∃ r, f_X5_pivots n nd wt a1 a2 = some r ∧ f_X6_pivots g fa a1 a2 = some r := by
  obtain ⟨h1, h2, h3, h4⟩ := id R.1
  subst h3
  have hpw := pw_le h2
  have hp1 := pw_pos N
  obtain ⟨Q, E, W, q1, -, rfl, -, hw, H⟩ := R.head
  have hw1 : ∀ p, p < 9 → W p ≤ 1000 := fun p hp => (H.2.2.2.1 p hp).1
  rw [f_X5_pivots, f_X6_pivots, z_hasPartner h2, z_isPartnerM h4 h1 h2, Option.bind_some, Option.bind_some, z_isPart, z_isPartM, Option.bind_some, Option.bind_some]
  by_cases c1 : inb a1 N = true
  · rw [if_pos c1, if_pos c1]
    by_cases c2 : prt a2 = true
    · rw [if_pos c2, if_pos c2]
      obtain ⟨p, hp, hp2, rfl⟩ := inb_of c1
      have hb : ∀ i, i ≤ 2 ^ N → sm (pvt Q W N p) i ≤ 40320 * 512 := fun i hi => by
        have := sm_le (f := pvt Q W N p) (B := 40320) i (fun s hs => pvt_le h2 (by omega) hp)
        omega
      refine ⟨prp (lN (sm (pvt Q W N p) (2 ^ N))) (lN (fct N)) a2, ?_, ?_⟩
      · refine lp_cf (L := fun m i => L_X5_pivots_1 (nI N) (nI Q) wt (nI p) a2 m (lN (sm (pvt Q W N p) i)) (nI i)) (2 ^ N) (fun m => ?_) (fun m i hi => ?_) (2 ^ N) 0 FU (by omega) (by rw [FU_eq]; omega)
        · show B_X5_pivots_1 _ _ _ _ _ _ _ _ = _
          have := fct_b (k := N) (by omega)
          rw [B_X5_pivots_1, z_sets h2, Option.bind_some, if_neg (by rw [ltI (by omega) (by omega)]; omega), z_fac (by omega), Option.bind_some, nI_l (by omega), z_lowest (fct_pos64 (by omega)), Option.bind_some]
        · show B_X5_pivots_1 _ _ _ _ _ _ _ _ = _
          rw [B_X5_pivots_1, z_sets h2, Option.bind_some, if_pos (by rw [ltI (by omega) (by omega)]; omega), z_swing h2 q1 hw hw1 hi hp, Option.bind_some]
          simp only [jn1_eq, nm_eq, nI_1]
          change (if sw Q W N p i = true then _ else _) = _
          by_cases c : sw Q W N p i = true
          · have hl := pcn_lt h2 hi hp (sw_bit c)
            have := oar_le h2 hl
            rw [if_pos c, z_oar h2 (by omega) hl, Option.bind_some, nI_l (by omega), lN_add]
            simp only [sm, pvt, if_pos c]
          · rw [if_neg c]
            simp only [sm, pvt, if_neg c, Nat.add_zero]
      · refine lp_cf (L := fun m i => L_X6_pivots_1 g fa (nI p) a2 m (lN (sm (pvt Q W N p) i)) (nI i)) (2 ^ N) (fun m => ?_) (fun m i hi => ?_) (2 ^ N) 0 FU (by omega) (by rw [FU_eq]; omega)
        · show B_X6_pivots_1 _ _ _ _ _ _ _ = _
          rw [B_X6_pivots_1, R.all, Option.bind_some, if_pos (by rw [ltI (by omega) (by omega)]; omega), z_nM h4, Option.bind_some, ck_nI (by omega) (by omega), nI_clamp (by omega), F N (by omega), z_part (fct_pos64 (by omega)), Option.bind_some]
        · show B_X6_pivots_1 _ _ _ _ _ _ _ = _
          rw [B_X6_pivots_1, R.all, Option.bind_some, if_neg (by rw [ltI (by omega) (by omega)]; omega), z_swingM h2 q1 H hi hp, Option.bind_some]
          simp only [jn1_eq, nm_eq, nI_1, z_size (show i < 512 by omega), z_nM h4, Option.bind_some]
          by_cases c : sw Q W N p i = true
          · have hl := pcn_lt h2 hi hp (sw_bit c)
            rw [if_pos c, pk_sub (by omega), nI_m1 (by omega), ck_nI (by omega) (by omega), ck_nI (by omega) (by omega), nI_clamp (by omega), nI_clamp (by omega), F _ (by omega), F _ (by omega), lN_mul, lN_add]
            simp only [sm, pvt, if_pos c]
            rfl
          · rw [if_neg c, lN_zero, lN_add]
            simp only [sm, pvt, if_neg c]
    · rw [if_neg c2, if_neg c2]
      exact ⟨_, rfl, rfl⟩
  · rw [if_neg c1, if_neg c1]
    exact ⟨_, rfl, rfl⟩
-- holder
def hn (Q : Nat) (W : Nat → Nat) (N s : Nat) : Nat := if lw Q W N (s + 1) = true then 1 else 0
def hs (Q : Nat) (W : Nat → Nat) (N p s : Nat) : Nat := if lw Q W N (s + 1) = true then (if (s + 1).testBit p = true then 2520 / pcn (s + 1) else 0) else 0
theorem sm_mul {f : Nat → Nat} (c : Nat) : ∀ n, sm (fun i => c * f i) n = c * sm f n
  | 0 => rfl
  | n + 1 => by simp only [sm, sm_mul c n, Nat.mul_add]
set_option maxRecDepth 100000 in
theorem pcn_pos' : (List.range 512).all (fun s => decide (0 < s → 0 < pcn s)) = true := by decide +kernel
theorem pcn_pos {s : Nat} (h : s < 512) (h0 : 0 < s) : 0 < pcn s := of_decide_eq_true (List.all_eq_true.mp pcn_pos' s (List.mem_range.mpr h)) h0
theorem lN_div {x y : Nat} (hx : x < 2 ^ 63) (hy : y < 2 ^ 63) : lN x / lN y = lN (x / y) := by
  have h1 : x / y ≤ x := Nat.div_le_self x y
  apply Int64.toInt_inj.mp
  have h2 : (x : Int).tdiv (y : Int) = ((x / y : Nat) : Int) := (Int.ofNat_tdiv x y).symm
  rw [Int64.toInt_div, lN_int hx, lN_int hy, lN_int (by omega), h2]
  obtain ⟨q, hq⟩ : ∃ q, q = x / y := ⟨_, rfl⟩
  rw [← hq] at h1 ⊢
  exact Int.bmod_eq_of_le (by omega) (by omega)
theorem prp_mul {x y : Nat} (c : Nat) (hc : 0 < c) (hx : c * x < 2 ^ 63) (hy : c * y < 2 ^ 63) (h0 : 0 < y) (a : Int32) : prp (lN (c * x)) (lN (c * y)) a = prp (lN x) (lN y) a := by
  have hx2 : x ≤ c * x := Nat.le_mul_of_pos_left x hc
  have hy2 : y ≤ c * y := Nat.le_mul_of_pos_left y hc
  have hg := gcd_lt (a := x) (b := y) h0
  have hgp := Nat.gcd_pos_of_pos_right x h0
  have e1 : gg (lN (c * x)) (lN (c * y)) = lN (c * Nat.gcd x y) := by
    rw [gg, lN_int hx, lN_int hy, Int.natAbs_natCast, Int.natAbs_natCast, Nat.gcd_mul_left]
  have e2 : gg (lN x) (lN y) = lN (Nat.gcd x y) := by
    rw [gg, lN_int (by omega), lN_int (by omega), Int.natAbs_natCast, Int.natAbs_natCast]
  have hcg : c * Nat.gcd x y ≤ c * y := Nat.mul_le_mul_left c hg
  rw [prp, prp, e1, e2, lN_div hx (by omega), lN_div hy (by omega), lN_div (by omega) (by omega), lN_div (by omega) (by omega), Nat.mul_div_mul_left _ _ hc, Nat.mul_div_mul_left _ _ hc]
theorem d2520 {k : Nat} (h : k < 9) : 2520 / nI (k + 1) = nI (2520 / (k + 1)) := co_dec (N := 9) (P := fun k => 2520 / nI (k + 1) = nI (2520 / (k + 1))) (by decide +kernel) h
theorem d9f {k : Nat} (h : k < 9) : 362880 / (k + 1) = 144 * (2520 / (k + 1)) := co_dec (N := 9) (P := fun k => 362880 / (k + 1) = 144 * (2520 / (k + 1))) (by decide +kernel) h
theorem o_holder (R : RG N n nd es wt un ed G g) (F : RF fa) (a1 a2 : Int32) : ∃ r, f_X5_holder n nd wt a1 a2 = some r ∧ f_X6_holder g fa a1 a2 = some r := by
  obtain ⟨h1, h2, h3, h4⟩ := id R.1
  subst h3
  have hpw := pw_le h2
  have hp1 : 2 ≤ 2 ^ N := by
    have := Nat.pow_le_pow_right (n := 2) (by omega) h1
    simpa using this
  obtain ⟨Q, E, W, q1, -, rfl, -, hw, H⟩ := R.head
  have hw1 : ∀ p, p < 9 → W p ≤ 1000 := fun p hp => (H.2.2.2.1 p hp).1
  rw [f_X5_holder, f_X6_holder, z_hasPartner h2, z_isPartnerM h4 h1 h2, Option.bind_some, Option.bind_some, z_isPart, z_isPartM, Option.bind_some, Option.bind_some]
  by_cases c1 : inb a1 N = true
  · rw [if_pos c1, if_pos c1]
    by_cases c2 : prt a2 = true
    · rw [if_pos c2, if_pos c2]
      obtain ⟨p, hp, hp2, rfl⟩ := inb_of c1
      have hC : ∀ i, i ≤ 2 ^ N → sm (hn Q W N) i ≤ 512 := fun i hi => by
        have := sm_le (f := hn Q W N) (B := 1) i (fun s _ => by unfold hn; split <;> omega)
        omega
      have hS : ∀ i, i ≤ 2 ^ N → sm (hs Q W N p) i ≤ 2520 * 512 := fun i hi => by
        have := sm_le (f := hs Q W N p) (B := 2520) i (fun s _ => by
          unfold hs
          have := Nat.div_le_self 2520 (pcn (s + 1))
          split
          · split <;> omega
          · omega)
        omega
      obtain ⟨C, hCe⟩ : ∃ C, C = sm (hn Q W N) (2 ^ N - 1) := ⟨_, rfl⟩
      obtain ⟨S, hSe⟩ : ∃ S, S = sm (hs Q W N p) (2 ^ N - 1) := ⟨_, rfl⟩
      have hC1 := hC (2 ^ N - 1) (by omega)
      have hS1 := hS (2 ^ N - 1) (by omega)
      rw [← hCe] at hC1
      rw [← hSe] at hS1
      refine ⟨if C = 0 then a2.toInt64 else prp (lN S) (lN (2520 * C)) a2, ?_, ?_⟩
      · refine lp_cf (L := fun m i => L_X5_holder_1 (nI N) (nI Q) wt (nI p) a2 m (nI (sm (hn Q W N) i)) (lN (sm (hs Q W N p) i)) (nI (i + 1))) (2 ^ N - 1) (fun m => ?_) (fun m i hi => ?_) (2 ^ N - 1) 0 FU (by omega) (by rw [FU_eq]; omega)
        · show B_X5_holder_1 _ _ _ _ _ _ _ _ _ = _
          rw [B_X5_holder_1, z_sets h2, Option.bind_some, if_neg (by rw [ltI (by omega) (by omega)]; omega), ← hCe, ← hSe]
          have e0 : (nI C = 0) = (C = 0) := eqI (a := C) (b := 0) (by omega) (by omega)
          simp only [e0]
          by_cases c : C = 0
          · rw [if_pos c, if_pos c]
          · rw [if_neg c, if_neg c, nI_l (by omega), show (2520 : Int64) = lN 2520 from rfl, lN_mul, z_lowest (by rw [lN_int (by omega)]; omega), Option.bind_some]
        · show B_X5_holder_1 _ _ _ _ _ _ _ _ _ = _
          rw [B_X5_holder_1, z_sets h2, Option.bind_some, if_pos (by rw [ltI (by omega) (by omega)]; omega), z_least h2 q1 hw hw1 (by omega), Option.bind_some]
          simp only [jn1_eq, jn2_eq, nm_eq, nI_1, z_has (show i + 1 < 512 by omega) (show p < 9 by omega), z_bitCount (show i + 1 < 512 by omega), Option.bind_some]
          by_cases c : lw Q W N (i + 1) = true
          · have hcp := pcn_pos (s := i + 1) (by omega) (by omega)
            have hcn := pcn_le (i + 1)
            obtain ⟨k, hk⟩ : ∃ k, pcn (i + 1) = k + 1 := ⟨pcn (i + 1) - 1, by omega⟩
            have hd := Nat.div_le_self 2520 (k + 1)
            rw [if_pos c]
            by_cases d : (i + 1).testBit p = true
            · have hne : ¬ nI (pcn (i + 1)) = 0 := fun z => by
                have := (eqI (a := pcn (i + 1)) (b := 0) (by omega) (by omega)).mp z
                omega
              rw [if_pos d, show (nI (pcn (i + 1)) != 0) = true from by simp [hne], ck_true, hk, d2520 (by omega), nI_l (by omega), lN_add]
              simp only [sm, hn, hs, if_pos c, if_pos d, hk]
            · rw [if_neg d, lN_zero, lN_add]
              simp only [sm, hn, hs, if_pos c, if_neg d]
          · rw [if_neg c]
            simp only [sm, hn, hs, if_neg c, Nat.add_zero]
      · refine lp_cf (L := fun m i => L_X6_holder_1 g fa (nI p) _ m (lN (144 * sm (hs Q W N p) i)) (lN (sm (hn Q W N) i)) (nI (i + 1))) (2 ^ N - 1) (fun m => ?_) (fun m i hi => ?_) (2 ^ N - 1) 0 FU (by omega) (by rw [FU_eq]; omega)
        · show B_X6_holder_1 _ _ _ _ _ _ _ _ = _
          rw [B_X6_holder_1, R.all, Option.bind_some, if_pos (by rw [ltI (by omega) (by omega)]; omega), ← hCe, ← hSe]
          have e0 : (lN C = 0) = (C = 0) := eqL (a := C) (b := 0) (by omega) (by omega)
          simp only [e0]
          by_cases c : C = 0
          · rw [if_pos c, if_pos c]
          · rw [if_neg c, if_neg c, show (9 : Int32) = nI 9 from rfl, ck_nI (by omega) (by omega), nI_clamp (by omega), F 9 (by omega), lN_mul, show C * fct 9 = 144 * (2520 * C) from by rw [show fct 9 = 362880 from rfl]; omega, z_part (by rw [lN_int (by omega)]; omega), Option.bind_some, prp_mul 144 (by omega) (by omega) (by omega) (by omega)]
        · show B_X6_holder_1 _ _ _ _ _ _ _ _ = _
          rw [B_X6_holder_1, R.all, Option.bind_some, if_neg (by rw [ltI (by omega) (by omega)]; omega), z_leastM h2 q1 H (by omega), Option.bind_some]
          simp only [jn1_eq, jn2_eq, nm_eq, nI_1, z_hasM (show i + 1 < 512 by omega) (show p < 9 by omega), z_size (show i + 1 < 512 by omega), Option.bind_some]
          by_cases c : lw Q W N (i + 1) = true
          · have hcp := pcn_pos (s := i + 1) (by omega) (by omega)
            have hcn := pcn_le (i + 1)
            obtain ⟨k, hk⟩ : ∃ k, pcn (i + 1) = k + 1 := ⟨pcn (i + 1) - 1, by omega⟩
            rw [if_pos c, show (1 : Int64) = lN 1 from rfl, lN_add]
            by_cases d : (i + 1).testBit p = true
            · have hne : ¬ lN (k + 1) = 0 := fun z => by
                have := (eqL (a := k + 1) (b := 0) (by omega) (by omega)).mp z
                omega
              rw [if_pos d, show (9 : Int32) = nI 9 from rfl, ck_nI (by omega) (by omega), nI_clamp (by omega), F 9 (by omega), nI_l (by omega), hk, show (lN (k + 1) != 0) = true from by simp [hne], ck_true, lN_div (by rw [show fct 9 = 362880 from rfl]; omega) (by omega), lN_add, show fct 9 = 362880 from rfl, d9f (by omega)]
              simp only [sm, hn, hs, if_pos c, if_pos d, hk, Nat.mul_add]
            · rw [if_neg d, lN_zero, lN_add]
              simp only [sm, hn, hs, if_pos c, if_neg d, Nat.add_zero]
          · rw [if_neg c]
            simp only [sm, hn, hs, if_neg c, Nat.add_zero]
    · rw [if_neg c2, if_neg c2]
      exact ⟨_, rfl, rfl⟩
  · rw [if_neg c1, if_neg c1]
    exact ⟨_, rfl, rfl⟩
-- shares
def shr (N : Nat) (V : Nat → Int64) (p : Nat) : Nat → Int64 × Bool
  | 0 => (0, false)
  | s + 1 => if s.testBit p = true then shr N V p s else
    let x := gn V p s * lN (oar N s)
    ((shr N V p s).1 + x, (((shr N V p s).2 || gno V p s) || ovt (gn V p s) (lN (oar N s))) || ovp (shr N V p s).1 x)
theorem z_above (hN : N ≤ 9) {p : Nat} (hp : p < N) (V : Nat → Int64) : f_X5_shareAbove (nI N) false V (nI p) = some (shr N V p (2 ^ N)) := by
  have hpw := pw_le hN
  refine lp_cf (L := fun m i => L_X5_shareAbove_1 (nI N) V (nI p) m (shr N V p i).1 (nI i) (shr N V p i).2) (2 ^ N) (fun m => ?_) (fun m i hi => ?_) (2 ^ N) 0 FU (by omega) (by rw [FU_eq]; omega)
  · show B_X5_shareAbove_1 _ _ _ _ _ _ _ = _
    rw [B_X5_shareAbove_1, z_sets hN, Option.bind_some, if_neg (by rw [ltI (by omega) (by omega)]; omega)]
  · show B_X5_shareAbove_1 _ _ _ _ _ _ _ = _
    rw [B_X5_shareAbove_1, z_sets hN, Option.bind_some, if_pos (by rw [ltI (by omega) (by omega)]; omega), z_has (by omega) (by omega), Option.bind_some]
    simp only [jn2_eq, nm_eq, nI_1]
    cases c : i.testBit p
    · have hl := pcn_lt hN hi hp c
      have := oar_le hN hl
      simp only [Bool.false_eq_true, if_false, shr, c]
      rw [z_addedBy hN hp hi, Option.bind_some, z_oar hN (by omega) hl, Option.bind_some, nI_l (by omega), z_product, Option.bind_some, z_plus, Option.bind_some]
    · simp only [if_true, shr, c]
theorem z_shares (R : RG N n nd es wt un ed G g) (F : RF fa) {j p : Nat} (hj : j < 4) (hp : p < N) (isB : Bool) (ab : Int64) : f_X6_shares isB ab g fa (nI j) (nI p) = some ((shr N (G j) p (2 ^ N)).2, (shr N (G j) p (2 ^ N)).1) := by
  have hN := R.1.2.1
  have hpw := pw_le hN
  have hp1 := pw_pos N
  rw [f_X6_shares]
  simp only [nm_eq]
  refine lp_cf (L := fun m i => L_X6_shares_1 g fa (nI j) (nI p) m (nI i) (shr N (G j) p i).2 (shr N (G j) p i).1) (2 ^ N) (fun m => ?_) (fun m i hi => ?_) (2 ^ N) 0 FU (by omega) (by rw [FU_eq]; omega)
  · show B_X6_shares_1 _ _ _ _ _ _ _ _ = _
    rw [B_X6_shares_1, R.all, Option.bind_some, if_pos (by rw [ltI (by omega) (by omega)]; omega)]
  · show B_X6_shares_1 _ _ _ _ _ _ _ _ = _
    rw [B_X6_shares_1, R.all, Option.bind_some, if_neg (by rw [ltI (by omega) (by omega)]; omega), z_hasM (by omega) (by omega), Option.bind_some]
    simp only [jn2_eq, nm_eq, nI_1, z_size (show i < 512 by omega), z_nM R.1.2.2.2, Option.bind_some]
    cases c : i.testBit p
    · have hl := pcn_lt hN hi hp c
      simp only [Bool.false_eq_true, if_false, shr, c]
      rw [R.gain hj hp hi, Option.bind_some, pk_sub (by omega), nI_m1 (by omega), ck_nI (by omega) (by omega), ck_nI (by omega) (by omega), nI_clamp (by omega), nI_clamp (by omega), F _ (by omega), F _ (by omega), lN_mul, z_productM, Option.bind_some, z_plusM, Option.bind_some]
      rfl
    · simp only [if_true, shr, c]
theorem o_share (R : RG N n nd es wt un ed G g) (F : RF fa) (bey isB : Bool) (ab : Int64) (a1 a2 a3 : Int32) : ∃ r b1 b2 ab', f_X5_share n bey G a1 a2 a3 = some (r, b1) ∧ f_X6_share isB ab g fa a1 a2 a3 = some (r, b2, ab') := by
  obtain ⟨h1, h2, h3, h4⟩ := id R.1
  subst h3
  rw [f_X5_share, f_X6_share, z_isGame, z_isGameM, z_hasPartner h2, z_isPartnerM h4 h1 h2, z_isPart, z_isPartM]
  simp only [Option.bind_some, f_X1_begin, nm_eq]
  by_cases c0 : inb a1 4 = true
  · rw [if_pos c0, if_pos c0]
    by_cases c1 : inb a2 N = true
    · rw [if_pos c1, if_pos c1]
      by_cases c2 : prt a3 = true
      · rw [if_pos c2, if_pos c2]
        obtain ⟨j, hj, hj2, rfl⟩ := inb_of c0
        obtain ⟨p, hp, hp2, rfl⟩ := inb_of c1
        have := fct_b (k := N) (by omega)
        rw [ck_nI hj (by omega), nI_clamp hj2, z_above h2 hp, Option.bind_some, z_shares R F hj hp, Option.bind_some, z_fac (by omega), Option.bind_some, nI_l (by omega), z_lowest (fct_pos64 (by omega)), Option.bind_some, z_nM h4, Option.bind_some, ck_nI (by omega) (by omega), nI_clamp (by omega), F N (by omega), z_part (fct_pos64 (by omega)), Option.bind_some]
        cases (shr N (G j) p (2 ^ N)).2
        · exact ⟨_, _, _, _, rfl, rfl⟩
        · exact ⟨_, _, _, _, rfl, rfl⟩
      · rw [if_neg c2, if_neg c2]
        exact ⟨_, _, _, _, rfl, rfl⟩
    · rw [if_neg c1, if_neg c1]
      exact ⟨_, _, _, _, rfl, rfl⟩
  · rw [if_neg c0, if_neg c0]
    exact ⟨_, _, _, _, rfl, rfl⟩
end OPF
