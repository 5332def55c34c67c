/-! PURE PART: weights of sets, edges in them, make, pairs. -/
/-- what the model's row says ahead of the games -/
def HD (N Q E : Nat) (W : Nat → Nat) (ed : Nat → Int32) (g : Nat → Int64) : Prop := g 0 = lN N ∧ g 1 = lN Q ∧ g 2 = lN E ∧ (∀ p, p < 9 → W p ≤ 1000 ∧ g (3 + p) = lN (W p)) ∧ ∀ e, e < 81 → RE (ed e) (g (21 + e)) (g (102 + e))
theorem HD.gset {N Q E : Nat} {W : Nat → Nat} {ed : Nat → Int32} {g : Nat → Int64} (h : HD N Q E W ed g) (j M : Nat) (F : Nat → Int64) : HD N Q E W ed (gset g j M F) := by
  obtain ⟨h1, h2, h3, h4, h5⟩ := h
  refine ⟨by rw [gset_ne (by omega)]; exact h1, by rw [gset_ne (by omega)]; exact h2, by rw [gset_ne (by omega)]; exact h3, fun p hp => by rw [gset_ne (by omega)]; exact h4 p hp, fun e he => by rw [gset_ne (by omega), gset_ne (by omega)]; exact h5 e he⟩
/-- the heads of both, by numbers -/
theorem RG.head {N : Nat} {n nd es : Int32} {wt un ed : Nat → Int32} {G : Nat → Nat → Int64} {g : Nat → Int64} (R : RG N n nd es wt un ed G g) : ∃ (Q E : Nat) (W : Nat → Nat), Q ≤ 9999 ∧ E ≤ 9999 ∧ nd = nI Q ∧ es = nI E ∧ (∀ p, p < 9 → wt p = nI (W p)) ∧ HD N Q E W ed g := by
  obtain ⟨⟨h1, h2, h3, h4⟩, ⟨Q, q1, q2, q3⟩, ⟨E, x1, x2, x3⟩, ⟨W, hW⟩, hU, hE, hV⟩ := R
  exact ⟨Q, E, W, q1, x1, q2, x2, fun p hp => (hW p hp).2.1, h4, q3, x3, fun p hp => ⟨(hW p hp).1, (hW p hp).2.2⟩, hE⟩
def wsum (W : Nat → Nat) (s : Nat) : Nat → Nat
  | 0 => 0
  | p + 1 => wsum W s p + if s.testBit p = true then W p else 0
theorem wsum_le {W : Nat → Nat} {s : Nat} (h : ∀ p, p < 9 → W p ≤ 1000) : ∀ k, k ≤ 9 → wsum W s k ≤ 1000 * k
  | 0, _ => Nat.le_refl _
  | k + 1, hk => by
    have h1 := wsum_le (s := s) h k (by omega)
    have h2 := h k (by omega)
    simp only [wsum]
    split <;> omega
theorem z_weigh {N : Nat} (hN : N ≤ 9) {wt : Nat → Int32} {W : Nat → Nat} (hw : ∀ p, p < 9 → wt p = nI (W p)) {s : Nat} (hs : s < 512) : f_X0_weigh (nI N) wt (nI s) = some (nI (wsum W s N)) := by
  refine lp_cf (L := fun m i => L_X0_weigh_1 (nI N) wt (nI s) m (nI (wsum W s i)) (nI i)) N (fun m => ?_) (fun m i hi => ?_) N 0 FU (by omega) (by rw [FU_eq]; omega)
  · show B_X0_weigh_1 _ _ _ _ _ _ = _
    rw [B_X0_weigh_1, if_neg (by rw [ltI (by omega) (by omega)]; omega)]
  · show B_X0_weigh_1 _ _ _ _ _ _ = _
    rw [B_X0_weigh_1, if_pos (by rw [ltI (by omega) (by omega)]; exact hi), z_has hs (by omega), Option.bind_some]
    simp only [jn1_eq, nm_eq, nI_1, ck_nI (show i < 9 by omega) (show 9 < 2 ^ 31 by omega), nI_clamp (show i < 2 ^ 31 by omega), hw i (by omega), nI_add]
    by_cases c : s.testBit i = true
    · simp only [if_pos c, wsum]
    · simp only [if_neg c, wsum]
      rw [nI_zero, nI_add]
theorem lN_zero : (0 : Int64) = lN 0 := rfl
theorem z_weighs {N : Nat} (hN : N ≤ 9) {g : Nat → Int64} {W : Nat → Nat} (h0 : g 0 = lN N) (hw : ∀ p, p < 9 → W p ≤ 1000 ∧ g (3 + p) = lN (W p)) {s : Nat} (hs : s < 512) : f_X6_weighs g (nI s) = some (lN (wsum W s N)) := by
  refine lp_cf (L := fun m i => L_X6_weighs_1 g (nI s) m (lN (wsum W s i)) (nI i)) N (fun m => ?_) (fun m i hi => ?_) N 0 FU (by omega) (by rw [FU_eq]; omega)
  · show B_X6_weighs_1 _ _ _ _ _ = _
    rw [B_X6_weighs_1, z_nM h0, Option.bind_some, if_neg (by rw [ltI (by omega) (by omega)]; omega)]
  · show B_X6_weighs_1 _ _ _ _ _ = _
    rw [B_X6_weighs_1, z_nM h0, Option.bind_some, if_pos (by rw [ltI (by omega) (by omega)]; exact hi), z_hasM hs (by omega), Option.bind_some, show (3 : Int32) = nI 3 from rfl, nI_add]
    simp only [jn1_eq, nm_eq, nI_1, ck_nI (show 3 + i < 2231 by omega) (show 2231 < 2 ^ 31 by omega), nI_clamp (show 3 + i < 2 ^ 31 by omega), (hw i (by omega)).2]
    by_cases c : s.testBit i = true
    · simp only [if_pos c, wsum, lN_add]
    · simp only [if_neg c, wsum]
      rw [lN_zero, lN_add]
def wn (Q : Nat) (W : Nat → Nat) (N s : Nat) : Bool := decide (Q ≤ wsum W s N)
theorem z_wins {N Q : Nat} (hN : N ≤ 9) (hQ : Q ≤ 9999) {wt : Nat → Int32} {W : Nat → Nat} (hw : ∀ p, p < 9 → wt p = nI (W p)) (hw1 : ∀ p, p < 9 → W p ≤ 1000) {s : Nat} (hs : s < 512) : f_X0_wins (nI N) (nI Q) wt (nI s) = some (wn Q W N s) := by
  have h9 := wsum_le (s := s) hw1 N hN
  rw [f_X0_wins, z_weigh hN hw hs, Option.bind_some]
  simp only [ltI (show wsum W s N < 2 ^ 31 by omega) (show Q < 2 ^ 31 by omega), wn]
  by_cases c : wsum W s N < Q
  · rw [if_pos c, decide_eq_false (by omega)]
  · rw [if_neg c, decide_eq_true (by omega)]
theorem z_winsM {N Q : Nat} (hN : N ≤ 9) (hQ : Q ≤ 9999) {g : Nat → Int64} {W : Nat → Nat} (h0 : g 0 = lN N) (h1 : g 1 = lN Q) (hw : ∀ p, p < 9 → W p ≤ 1000 ∧ g (3 + p) = lN (W p)) {s : Nat} (hs : s < 512) : f_X6_wins g (nI s) = some (wn Q W N s) := by
  have h9 := wsum_le (s := s) (fun p hp => (hw p hp).1) N hN
  rw [f_X6_wins, z_weighs hN h0 hw hs, Option.bind_some, show inb (1 : Int32) 2231 = true from by decide, show (1 : Int32).toNatClampNeg = 1 from by decide, ck_true, h1]
  simp only [ltL (show wsum W s N < 2 ^ 63 by omega) (show Q < 2 ^ 63 by omega), wn]
  by_cases c : wsum W s N < Q
  · rw [if_pos c, decide_eq_false (by omega)]
  · rw [if_neg c, decide_eq_true (by omega)]
-- signed numbers
def iI (z : Int) : Int32 := Int32.ofInt z
def lI (z : Int) : Int64 := Int64.ofInt z
theorem iI_add (a b : Int) : iI a + iI b = iI (a + b) := (Int32.ofInt_add a b).symm
theorem lI_add (a b : Int) : lI a + lI b = lI (a + b) := (Int64.ofInt_add a b).symm
theorem iI_to (x : Int32) : iI x.toInt = x := Int32.ofInt_toInt x
theorem lI_to (x : Int64) : lI x.toInt = x := Int64.ofInt_toInt x
theorem iI_lI {z : Int} (h1 : -2000000000 ≤ z) (h2 : z ≤ 2000000000) : (iI z).toInt64 = lI z := by
  apply Int64.toInt_inj.mp
  rw [toI_toL, iI, lI, Int32.toInt_ofInt, Int64.toInt_ofInt, show Int32.size = 4294967296 from rfl, show Int64.size = 18446744073709551616 from rfl, Int.bmod_eq_of_le (by omega) (by omega), Int.bmod_eq_of_le (by omega) (by omega)]
/-- the worth of an edge a < b in s, else 0 -/
def et (ed : Nat → Int32) (s a b : Nat) : Int := if a < b ∧ s.testBit a = true ∧ s.testBit b = true ∧ ¬ ed (epl a b) = 10000 then (ed (epl a b)).toInt else 0
def esi (ed : Nat → Int32) (s a : Nat) : Nat → Int
  | 0 => 0
  | b + 1 => esi ed s a b + et ed s a b
def est (ed : Nat → Int32) (s N : Nat) : Nat → Int
  | 0 => 0
  | a + 1 => est ed s N a + esi ed s a N
theorem esi_0 {ed : Nat → Int32} {s a : Nat} : ∀ k, k ≤ a + 1 → esi ed s a k = 0
  | 0, _ => rfl
  | k + 1, h => by
    simp only [esi]
    rw [esi_0 k (by omega), et, if_neg (by omega)]
    rfl
theorem esi_b {ed : Nat → Int32} {s a : Nat} (ha : a < 9) (h : ∀ e, e < 81 → ¬ ed e = 10000 → -9999 ≤ (ed e).toInt ∧ (ed e).toInt ≤ 9999) : ∀ k : Nat, k ≤ 9 → -9999 * (k : Int) ≤ esi ed s a k ∧ esi ed s a k ≤ 9999 * (k : Int)
  | 0, _ => ⟨Int.le_refl _, Int.le_refl _⟩
  | k + 1, hk => by
    have h1 := esi_b (s := s) ha h k (by omega)
    have h2 : -9999 ≤ et ed s a k ∧ et ed s a k ≤ 9999 := by
      unfold et
      split
      · rename_i c
        exact h _ (epl_lt ha (by omega)) c.2.2.2
      · omega
    simp only [esi]
    omega
theorem est_b {ed : Nat → Int32} {s N : Nat} (hN : N ≤ 9) (h : ∀ e, e < 81 → ¬ ed e = 10000 → -9999 ≤ (ed e).toInt ∧ (ed e).toInt ≤ 9999) : ∀ k : Nat, k ≤ 9 → -100000 * (k : Int) ≤ est ed s N k ∧ est ed s N k ≤ 100000 * (k : Int)
  | 0, _ => ⟨Int.le_refl _, Int.le_refl _⟩
  | k + 1, hk => by
    have h1 := est_b (s := s) hN h k (by omega)
    have h2 := esi_b (s := s) (a := k) (by omega) h N hN
    simp only [est]
    omega
theorem lp_from {ρ : Type} {L : Nat → Nat → Option ρ} {r : Option ρ} (i0 e : Nat) (hx : ∀ m, L (m + 1) e = r) (hs : ∀ m i, i0 ≤ i → i < e → L (m + 1) i = L m (i + 1)) : ∀ c i m : Nat, i0 ≤ i → i + c = e → c < m → L m i = r
  | 0, i, m, h0, h1, h2 => by
    obtain ⟨m, rfl⟩ : ∃ k, m = k + 1 := ⟨m - 1, by omega⟩
    have : i = e := by omega
    subst this
    exact hx m
  | c + 1, i, m, h0, h1, h2 => by
    obtain ⟨m, rfl⟩ : ∃ k, m = k + 1 := ⟨m - 1, by omega⟩
    rw [hs m i h0 (by omega)]
    exact lp_from i0 e hx hs c (i + 1) m (by omega) (by omega) (by omega)
theorem z_ew2 {N : Nat} (hN : N ≤ 9) (ed : Nat → Int32) {s a : Nat} (hs : s < 512) (ha : a < N) (kx : Int32 → Option Int32) (v : Int) : L_X0_edgesWithin_2 (nI N) ed (nI s) (nI a) kx FU (iI v) (nI (a + 1)) = kx (iI (v + esi ed s a N)) := by
  have h0 : esi ed s a (a + 1) = 0 := esi_0 (a + 1) (Nat.le_refl _)
  refine (congrArg (fun z => L_X0_edgesWithin_2 (nI N) ed (nI s) (nI a) kx FU (iI z) (nI (a + 1))) (show v = v + esi ed s a (a + 1) by rw [h0]; omega)).trans (lp_from (L := fun m i => L_X0_edgesWithin_2 (nI N) ed (nI s) (nI a) kx m (iI (v + esi ed s a i)) (nI i)) (a + 1) N (fun m => ?_) (fun m i hai hi => ?_) (N - (a + 1)) (a + 1) FU (Nat.le_refl _) (by omega) (by rw [FU_eq]; omega))
  · show B_X0_edgesWithin_2 _ _ _ _ _ _ _ _ = _
    rw [B_X0_edgesWithin_2, if_neg (by rw [ltI (by omega) (by omega)]; omega)]
  · show B_X0_edgesWithin_2 _ _ _ _ _ _ _ _ = _
    rw [B_X0_edgesWithin_2, if_pos (by rw [ltI (by omega) (by omega)]; exact hi), z_edgePlace (by omega) (by omega), Option.bind_some, ck_nI (epl_lt (by omega) (by omega)) (by omega), nI_clamp (by have := epl_lt (a := a) (b := i) (by omega) (by omega); omega)]
    simp only [nm_eq, z_has hs (show a < 9 by omega), z_has hs (show i < 9 by omega), Option.bind_some, jn1_eq, nI_1]
    have e : ∀ z : Int, et ed s a i = z → iI (v + esi ed s a (i + 1)) = iI (v + esi ed s a i + z) := fun z hz => by
      simp only [esi]; rw [hz]; congr 1; omega
    by_cases c1 : s.testBit a = true
    · by_cases c2 : s.testBit i = true
      · by_cases c3 : ed (epl a i) = 10000
        · simp only [if_pos c1, if_pos c2, if_pos c3]
          rw [e 0 (by rw [et, if_neg (fun z => z.2.2.2 c3)])]
          congr 2
          omega
        · simp only [if_pos c1, if_pos c2, if_neg c3]
          rw [e (ed (epl a i)).toInt (by rw [et, if_pos ⟨hai, c1, c2, c3⟩]), show iI (v + esi ed s a i + (ed (epl a i)).toInt) = iI (v + esi ed s a i) + ed (epl a i) from by rw [← iI_add (v + esi ed s a i), iI_to]]
      · simp only [if_pos c1, if_neg c2]
        rw [e 0 (by rw [et, if_neg (fun z => c2 z.2.2.1)])]
        congr 2
        omega
    · simp only [if_neg c1]
      rw [e 0 (by rw [et, if_neg (fun z => c1 z.2.1)])]
      congr 2
      omega
theorem iI_zero : (0 : Int32) = iI 0 := rfl
theorem lI_zero : (0 : Int64) = lI 0 := rfl
theorem z_ew {N : Nat} (hN : N ≤ 9) (ed : Nat → Int32) {s : Nat} (hs : s < 512) : f_X0_edgesWithin (nI N) ed (nI s) = some (iI (est ed s N N)) := by
  refine lp_cf (L := fun m i => L_X0_edgesWithin_1 (nI N) ed (nI s) m (iI (est ed s N i)) (nI i)) N (fun m => ?_) (fun m i hi => ?_) N 0 FU (by omega) (by rw [FU_eq]; omega)
  · show B_X0_edgesWithin_1 _ _ _ _ _ _ = _
    rw [B_X0_edgesWithin_1, if_neg (by rw [ltI (by omega) (by omega)]; omega)]
  · show B_X0_edgesWithin_1 _ _ _ _ _ _ = _
    rw [B_X0_edgesWithin_1, if_pos (by rw [ltI (by omega) (by omega)]; exact hi)]
    simp only [nm_eq, nI_1]
    rw [z_ew2 hN ed hs hi]
    rfl
theorem RE.val {e : Int32} {h w : Int64} (R : RE e h w) : (h = 1) = (¬ e = 10000) := by
  rcases R with ⟨h1, h2⟩ | ⟨h1, h2, -⟩
  · rw [h1, h2]; simp
  · rw [h2]; simp [h1]
theorem z_ei2 {N : Nat} (hN : N ≤ 9) {ed : Nat → Int32} {g : Nat → Int64} (h0 : g 0 = lN N) (hE : ∀ e, e < 81 → RE (ed e) (g (21 + e)) (g (102 + e))) {s a : Nat} (hs : s < 512) (ha : a < N) (kx : Int64 → Option Int64) (v : Int) : L_X6_edgesIn_2 g (nI s) (nI a) kx FU (lI v) (nI (a + 1)) = kx (lI (v + esi ed s a N)) := by
  have h1 : esi ed s a (a + 1) = 0 := esi_0 (a + 1) (Nat.le_refl _)
  refine (congrArg (fun z => L_X6_edgesIn_2 g (nI s) (nI a) kx FU (lI z) (nI (a + 1))) (show v = v + esi ed s a (a + 1) by rw [h1]; omega)).trans (lp_from (L := fun m i => L_X6_edgesIn_2 g (nI s) (nI a) kx m (lI (v + esi ed s a i)) (nI i)) (a + 1) N (fun m => ?_) (fun m i hai hi => ?_) (N - (a + 1)) (a + 1) FU (Nat.le_refl _) (by omega) (by rw [FU_eq]; omega))
  · show B_X6_edgesIn_2 _ _ _ _ _ _ _ = _
    rw [B_X6_edgesIn_2, z_nM h0, Option.bind_some, if_neg (by rw [ltI (by omega) (by omega)]; omega)]
  · show B_X6_edgesIn_2 _ _ _ _ _ _ _ = _
    have he : epl a i < 81 := epl_lt (by omega) (by omega)
    rw [B_X6_edgesIn_2, z_nM h0, Option.bind_some, if_pos (by rw [ltI (by omega) (by omega)]; exact hi)]
    simp only [nm_eq, z_hasM hs (show a < 9 by omega), z_hasM hs (show i < 9 by omega), z_edgeOf (show a < 9 by omega) (show i < 9 by omega), Option.bind_some, jn1_eq, nI_1]
    rw [show (21 : Int32) = nI 21 from rfl, show (102 : Int32) = nI 102 from rfl, nI_add, nI_add]
    simp only [ck_nI (show 21 + epl a i < 2231 by omega) (show 2231 < 2 ^ 31 by omega), nI_clamp (show 21 + epl a i < 2 ^ 31 by omega), ck_nI (show 102 + epl a i < 2231 by omega) (show 2231 < 2 ^ 31 by omega), nI_clamp (show 102 + epl a i < 2 ^ 31 by omega), (hE _ he).val]
    have e : ∀ z : Int, et ed s a i = z → lI (v + esi ed s a (i + 1)) = lI (v + esi ed s a i + z) := fun z hz => by
      simp only [esi]; rw [hz]; congr 1; omega
    by_cases c1 : s.testBit a = true
    · by_cases c2 : s.testBit i = true
      · by_cases c3 : ed (epl a i) = 10000
        · simp only [if_pos c1, if_pos c2, if_neg (show ¬ ¬ ed (epl a i) = 10000 from fun z => z c3)]
          rw [e 0 (by rw [et, if_neg (fun z => z.2.2.2 c3)])]
          congr 2
          omega
        · simp only [if_pos c1, if_pos c2, if_pos (show ¬ ed (epl a i) = 10000 from c3)]
          have hw : g (102 + epl a i) = lI (ed (epl a i)).toInt := by
            rcases hE _ he with ⟨z, -⟩ | ⟨-, -, z, z1, z2⟩
            · exact absurd z c3
            · rw [z, ← iI_lI (by omega) (by omega), iI_to]
          rw [e (ed (epl a i)).toInt (by rw [et, if_pos ⟨hai, c1, c2, c3⟩]), hw, lI_add]
      · simp only [if_pos c1, if_neg c2]
        rw [e 0 (by rw [et, if_neg (fun z => c2 z.2.2.1)])]
        congr 2
        omega
    · simp only [if_neg c1]
      rw [e 0 (by rw [et, if_neg (fun z => c1 z.2.1)])]
      congr 2
      omega
theorem z_ei {N : Nat} (hN : N ≤ 9) {ed : Nat → Int32} {g : Nat → Int64} (h0 : g 0 = lN N) (hE : ∀ e, e < 81 → RE (ed e) (g (21 + e)) (g (102 + e))) {s : Nat} (hs : s < 512) : f_X6_edgesIn g (nI s) = some (lI (est ed s N N)) := by
  refine lp_cf (L := fun m i => L_X6_edgesIn_1 g (nI s) m (lI (est ed s N i)) (nI i)) N (fun m => ?_) (fun m i hi => ?_) N 0 FU (by omega) (by rw [FU_eq]; omega)
  · show B_X6_edgesIn_1 _ _ _ _ _ = _
    rw [B_X6_edgesIn_1, z_nM h0, Option.bind_some, if_neg (by rw [ltI (by omega) (by omega)]; omega)]
  · show B_X6_edgesIn_1 _ _ _ _ _ = _
    rw [B_X6_edgesIn_1, z_nM h0, Option.bind_some, if_pos (by rw [ltI (by omega) (by omega)]; exact hi)]
    simp only [nm_eq, nI_1]
    rw [z_ei2 hN h0 hE hs hi]
    rfl
theorem iMax_nI {a b : Nat} (ha : a < 2 ^ 31) (hb : b < 2 ^ 31) : iMax (nI a) (nI b) = nI (max a b) := by
  simp only [iMax, ltI ha hb]
  by_cases c : a < b
  · rw [if_pos c, Nat.max_eq_right (by omega)]
  · rw [if_neg c, Nat.max_eq_left (by omega)]
theorem iMin_nI {a b : Nat} (ha : a < 2 ^ 31) (hb : b < 2 ^ 31) : iMin (nI a) (nI b) = nI (min a b) := by
  simp only [iMin, ltI hb ha]
  by_cases c : b < a
  · rw [if_pos c, Nat.min_eq_right (by omega)]
  · rw [if_neg c, Nat.min_eq_left (by omega)]
theorem lMax_lN {a b : Nat} (ha : a < 2 ^ 63) (hb : b < 2 ^ 63) : lMax (lN a) (lN b) = lN (max a b) := by
  simp only [lMax, ltL hb ha]
  by_cases c : b < a
  · rw [if_pos c, Nat.max_eq_left (by omega)]
  · rw [if_neg c, Nat.max_eq_right (by omega)]
def hmx (W : Nat → Nat) (s : Nat) : Nat → Nat
  | 0 => 0
  | p + 1 => if s.testBit p = true then max (hmx W s p) (W p) else hmx W s p
theorem hmx_le {W : Nat → Nat} {s : Nat} (h : ∀ p, p < 9 → W p ≤ 1000) : ∀ k, k ≤ 9 → hmx W s k ≤ 1000
  | 0, _ => by simp [hmx]
  | k + 1, hk => by
    have h1 := hmx_le (s := s) h k (by omega)
    have h2 := h k (by omega)
    simp only [hmx]
    split <;> omega
theorem z_heavy {N : Nat} (hN : N ≤ 9) {wt : Nat → Int32} {W : Nat → Nat} (hw : ∀ p, p < 9 → wt p = nI (W p)) (hw1 : ∀ p, p < 9 → W p ≤ 1000) {s : Nat} (hs : s < 512) : f_X0_heaviestOf (nI N) wt (nI s) = some (nI (hmx W s N)) := by
  refine lp_cf (L := fun m i => L_X0_heaviestOf_1 (nI N) wt (nI s) m (nI (hmx W s i)) (nI i)) N (fun m => ?_) (fun m i hi => ?_) N 0 FU (by omega) (by rw [FU_eq]; omega)
  · show B_X0_heaviestOf_1 _ _ _ _ _ _ = _
    rw [B_X0_heaviestOf_1, if_neg (by rw [ltI (by omega) (by omega)]; omega)]
  · show B_X0_heaviestOf_1 _ _ _ _ _ _ = _
    have h1 := hmx_le (s := s) hw1 i (by omega)
    have h2 := hw1 i (by omega)
    rw [B_X0_heaviestOf_1, if_pos (by rw [ltI (by omega) (by omega)]; exact hi), z_has hs (by omega), Option.bind_some]
    simp only [jn1_eq, nm_eq, nI_1, ck_nI (show i < 9 by omega) (show 9 < 2 ^ 31 by omega), nI_clamp (show i < 2 ^ 31 by omega), hw i (by omega), iMax_nI (show hmx W s i < 2 ^ 31 by omega) (show W i < 2 ^ 31 by omega)]
    by_cases c : s.testBit i = true
    · simp only [if_pos c, hmx]
    · simp only [if_neg c, hmx]
theorem z_heavyM {N : Nat} (hN : N ≤ 9) {g : Nat → Int64} {W : Nat → Nat} (h0 : g 0 = lN N) (hw : ∀ p, p < 9 → W p ≤ 1000 ∧ g (3 + p) = lN (W p)) {s : Nat} (hs : s < 512) : f_X6_heaviest g (nI s) = some (lN (hmx W s N)) := by
  refine lp_cf (L := fun m i => L_X6_heaviest_1 g (nI s) m (lN (hmx W s i)) (nI i)) N (fun m => ?_) (fun m i hi => ?_) N 0 FU (by omega) (by rw [FU_eq]; omega)
  · show B_X6_heaviest_1 _ _ _ _ _ = _
    rw [B_X6_heaviest_1, z_nM h0, Option.bind_some, if_neg (by rw [ltI (by omega) (by omega)]; omega)]
  · show B_X6_heaviest_1 _ _ _ _ _ = _
    have h1 := hmx_le (s := s) (fun p hp => (hw p hp).1) i (by omega)
    have h2 := (hw i (by omega)).1
    rw [B_X6_heaviest_1, z_nM h0, Option.bind_some, if_pos (by rw [ltI (by omega) (by omega)]; exact hi), z_hasM hs (by omega), Option.bind_some, show (3 : Int32) = nI 3 from rfl, nI_add]
    simp only [jn1_eq, nm_eq, nI_1, ck_nI (show 3 + i < 2231 by omega) (show 2231 < 2 ^ 31 by omega), nI_clamp (show 3 + i < 2 ^ 31 by omega), (hw i (by omega)).2, lMax_lN (show hmx W s i < 2 ^ 63 by omega) (show W i < 2 ^ 63 by omega)]
    by_cases c : s.testBit i = true
    · simp only [if_pos c, hmx]
    · simp only [if_neg c, hmx]
/-- what a set is worth, made -/
def mv (N Q E : Nat) (W : Nat → Nat) (ed : Nat → Int32) (a : Int32) (s : Nat) : Int64 :=
  if a = 0 then (if wn Q W N s = true then 1 else 0) else if a = 1 then lN (wsum W s N) else if a = 2 then lI (est ed s N N) else if a = 3 then lN (hmx W s N) else lN (E - wsum W (dif (2 ^ N - 1) s) N)
theorem iMax0 {a b : Nat} (ha : a < 2 ^ 30) (hb : b < 2 ^ 30) : iMax 0 (nI a - nI b) = nI (a - b) := by
  simp only [iMax]
  by_cases c : b < a
  · rw [pk_sub (by omega), nI_zero, if_pos (by rw [ltI (by omega) (by omega)]; omega)]
  · rw [if_neg, show a - b = 0 by omega]
    · rfl
    · rw [Int32.lt_iff_toInt_lt, Int32.toInt_zero, pk_sub_toInt ha hb]
      omega
theorem lMax0 {a b : Nat} (ha : a < 2 ^ 30) (hb : b < 2 ^ 30) : lMax 0 (lN a - lN b) = lN (a - b) := by
  simp only [lMax]
  by_cases c : b ≤ a
  · rw [lN_sub c, lN_zero]
    simp only [ltL (show a - b < 2 ^ 63 by omega) (show 0 < 2 ^ 63 by omega)]
    rw [if_neg (by omega)]
  · have e : lN a - lN b = lI ((a : Int) - b) := by
      have h1 : lN a = lI (a : Int) := rfl
      have h2 : lN b = lI (b : Int) := rfl
      rw [h1, h2]
      exact (Int64.ofInt_sub _ _).symm
    have e2 : (lI ((a : Int) - b)).toInt = (a : Int) - b := by
      rw [lI, Int64.toInt_ofInt, show Int64.size = 18446744073709551616 from rfl, Int.bmod_eq_of_le (by omega) (by omega)]
    rw [e, if_pos (by rw [Int64.lt_iff_toInt_lt, e2]; show _ < (0 : Int); omega), show a - b = 0 by omega]
    rfl
theorem z_made {N Q E : Nat} (hN : N ≤ 9) (hQ : Q ≤ 9999) (hE : E ≤ 9999) {wt ed : Nat → Int32} {W : Nat → Nat} (hw : ∀ p, p < 9 → wt p = nI (W p)) (hw1 : ∀ p, p < 9 → W p ≤ 1000) (hed : ∀ e, e < 81 → ¬ ed e = 10000 → -9999 ≤ (ed e).toInt ∧ (ed e).toInt ≤ 9999) (a : Int32) {s : Nat} (hs : s < 512) : f_X0_madeValue (nI N) (nI Q) (nI E) wt ed a (nI s) = some (mv N Q E W ed a s) := by
  have hp := pw_le hN
  have hd : dif (2 ^ N - 1) s ≤ 2 ^ N - 1 := dif_le
  have w1 := wsum_le (s := s) hw1 N hN
  have w2 := wsum_le (s := dif (2 ^ N - 1) s) hw1 N hN
  have w3 := est_b (s := s) hN hed N hN
  have w4 := hmx_le (s := s) hw1 N hN
  simp only [f_X0_madeValue, mv, z_wins hN hQ hw hw1 hs, z_weigh hN hw hs, z_ew hN ed hs, z_heavy hN hw hw1 hs, z_every hN, nI_dif, z_weigh hN hw (show dif (2 ^ N - 1) s < 512 by omega), Option.bind_some, nI_l (show wsum W s N < 2 ^ 31 by omega), nI_l (show hmx W s N < 2 ^ 31 by omega), iI_lI (show -2000000000 ≤ est ed s N N by omega) (show est ed s N N ≤ 2000000000 by omega), iMax0 (show E < 2 ^ 30 by omega) (show wsum W (dif (2 ^ N - 1) s) N < 2 ^ 30 by omega), nI_l (show E - wsum W (dif (2 ^ N - 1) s) N < 2 ^ 31 by omega)]
  by_cases c0 : a = 0
  · simp only [if_pos c0]
    cases wn Q W N s <;> rfl
  · by_cases c1 : a = 1
    · simp only [if_neg c0, if_pos c1]
    · by_cases c2 : a = 2
      · simp only [if_neg c0, if_neg c1, if_pos c2]
      · by_cases c3 : a = 3
        · simp only [if_neg c0, if_neg c1, if_neg c2, if_pos c3]
        · simp only [if_neg c0, if_neg c1, if_neg c2, if_neg c3]
theorem z_madeM {N Q E : Nat} (hN : N ≤ 9) (hQ : Q ≤ 9999) (hE : E ≤ 9999) {g : Nat → Int64} {ed : Nat → Int32} {W : Nat → Nat} (H : HD N Q E W ed g) (a : Int32) {s : Nat} (hs : s < 512) : f_X6_madeOf g a (nI s) = some (if s = 0 then 0 else mv N Q E W ed a s) := by
  obtain ⟨h0, h1, h2, hw, hed⟩ := H
  have hp := pw_le hN
  have hd : dif (2 ^ N - 1) s ≤ 2 ^ N - 1 := dif_le
  have hw1 : ∀ p, p < 9 → W p ≤ 1000 := fun p hp => (hw p hp).1
  have w2 := wsum_le (s := dif (2 ^ N - 1) s) hw1 N hN
  have e0 : (nI s = 0) = (s = 0) := by rw [nI_zero, eqI (by omega) (by omega)]
  simp only [f_X6_madeOf, mv, e0, z_winsM hN hQ h0 h1 hw hs, z_weighs hN h0 hw hs, z_ei hN h0 hed hs, z_heavyM hN h0 hw hs, z_allM h0 hN, nI_dif, z_weighs hN h0 hw (show dif (2 ^ N - 1) s < 512 by omega), Option.bind_some]
  rw [show inb (2 : Int32) 2231 = true from by decide, show (2 : Int32).toNatClampNeg = 2 from by decide, ck_true, h2, lMax0 (by omega) (by omega)]
  by_cases cs : s = 0
  · simp only [if_pos cs]
  · simp only [if_neg cs]
    by_cases c0 : a = 0
    · simp only [if_pos c0]
      cases wn Q W N s <;> rfl
    · by_cases c1 : a = 1
      · simp only [if_neg c0, if_pos c1]
      · by_cases c2 : a = 2
        · simp only [if_neg c0, if_neg c1, if_pos c2]
        · by_cases c3 : a = 3
          · simp only [if_neg c0, if_neg c1, if_neg c2, if_pos c3]
          · simp only [if_neg c0, if_neg c1, if_neg c2, if_neg c3]
