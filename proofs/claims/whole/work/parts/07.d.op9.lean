/-! PURE PART: orders told in a row, sums told in a row. -/
theorem lp_allI {ρ : Type} {L : Nat → Nat → Option ρ} {K R : Option ρ} (P : Nat → Bool) (e : Nat) (hx : ∀ m, (∀ j, j < e → P j = true) → L (m + 1) e = K) (hs : ∀ m i, i < e → (∀ j, j < i → P j = true) → L (m + 1) i = if P i = true then L m (i + 1) else R) : ∀ c i m : Nat, i + c = e → c < m → (∀ j, j < i → P j = true) → L m i = if allF P i c = true then K else R
  | 0, i, m, h1, h2, h3 => by
    obtain ⟨m, rfl⟩ : ∃ k, m = k + 1 := ⟨m - 1, by omega⟩
    have : i = e := by omega
    subst this
    rw [hx m h3]; rfl
  | c + 1, i, m, h1, h2, h3 => by
    obtain ⟨m, rfl⟩ : ∃ k, m = k + 1 := ⟨m - 1, by omega⟩
    rw [hs m i (by omega) h3]
    cases h : P i
    · simp [allF, h]
    · rw [if_pos rfl, lp_allI P e hx hs c (i + 1) m (by omega) (by omega) (fun j hj => by
        by_cases e : j = i
        · subst e; exact h
        · exact h3 j (by omega))]
      simp [allF, h]
def pt (N : Nat) (v : Int64) : Bool := decide (0 ≤ v) && decide (v < lN N)
def pk (v : Int64) : Nat := v.toInt.toNat
theorem lN_int {k : Nat} (h : k < 2 ^ 63) : (lN k).toInt = k := by
  rw [lN, Int64.toInt_ofNat_of_lt h]
theorem pk_lN {k : Nat} (h : k < 2 ^ 63) : pk (lN k) = k := by rw [pk, lN_int h]; rfl
theorem pt_of {N : Nat} (hN : N ≤ 20) {v : Int64} (h : pt N v = true) : pk v < N ∧ v = lN (pk v) := by
  simp only [pt, Bool.and_eq_true, decide_eq_true_eq] at h
  obtain ⟨h1, h2⟩ := h
  rw [Int64.le_iff_toInt_le, Int64.toInt_zero] at h1
  rw [Int64.lt_iff_toInt_lt, lN_int (by omega)] at h2
  refine ⟨by unfold pk; omega, ?_⟩
  apply Int64.toInt_inj.mp
  unfold pk
  rw [lN_int (by omega)]
  omega
theorem pt_in {N : Nat} (hN : N ≤ 20) (h1 : 1 ≤ N) (v : Int64) : f_X6_isIn v 0 (nI N - 1).toInt64 = some (pt N v) := by
  rw [nI_m1 h1, nI_l (by omega), z_isIn, pt]
  have : (v ≤ lN (N - 1)) = (v < lN N) := propext (by
    rw [Int64.le_iff_toInt_le, Int64.lt_iff_toInt_lt, lN_int (by omega), lN_int (by omega)]; omega)
  simp only [this]
def mk (F : Nat → Int64) : Nat → Nat
  | 0 => 0
  | i + 1 => mk F i ||| 2 ^ pk (F i)
theorem mk_lt {N : Nat} (hN : N ≤ 20) {F : Nat → Int64} : ∀ k, (∀ j, j < k → pt N (F j) = true) → mk F k < 2 ^ N
  | 0, _ => Nat.two_pow_pos N
  | k + 1, h => by
    have h1 := mk_lt hN k (fun j hj => h j (by omega))
    have h2 := (pt_of hN (h k (by omega))).1
    exact Nat.or_lt_two_pow h1 (Nat.pow_lt_pow_right (by omega) h2)
theorem cnt_upd {P Q : Nat → Bool} {p : Nat} (hq : Q p = true) (he : ∀ i, i ≠ p → Q i = P i) : ∀ n, p < n → cnt Q n = cnt P n + if P p = true then 0 else 1
  | 0, h => by omega
  | n + 1, h => by
    simp only [cnt]
    by_cases e : p = n
    · subst e
      rw [cnt_congr p (P := Q) (Q := P) (fun i hi => he i (by omega)), hq]
      cases P p <;> simp
    · rw [cnt_upd hq he n (by omega), he n (fun z => e z.symm)]
      omega
theorem cnt_all {P : Nat → Bool} : ∀ n, cnt P n = n ↔ ∀ i, i < n → P i = true
  | 0 => ⟨fun _ i h => by omega, fun _ => rfl⟩
  | n + 1 => by
    have h1 := cnt_le P n
    simp only [cnt]
    constructor
    · intro h i hi
      cases hn : P n with
      | false => rw [hn] at h; simp at h; omega
      | true =>
        rw [hn] at h
        by_cases e : i = n
        · subst e; exact hn
        · exact (cnt_all n).mp (by simpa using h) i (by omega)
    · intro h
      rw [(cnt_all n).mpr (fun i hi => h i (by omega)), h n (by omega)]
      rfl
theorem mk_cnt {N : Nat} {F : Nat → Int64} : ∀ k, (∀ j, j < k → pk (F j) < N) → cnt (fun i => (mk F k).testBit i) N ≤ k ∧ (cnt (fun i => (mk F k).testBit i) N = k ↔ ∀ j, j < k → (mk F j).testBit (pk (F j)) = false)
  | 0, _ => by
    have : ∀ n, cnt (fun i => (mk F 0).testBit i) n = 0 := fun n => by
      induction n with
      | zero => rfl
      | succ n ih =>
        simp only [cnt, mk, Nat.zero_testBit] at ih ⊢
        rw [ih]
        rfl
    rw [this]
    exact ⟨Nat.le_refl _, fun _ j hj => by omega, fun _ => rfl⟩
  | k + 1, h => by
    obtain ⟨h1, h2⟩ := mk_cnt k (fun j hj => h j (by omega))
    have h3 := cnt_upd (P := fun i => (mk F k).testBit i) (Q := fun i => (mk F (k + 1)).testBit i) (p := pk (F k)) (by simp [mk, Nat.testBit_or, Nat.testBit_two_pow]) (fun i hi => by simp [mk, Nat.testBit_or, Nat.testBit_two_pow, Ne.symm hi]) N (h k (by omega))
    rw [h3]
    cases c : (mk F k).testBit (pk (F k)) with
    | true =>
      simp only [if_pos]
      refine ⟨by omega, fun z => by omega, fun z => ?_⟩
      have := z k (by omega)
      rw [c] at this
      cases this
    | false =>
      simp only [Bool.false_eq_true, if_false]
      refine ⟨by omega, fun z j hj => ?_, fun z => ?_⟩
      · by_cases e : j = k
        · subst e; exact c
        · exact h2.mp (by omega) j (by omega)
      · rw [h2.mpr (fun j hj => z j (by omega))]
theorem mk_full {N m : Nat} (h : m < 2 ^ N) : (m = 2 ^ N - 1) ↔ cnt (fun i => m.testBit i) N = N := by
  rw [cnt_all]
  constructor
  · intro e i hi
    rw [e, all_bit]
    exact decide_eq_true hi
  · intro e
    apply Nat.eq_of_testBit_eq
    intro i
    rw [all_bit]
    by_cases c : i < N
    · rw [e i c, decide_eq_true c]
    · rw [decide_eq_false c]
      cases hb : m.testBit i with
      | false => rfl
      | true => exact absurd (bit_lt h hb) c
theorem nI_no {k : Nat} (h : k < 2 ^ 31) : ¬ nI k = -1 := fun e => nI_pos h (e ▸ (by decide))
section OP9
variable {N : Nat} {n nd es : Int32} {wt un ed : Nat → Int32} {G : Nat → Nat → Int64} {g : Nat → Int64} {sz ct : Nat → Int32} {P : Nat → Nat → Int64} {it : Nat → Int64}
/-- at place c of the row: N items told from there on -/
def AT (sz : Nat → Int32) (P : Nat → Nat → Int64) (it : Nat → Int64) (r c N : Nat) (F : Nat → Int64) : Prop :=
  r < 4 ∧ c + N ≤ 20 ∧ (c : Int) + N ≤ (sz r).toInt ∧ -1 ≤ (sz r).toInt ∧ (sz r).toInt ≤ 20 ∧ (∀ j, j < N → P r (c + j) = F j) ∧ ∀ j, j < N → it (20 * r + c + j) = F j
theorem AT.hr {r c : Nat} {F : Nat → Int64} (A : AT sz P it r c N F) : r < 4 := A.1
theorem AT.hc {r c : Nat} {F : Nat → Int64} (A : AT sz P it r c N F) : c + N ≤ 20 := A.2.1
theorem AT.hz {r c : Nat} {F : Nat → Int64} (A : AT sz P it r c N F) : (c : Int) + N ≤ (sz r).toInt := A.2.2.1
theorem AT.b1 {r c : Nat} {F : Nat → Int64} (A : AT sz P it r c N F) : -1 ≤ (sz r).toInt := A.2.2.2.1
theorem AT.b2 {r c : Nat} {F : Nat → Int64} (A : AT sz P it r c N F) : (sz r).toInt ≤ 20 := A.2.2.2.2.1
theorem AT.hP {r c : Nat} {F : Nat → Int64} (A : AT sz P it r c N F) : ∀ j, j < N → P r (c + j) = F j := A.2.2.2.2.2.1
theorem AT.hI {r c : Nat} {F : Nat → Int64} (A : AT sz P it r c N F) : ∀ j, j < N → it (20 * r + c + j) = F j := A.2.2.2.2.2.2
theorem RR.at (R : RR sz P ct it) {r N : Nat} (hr : r < 4) {a : Int32} (h : hld (sz r) a N = true) (h1 : 1 ≤ N) : ∃ c, c < 2 ^ 31 ∧ a = nI c ∧ AT sz P it r c N (fun j => P r (c + j)) := by
  obtain ⟨b1, b2⟩ := R.rng hr
  obtain ⟨c, rfl, hc⟩ := hld_of h b2
  refine ⟨c, by omega, rfl, hr, by omega, hc, b1, b2, fun _ _ => rfl, fun j hj => ?_⟩
  rcases (R r hr).2 with e | ⟨k, hk, e, hh⟩
  · rw [e] at hc
    have : (-1 : Int32).toInt = -1 := by decide
    omega
  · rw [e, nI_toInt (by omega)] at hc
    show it (20 * r + c + j) = P r (c + j)
    rw [Nat.add_assoc, hh (c + j) (by omega)]
theorem z_isThere (R : RR sz P ct it) (h0 : g 0 = lN N) (h1 : 1 ≤ N) (hN : N ≤ 9) {r : Nat} (hr : r < 4) (a : Int32) : f_X6_isThere g ct (nI r) a = some (hld (sz r) a N) := by
  obtain ⟨b1, b2⟩ := R.rng hr
  simp only [f_X6_isThere, jn0_eq, z_nM h0, Option.bind_some, ck_nI hr (show 4 < 2 ^ 31 by omega), nI_clamp (show r < 2 ^ 31 by omega), (R r hr).1, hld]
  have e1 : (a < 0) = (a.toInt < 0) := propext (by rw [Int32.lt_iff_toInt_lt, Int32.toInt_zero])
  have e0 : (sz r < 0) = ((sz r).toInt < 0) := propext (by rw [Int32.lt_iff_toInt_lt, Int32.toInt_zero])
  have e2 : (sz r - nI N < a) = ((sz r).toInt - N < a.toInt) := propext (by rw [Int32.lt_iff_toInt_lt, i32_sub (by omega) (by omega) (by rw [nI_toInt (by omega)]; omega) (by rw [nI_toInt (by omega)]; omega), nI_toInt (by omega)])
  simp only [e0, e1, e2]
  by_cases c0 : (sz r).toInt < 0
  · rw [if_pos c0]
    congr 1
    symm
    rw [Bool.and_eq_false_iff, decide_eq_false_iff_not, decide_eq_false_iff_not]
    omega
  · rw [if_neg c0]
    by_cases c : a.toInt < 0
    · rw [if_pos c]
      congr 1
      symm
      rw [Bool.and_eq_false_iff, decide_eq_false_iff_not, decide_eq_false_iff_not]
      omega
    · rw [if_neg c]
      by_cases d : (sz r).toInt - N < a.toInt
      · rw [if_pos d]
        congr 1
        symm
        rw [Bool.and_eq_false_iff, decide_eq_false_iff_not, decide_eq_false_iff_not]
        omega
      · rw [if_neg d]
        congr 1
        symm
        rw [Bool.and_eq_true, decide_eq_true_eq, decide_eq_true_eq]
        omega
variable {r c : Nat} {F : Nat → Int64}
theorem AT.cck (A : AT sz P it r c N F) {i : Nat} (hi : i < N) {ρ : Type} {K : Option ρ} : ck (inb (((20 * nI r) + nI c) + nI i) 80) K = K := by
  have := A.hr
  have := A.hc
  rw [z_rix, nI_add, ck_nI (by omega) (by omega)]
theorem AT.cit (A : AT sz P it r c N F) {i : Nat} (hi : i < N) : it (((20 * nI r) + nI c) + nI i).toNatClampNeg = F i := by
  have := A.hr
  have := A.hc
  rw [z_rix, nI_add, nI_clamp (by omega), A.hI i hi]
theorem AT.partner (A : AT sz P it r c N F) (hN : N ≤ 9) {i : Nat} (hi : i < N) : f_X5_partnerAt (nI N) sz P (nI r) (nI c + nI i) = some (if pt N (F i) = true then nI (pk (F i)) else -1) := by
  have hr := A.hr
  have hc := A.hc
  have hz := A.hz
  have hh : hld (sz r) (nI (c + i)) 1 = true := by
    simp only [hld, Bool.and_eq_true, decide_eq_true_eq, nI_toInt (show c + i < 2 ^ 31 by omega)]
    omega
  simp only [f_X5_partnerAt, jn1_eq, jn0_eq, nI_add]
  rw [nI_one, z_holds hr (by omega) A.b1 A.b2, Option.bind_some, hh, if_pos rfl, ck_nI hr (by omega), ck_nI (show c + i < 20 by omega) (by omega), nI_clamp (by omega), nI_clamp (by omega), A.hP i hi, nI_l (by omega)]
  by_cases d0 : F i < 0
  · have : ¬ 0 ≤ F i := Int64.not_le.mpr d0
    simp only [pt, if_pos d0, this, decide_false, Bool.false_and, Bool.false_eq_true, if_false]
  · have h0 : 0 ≤ F i := Int64.not_lt.mp d0
    by_cases d1 : F i < lN N
    · have hp : pt N (F i) = true := by simp only [pt, h0, d1, decide_true, Bool.and_self]
      have := pt_of (by omega) hp
      rw [if_neg d0, if_pos d1, if_pos hp]
      conv => lhs; rw [this.2]
      rw [lN_i]
    · have : ¬ pt N (F i) = true := by simp [pt, d1]
      rw [if_neg d0, if_neg d1, if_neg this]
def ordr (N : Nat) (F : Nat → Int64) : Bool := allF (fun i => pt N (F i)) 0 N && decide (mk F N = 2 ^ N - 1)
theorem AT.order (A : AT sz P it r c N F) (hN : N ≤ 9) (h1 : 1 ≤ N) : f_X5_isOrder (nI N) sz P (nI r) (nI c) = some (ordr N F) := by
  have hr := A.hr
  have hc := A.hc
  have hz := A.hz
  have hp := pw_le hN
  have hp1 := pw_pos N
  have hh : hld (sz r) (nI c) N = true := by
    simp only [hld, Bool.and_eq_true, decide_eq_true_eq, nI_toInt (show c < 2 ^ 31 by omega)]
    omega
  simp only [f_X5_isOrder]
  rw [z_holds hr (by omega) A.b1 A.b2, Option.bind_some, hh, if_pos rfl]
  refine (lp_allI (L := fun m i => L_X5_isOrder_1 (nI N) sz P (nI r) (nI c) _ m (nI (mk F i)) (nI i)) (K := some (decide (mk F N = 2 ^ N - 1))) (R := some false) (fun i => pt N (F i)) N (fun m ha => ?_) (fun m i hi ha => ?_) N 0 FU (by omega) (by rw [FU_eq]; omega) (fun j hj => by omega)).trans ?_
  · show B_X5_isOrder_1 _ _ _ _ _ _ _ _ _ = _
    have := mk_lt (N := N) (by omega) N ha
    rw [B_X5_isOrder_1, if_neg (by rw [ltI (by omega) (by omega)]; omega), z_every hN, Option.bind_some]
    simp only [eqI (show mk F N < 2 ^ 31 by omega) (show 2 ^ N - 1 < 2 ^ 31 by omega)]
    by_cases e : mk F N = 2 ^ N - 1 <;> simp [e]
  · show B_X5_isOrder_1 _ _ _ _ _ _ _ _ _ = _
    rw [B_X5_isOrder_1, if_pos (by rw [ltI (by omega) (by omega)]; exact hi), A.partner hN hi, Option.bind_some]
    by_cases d : pt N (F i) = true
    · have := pt_of (by omega) d
      simp only [if_pos d, nm_eq, nI_1]
      rw [if_neg (nI_no (show pk (F i) < 2 ^ 31 by omega)), shl_pw (by omega), nI_or]
      rfl
    · simp only [if_neg d, if_true]
  · unfold ordr
    cases allF (fun i => pt N (F i)) 0 N <;> rfl
theorem AT.orderM (A : AT sz P it r c N F) (hN : N ≤ 9) (h1 : 1 ≤ N) (h0 : g 0 = lN N) (R : RR sz P ct it) : f_X6_isOrder g ct it (nI r) (nI c) = some (ordr N F) := by
  have hr := A.hr
  have hc := A.hc
  have hz := A.hz
  have hp := pw_le hN
  have hp1 := pw_pos N
  have hh : hld (sz r) (nI c) N = true := by
    simp only [hld, Bool.and_eq_true, decide_eq_true_eq, nI_toInt (show c < 2 ^ 31 by omega)]
    omega
  simp only [f_X6_isOrder]
  rw [z_isThere R h0 h1 hN hr, Option.bind_some, hh, if_pos rfl]
  refine (lp_allI (L := fun m i => L_X6_isOrder_1 g it (nI r) (nI c) _ m (nI (mk F i)) (nI i)) (K := some true) (R := some false) (fun i => pt N (F i) && !(mk F i).testBit (pk (F i))) N (fun m ha => ?_) (fun m i hi ha => ?_) N 0 FU (by omega) (by rw [FU_eq]; omega) (fun j hj => by omega)).trans ?_
  · show B_X6_isOrder_1 _ _ _ _ _ _ _ _ = _
    rw [B_X6_isOrder_1, z_nM h0, Option.bind_some, if_neg (by rw [ltI (by omega) (by omega)]; omega)]
  · show B_X6_isOrder_1 _ _ _ _ _ _ _ _ = _
    have hm := mk_lt (N := N) (F := F) (by omega) i (fun j hj => (Bool.and_eq_true _ _ ▸ ha j hj).1)
    rw [B_X6_isOrder_1, z_nM h0, Option.bind_some, if_pos (by rw [ltI (by omega) (by omega)]; exact hi)]
    simp only [nm_eq]
    rw [A.cck hi, A.cit hi, Option.bind_some, pt_in (by omega) h1, Option.bind_some]
    by_cases d : pt N (F i) = true
    · have d2 := pt_of (by omega) d
      rw [if_pos d, d2.2, lN_i, z_hasM (by omega) (by omega), Option.bind_some, ← d2.2, shl_pw (by omega), nI_or, nI_1, d]
      cases (mk F i).testBit (pk (F i)) <;> rfl
    · simp [d]
  · unfold ordr
    cases e : allF (fun i => pt N (F i)) 0 N
    · have : allF (fun i => pt N (F i) && !(mk F i).testBit (pk (F i))) 0 N = false := by
        cases e2 : allF (fun i => pt N (F i) && !(mk F i).testBit (pk (F i))) 0 N
        · rfl
        · exfalso
          have : allF (fun i => pt N (F i)) 0 N = true := (allF_iff N 0).mpr (fun j z1 z2 => (Bool.and_eq_true _ _ ▸ (allF_iff N 0).mp e2 j z1 z2).1)
          rw [this] at e
          cases e
      rw [this]; rfl
    · have ha := (allF_iff N 0).mp e
      have hm := mk_lt (N := N) (F := F) (by omega) N (fun j hj => ha j (by omega) (by omega))
      have hc := (mk_cnt (N := N) (F := F) N (fun j hj => (pt_of (by omega) (ha j (by omega) (by omega))).1)).2
      have : (allF (fun i => pt N (F i) && !(mk F i).testBit (pk (F i))) 0 N = true) = (mk F N = 2 ^ N - 1) := propext (by
        rw [allF_iff, mk_full hm, hc]
        constructor
        · intro h j hj
          have := h j (by omega) (by omega)
          simp at this
          exact this.2
        · intro h j z1 z2
          have := h j (by omega)
          simp [this, ha j (by omega) (by omega)])
      simp only [this]
      by_cases d : mk F N = 2 ^ N - 1 <;> simp [d]
end OP9
