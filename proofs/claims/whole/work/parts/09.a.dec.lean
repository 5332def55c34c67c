/-! DECIMALS: what Long.stringSize and Long.getChars write. -/
def ng (u : Nat) : Int64 := Int64.ofInt (-(u : Int))
theorem ng_int {u : Nat} (h : u ≤ 2 ^ 63) : (ng u).toInt = -(u : Int) := by
  rw [ng]
  exact Int64.toInt_ofInt_of_le (by omega) (by omega)
theorem ng_lt {a b : Nat} (ha : a ≤ 2 ^ 63) (hb : b ≤ 2 ^ 63) : ng a < ng b ↔ b < a := by
  rw [Int64.lt_iff_toInt_lt, ng_int ha, ng_int hb]
  omega
theorem ng_div {u d : Nat} (hu : u ≤ 2 ^ 63) (hd : 0 < d) (hd2 : d < 2 ^ 63) : ng u / lN d = ng (u / d) := by
  have h1 : u / d ≤ u := Nat.div_le_self _ _
  apply Int64.toInt_inj.mp
  rw [Int64.toInt_div, ng_int hu, ng_int (by omega), lN_int hd2, Int.neg_tdiv, ← Int.ofNat_tdiv]
  generalize u / d = w at h1 ⊢
  exact Int.bmod_eq_of_le (by omega) (by omega)
theorem ng_rem {u : Nat} (hu : u ≤ 2 ^ 63) : (ng (u / 100) * 100 - ng u).toInt32 = nI (u % 100) := by
  have h1 : u / 100 ≤ u := Nat.div_le_self _ _
  have e : ng (u / 100) * 100 - ng u = lN (u % 100) := by
    apply Int64.toInt_inj.mp
    rw [Int64.toInt_sub, Int64.toInt_mul, ng_int hu, ng_int (by omega), lN_int (by omega), Int.bmod_sub_bmod]
    rw [show (100 : Int64).toInt = 100 from by decide]
    rw [show -((u / 100 : Nat) : Int) * 100 - -(u : Int) = ((u % 100 : Nat) : Int) by omega]
    exact Int.bmod_eq_of_le (by omega) (by omega)
  rw [e, lN_i]
theorem ng_i32 {u : Nat} (h : u < 2 ^ 31) : (ng u).toInt32 = -nI u := by
  apply Int32.toInt_inj.mp
  rw [sb_negT h, Int64.toInt_toInt32, ng_int (by omega)]
  exact Int.bmod_eq_of_le (by omega) (by omega)
theorem ng_of (v : Int64) : ((v < 0 ∧ v = ng v.toInt.natAbs) ∨ (¬ v < 0 ∧ -v = ng v.toInt.natAbs)) ∧ v.toInt.natAbs ≤ 2 ^ 63 := by
  have hv := i64_rng v
  refine ⟨?_, by omega⟩
  by_cases c : v < 0
  · refine Or.inl ⟨c, ?_⟩
    rw [Int64.lt_iff_toInt_lt, Int64.toInt_zero] at c
    apply Int64.toInt_inj.mp
    rw [ng_int (by omega)]
    omega
  · refine Or.inr ⟨c, ?_⟩
    rw [Int64.lt_iff_toInt_lt, Int64.toInt_zero] at c
    apply Int64.toInt_inj.mp
    rw [ng_int (by omega), Int64.toInt_neg, Int.bmod_eq_of_le (by omega) (by omega)]
    omega
/-- u has c figures -/
def Fg (u c : Nat) : Prop := 1 ≤ c ∧ u < 10 ^ c ∧ (c = 1 ∨ 10 ^ (c - 1) ≤ u)
theorem Fg_ex : ∀ k u : Nat, u < 10 ^ (k + 1) → ∃ c, Fg u c
  | 0, u, h => ⟨1, Nat.le_refl _, h, Or.inl rfl⟩
  | k + 1, u, h => by
    by_cases c : u < 10 ^ (k + 1)
    · exact Fg_ex k u c
    · exact ⟨k + 2, by omega, h, Or.inr (by show 10 ^ (k + 1) ≤ u; omega)⟩
theorem Fg_19 {u c : Nat} (h : Fg u c) (hu : u ≤ 2 ^ 63) : c ≤ 19 := by
  rcases h.2.2 with e | e
  · omega
  · by_cases z : c ≤ 19
    · exact z
    · have h1 : 10 ^ 19 ≤ 10 ^ (c - 1) := Nat.pow_le_pow_right (by decide) (by omega)
      have h2 : (2 : Nat) ^ 63 < 10 ^ 19 := by decide
      omega
theorem Fg_le {u c i : Nat} (h : Fg u c) (hi : i < c) (h1 : 1 ≤ i) : 10 ^ i ≤ u := by
  rcases h.2.2 with e | e
  · omega
  · exact Nat.le_trans (Nat.pow_le_pow_right (by decide) (by omega)) e
theorem Fg_lt {u c d : Nat} (h : Fg u c) (hd : 1 ≤ d) (hu : u < 10 ^ d) : c ≤ d := by
  by_cases z : c ≤ d
  · exact z
  · have := Fg_le h (i := d) (by omega) hd
    omega
theorem Fg_100 {u c : Nat} (h : Fg u c) (hu : 100 ≤ u) : 3 ≤ c ∧ Fg (u / 100) (c - 2) := by
  have hc : 3 ≤ c := by
    by_cases z : 3 ≤ c
    · exact z
    · have h1 : 10 ^ c ≤ 10 ^ 2 := Nat.pow_le_pow_right (by decide) (by omega)
      have := h.2.1
      omega
  obtain ⟨d, rfl⟩ : ∃ d, c = d + 3 := ⟨c - 3, by omega⟩
  have e1 := h.2.1
  rw [show d + 3 = (d + 1) + 2 from rfl, Nat.pow_add] at e1
  refine ⟨hc, by omega, ?_, ?_⟩
  · rw [show d + 3 - 2 = d + 1 by omega]
    omega
  · rcases h.2.2 with e | e
    · omega
    · rw [show d + 3 - 1 = d + 2 by omega, Nat.pow_add] at e
      refine Or.inr ?_
      rw [show d + 3 - 2 - 1 = d by omega]
      omega
theorem p10_18 {i : Nat} (h : i ≤ 18) : 10 ^ i ≤ 2 ^ 63 := Nat.le_trans (Nat.pow_le_pow_right (by decide) h) (by decide)
theorem ng_10 {i : Nat} (h : i < 18) : (10 : Int64) * ng (10 ^ i) = ng (10 ^ (i + 1)) :=
  co_dec (N := 18) (P := fun i => (10 : Int64) * ng (10 ^ i) = ng (10 ^ (i + 1))) (by decide +kernel) h
theorem z_ssz {u c : Nat} (hu : u ≤ 2 ^ 63) (h : Fg u c) (d : Int32) : ∀ (k i m : Nat) (p : Int64), i + k = c → 1 ≤ i → k < m → (i ≤ 18 → p = ng (10 ^ i)) → L_J13_stringSize_95d88_1 (ng u) d m p (nI i) = some (nI c + d) := by
  have hc := Fg_19 h hu
  intro k
  induction k with
  | zero =>
    intro i m p e h1 hm hp
    obtain ⟨m, rfl⟩ : ∃ k, m = k + 1 := ⟨m - 1, by omega⟩
    have : i = c := by omega
    subst this
    show B_J13_stringSize_95d88_1 _ _ _ _ _ = _
    rw [B_J13_stringSize_95d88_1, show (19 : Int32) = nI 19 from rfl]
    by_cases z : i < 19
    · rw [if_pos (by rw [ltI (by omega) (by omega)]; exact z), hp (by omega), if_pos ((ng_lt (p10_18 (by omega)) hu).mpr h.2.1)]
    · have : i = 19 := by omega
      subst this
      rw [if_neg (by rw [ltI (by omega) (by omega)]; omega)]
  | succ k ih =>
    intro i m p e h1 hm hp
    obtain ⟨m, rfl⟩ : ∃ k, m = k + 1 := ⟨m - 1, by omega⟩
    show B_J13_stringSize_95d88_1 _ _ _ _ _ = _
    have hle := Fg_le h (i := i) (by omega) h1
    rw [B_J13_stringSize_95d88_1, show (19 : Int32) = nI 19 from rfl, if_pos (by rw [ltI (by omega) (by omega)]; omega), hp (by omega), if_neg (fun z => by have := (ng_lt (p10_18 (by omega)) hu).mp z; omega)]
    simp only [nm_eq, nI_1]
    exact ih (i + 1) m _ (by omega) (by omega) (by omega) (fun hi => ng_10 (by omega))
def sgl (v : Int64) : Nat := if v < 0 then 1 else 0
theorem z_size0 {v : Int64} {c : Nat} (h : Fg v.toInt.natAbs c) : f_J13_stringSize_95d88 v = some (nI (c + sgl v)) := by
  obtain ⟨hv, hu⟩ := ng_of v
  have hc := Fg_19 h hu
  have h1 := h.1
  rw [f_J13_stringSize_95d88, jn2_eq]
  have e0 : ∀ d : Int32, L_J13_stringSize_95d88_1 (ng v.toInt.natAbs) d FU (-10) 1 = some (nI c + d) := fun d => z_ssz hu h d (c - 1) 1 FU (-10) (by omega) (by omega) (by rw [FU_eq]; omega) (fun _ => by decide)
  rcases hv with ⟨a, b⟩ | ⟨a, b⟩
  · rw [if_pos a, sgl, if_pos a]
    simp only [nm_eq]
    rw [← nI_add, ← e0]
    exact congrArg (fun x => L_J13_stringSize_95d88_1 x 1 FU (-10) 1) b
  · rw [if_neg a, sgl, if_neg a]
    simp only [nm_eq]
    rw [b, e0]
    show some (nI c + nI 0) = _
    rw [nI_add]
/-- c figures of u are written, ending ahead of P -/
def Wr (f f' : Nat → Int32) (P c u : Nat) : Prop := (∀ i, i < c → f' (P - 1 - i) = nI (48 + u / 10 ^ i % 10)) ∧ ∀ j, (j < P - c ∨ P ≤ j) → f' j = f j
theorem nar_n {c : Nat} (h : c ≤ 127) : vp_nar .byte (nI c) = nI c :=
  co_dec (N := 128) (P := fun c => vp_nar .byte (nI c) = nI c) (by decide +kernel) (by omega)
theorem wr2 {f f' : Nat → Int32} {P c u : Nat} (hc : 3 ≤ c) (hP : c ≤ P) (h : Wr (upd (upd f (P - 1) (nI (48 + u % 100 % 10))) (P - 2) (nI (48 + u % 100 / 10))) f' (P - 2) (c - 2) (u / 100)) : Wr f f' P c u := by
  obtain ⟨h1, h2⟩ := h
  refine ⟨fun i hi => ?_, fun j hj => ?_⟩
  · match i with
    | 0 =>
      rw [h2 _ (Or.inr (by omega)), pk_un (by omega), show P - 1 - 0 = P - 1 by omega, pk_us]
      congr 1
      rw [Nat.pow_zero, Nat.div_one]
      omega
    | 1 =>
      rw [h2 _ (Or.inr (by omega)), show P - 1 - 1 = P - 2 by omega, pk_us]
      congr 1
      rw [Nat.pow_one]
      omega
    | i + 2 =>
      have := h1 i (by omega)
      rw [show P - 1 - (i + 2) = P - 2 - 1 - i by omega, this]
      congr 2
      rw [Nat.pow_add, Nat.mul_comm, ← Nat.div_div_eq_div_mul]
  · rw [h2 j (by omega), pk_un (by omega), pk_un (by omega)]
theorem gc1 {M : Nat} (hM : M ≤ 65536) {kx : Int64 → Int32 → (Nat → Int32) → Option (Int32 × (Nat → Int32))} : ∀ (k u c P m : Nat) (f : Nat → Int32), u ≤ 2 ^ 63 → u < 2 ^ 31 * 100 ^ k → Fg u c → c ≤ P → P ≤ M → k < m → ∃ u' c' P' f1, u' < 2 ^ 31 ∧ Fg u' c' ∧ c' ≤ P' ∧ P' ≤ M ∧ P' - c' = P - c ∧ (∀ f', Wr f1 f' P' c' u' → Wr f f' P c u) ∧ L_J13_getChars_11360_1 M kx m (ng u) (nI P) f = kx (ng u') (nI P') f1 := by
  intro k
  have e31 : ((-2147483648 : Int64)) = ng 2147483648 := by decide
  have hexit : ∀ (u c P m : Nat) (f : Nat → Int32), u < 2 ^ 31 → u ≤ 2 ^ 63 → Fg u c → c ≤ P → P ≤ M → 0 < m → ∃ u' c' P' f1, u' < 2 ^ 31 ∧ Fg u' c' ∧ c' ≤ P' ∧ P' ≤ M ∧ P' - c' = P - c ∧ (∀ f', Wr f1 f' P' c' u' → Wr f f' P c u) ∧ L_J13_getChars_11360_1 M kx m (ng u) (nI P) f = kx (ng u') (nI P') f1 := by
    intro u c P m f hu hu2 h hP hPM hm
    obtain ⟨m, rfl⟩ : ∃ k, m = k + 1 := ⟨m - 1, by omega⟩
    refine ⟨u, c, P, f, hu, h, hP, hPM, rfl, fun _ h => h, ?_⟩
    show B_J13_getChars_11360_1 _ _ _ _ _ _ = _
    rw [B_J13_getChars_11360_1, e31, if_pos ((ng_lt (by omega) hu2).mpr (by omega))]
  induction k with
  | zero =>
    intro u c P m f hu hk h hP hPM hm
    exact hexit u c P m f (by omega) hu h hP hPM (by omega)
  | succ k ih =>
    intro u c P m f hu hk h hP hPM hm
    by_cases z : u < 2 ^ 31
    · exact hexit u c P m f z hu h hP hPM (by omega)
    · obtain ⟨m, rfl⟩ : ∃ k, m = k + 1 := ⟨m - 1, by omega⟩
      obtain ⟨h3, h4⟩ := Fg_100 h (by omega)
      rw [Nat.pow_succ] at hk
      obtain ⟨u', c', P', f1, g1, g2, g3, g4, g5, g6, g7⟩ := ih (u / 100) (c - 2) (P - 2) m (upd (upd f (P - 1) (nI (48 + u % 100 % 10))) (P - 2) (nI (48 + u % 100 / 10))) (by omega) (by omega) h4 (by omega) (by omega) (by omega)
      refine ⟨u', c', P', f1, g1, g2, g3, g4, by omega, fun f' hf => wr2 h3 hP (g6 f' hf), ?_⟩
      rw [← g7]
      show B_J13_getChars_11360_1 _ _ _ _ _ _ = _
      rw [B_J13_getChars_11360_1, e31, if_neg (fun q => by have := (ng_lt (by omega) hu).mp q; omega), show ((100 : Int64) != 0) = true from by decide, ck_true, show ng u / 100 = ng (u / 100) from ng_div hu (d := 100) (by omega) (by omega)]
      simp only [nm_eq]
      rw [ng_rem hu, sb_m1 (by omega), sb_m1 (by omega), ck_nI (show u % 100 < 100 by omega) (by omega), ck_nI (show P - 1 < M by omega) (by omega), nI_clamp (show u % 100 < 2 ^ 31 by omega), nI_clamp (show P - 1 < 2 ^ 31 by omega), ck_nI (show u % 100 < 100 by omega) (by omega), ck_nI (show P - 1 - 1 < M by omega) (by omega), nI_clamp (show P - 1 - 1 < 2 ^ 31 by omega), dgO, dgT, nar_n (by omega), nar_n (by omega), show P - 1 - 1 = P - 2 by omega]
theorem gc2 {M : Nat} (hM : M ≤ 65536) {kx : Int32 → Int32 → (Nat → Int32) → Option (Int32 × (Nat → Int32))} : ∀ (k u c P m : Nat) (f : Nat → Int32), u < 2 ^ 31 → u < 100 * 100 ^ k → Fg u c → c ≤ P → P ≤ M → k < m → ∃ u' c' P' f1, u' < 100 ∧ Fg u' c' ∧ c' ≤ P' ∧ P' ≤ M ∧ P' - c' = P - c ∧ (∀ f', Wr f1 f' P' c' u' → Wr f f' P c u) ∧ L_J13_getChars_11360_2 M kx m (nI P) (-nI u) f = kx (nI P') (-nI u') f1 := by
  intro k
  have e1 : ((-100 : Int32)) = -nI 100 := by decide
  have hexit : ∀ (u c P m : Nat) (f : Nat → Int32), u < 100 → Fg u c → c ≤ P → P ≤ M → 0 < m → ∃ u' c' P' f1, u' < 100 ∧ Fg u' c' ∧ c' ≤ P' ∧ P' ≤ M ∧ P' - c' = P - c ∧ (∀ f', Wr f1 f' P' c' u' → Wr f f' P c u) ∧ L_J13_getChars_11360_2 M kx m (nI P) (-nI u) f = kx (nI P') (-nI u') f1 := by
    intro u c P m f hu h hP hPM hm
    obtain ⟨m, rfl⟩ : ∃ k, m = k + 1 := ⟨m - 1, by omega⟩
    refine ⟨u, c, P, f, hu, h, hP, hPM, rfl, fun _ h => h, ?_⟩
    show B_J13_getChars_11360_2 _ _ _ _ _ _ = _
    rw [B_J13_getChars_11360_2, e1, if_pos ((sb_nlt (by omega) (by omega)).mpr hu)]
  induction k with
  | zero =>
    intro u c P m f hu hk h hP hPM hm
    exact hexit u c P m f (by omega) h hP hPM (by omega)
  | succ k ih =>
    intro u c P m f hu hk h hP hPM hm
    by_cases z : u < 100
    · exact hexit u c P m f z h hP hPM (by omega)
    · obtain ⟨m, rfl⟩ : ∃ k, m = k + 1 := ⟨m - 1, by omega⟩
      obtain ⟨h3, h4⟩ := Fg_100 h (by omega)
      rw [Nat.pow_succ] at hk
      obtain ⟨u', c', P', f1, g1, g2, g3, g4, g5, g6, g7⟩ := ih (u / 100) (c - 2) (P - 2) m (upd (upd f (P - 1) (nI (48 + u % 100 % 10))) (P - 2) (nI (48 + u % 100 / 10))) (by omega) (by omega) h4 (by omega) (by omega) (by omega)
      refine ⟨u', c', P', f1, g1, g2, g3, g4, by omega, fun f' hf => wr2 h3 hP (g6 f' hf), ?_⟩
      rw [← g7]
      show B_J13_getChars_11360_2 _ _ _ _ _ _ = _
      rw [B_J13_getChars_11360_2, e1, if_neg (fun q => by have := (sb_nlt (by omega) (by omega)).mp q; omega), show ((100 : Int32) != 0) = true from by decide, ck_true, sb_ndiv hu]
      simp only [nm_eq]
      rw [sb_nrem hu, sb_m1 (by omega), sb_m1 (by omega), ck_nI (show u % 100 < 100 by omega) (by omega), ck_nI (show P - 1 < M by omega) (by omega), nI_clamp (show u % 100 < 2 ^ 31 by omega), nI_clamp (show P - 1 < 2 ^ 31 by omega), ck_nI (show u % 100 < 100 by omega) (by omega), ck_nI (show P - 1 - 1 < M by omega) (by omega), nI_clamp (show P - 1 - 1 < 2 ^ 31 by omega), dgO, dgT, nar_n (by omega), nar_n (by omega), show P - 1 - 1 = P - 2 by omega]
/-- the letters of v -/
def dtx (v : Int64) (c : Nat) : Nat → Nat := fun i => if v < 0 ∧ i = 0 then 45 else 48 + v.toInt.natAbs / 10 ^ (c + sgl v - 1 - i) % 10
theorem sb_bn {c : Nat} (h : c < 128) : sb_b c = nI c :=
  co_dec (N := 128) (P := fun c => sb_b c = nI c) (by decide +kernel) h
theorem fit_n {c : Nat} (h : c < 128) : fits .byte (.int (nI c)) = true := by
  rw [← sb_bn h]
  exact sb_fitB c
theorem wrF {f f' : Nat → Int32} {P c u : Nat} (h : Wr f f' P c u) (hc : c ≤ P) (hf : sb_Fit f) : sb_Fit f' := by
  intro j
  by_cases z : j < P - c ∨ P ≤ j
  · rw [h.2 j z]; exact hf j
  · have := h.1 (P - 1 - j) (by omega)
    rw [show P - 1 - (P - 1 - j) = j by omega] at this
    rw [this]
    exact fit_n (by omega)
/-- the last figures, and the sign -/
theorem gc3 {M u c P : Nat} (hM : M ≤ 65536) (hu : u < 100) (h : Fg u c) (hP : c ≤ P) (hPM : P ≤ M) (f : Nat → Int32) (K : Int32 → (Nat → Int32) → Option (Int32 × (Nat → Int32))) : ∃ f', Wr f f' P c u ∧ (nm (nI P + (-1)) (fun (x33 : Int32) => ck (inb (-(-nI u)) 100) (ck (inb x33 M) (nm (upd f x33.toNatClampNeg (vp_nar .byte (dgO (-(-nI u)).toNatClampNeg))) (fun (bf34 : Nat → Int32) => jn2 K (fun k35 => if (-nI u : Int32) < (-9) then (nm (x33 + (-1)) (fun (x40 : Int32) => ck (inb (-(-nI u)) 100) (ck (inb x40 M) (nm (upd bf34 x40.toNatClampNeg (vp_nar .byte (dgT (-(-nI u)).toNatClampNeg))) (fun (bf41 : Nat → Int32) => k35 x40 bf41))))) else (k35 x33 bf34)))))) : Option (Int32 × (Nat → Int32))) = K (nI (P - c)) f' := by
  have h1 := h.1
  have e9 : ((-9 : Int32)) = -nI 9 := by decide
  simp only [nm_eq, jn2_eq, Int32.neg_neg]
  rw [sb_m1 (by omega), ck_nI hu (by omega), ck_nI (show P - 1 < M by omega) (by omega), nI_clamp (show P - 1 < 2 ^ 31 by omega), nI_clamp (show u < 2 ^ 31 by omega), dgO, nar_n (by omega), e9]
  by_cases z : 9 < u
  · have hc : c = 2 := by
      have a1 := Fg_lt h (d := 2) (by omega) (by omega)
      by_cases q : c = 1
      · subst q
        have := h.2.1
        omega
      · omega
    subst hc
    rw [if_pos ((sb_nlt (by omega) (by omega)).mpr z), sb_m1 (by omega), ck_nI hu (by omega), ck_nI (show P - 1 - 1 < M by omega) (by omega), nI_clamp (show P - 1 - 1 < 2 ^ 31 by omega), dgT, nar_n (by omega), show P - 1 - 1 = P - 2 by omega]
    refine ⟨_, ⟨fun i hi => ?_, fun j hj => ?_⟩, rfl⟩
    · match i with
      | 0 =>
        rw [pk_un (by omega), show P - 1 - 0 = P - 1 by omega, pk_us, Nat.pow_zero, Nat.div_one]
      | 1 =>
        rw [show P - 1 - 1 = P - 2 by omega, pk_us, Nat.pow_one]
        congr 1
        omega
    · rw [pk_un (by omega), pk_un (by omega)]
  · have hc : c = 1 := by
      have a1 := Fg_lt h (d := 1) (by omega) (by omega)
      omega
    subst hc
    rw [if_neg (fun q => z ((sb_nlt (by omega) (by omega)).mp q))]
    refine ⟨_, ⟨fun i hi => ?_, fun j hj => ?_⟩, rfl⟩
    · have : i = 0 := by omega
      subst this
      rw [show P - 1 - 0 = P - 1 by omega, pk_us, Nat.pow_zero, Nat.div_one]
    · rw [pk_un (by omega)]
theorem p63_6 : (2 : Nat) ^ 63 < 2 ^ 31 * 100 ^ 6 := by decide
theorem p31_5 : (2 : Nat) ^ 31 ≤ 100 * 100 ^ 5 := by decide
theorem z_chars0 {v : Int64} {c M k s : Nat} (h : Fg v.toInt.natAbs c) (hM : M ≤ 65536) (hk : k + (c + s) ≤ M) (f : Nat → Int32) : ∃ f3, Wr f f3 (k + (c + s)) c v.toInt.natAbs ∧ f_J13_getChars_11360 M f v (nI (k + (c + s))) = (if (decide (v < 0)) = true then (nm (nI (k + s) + (-1)) (fun (x38 : Int32) => ck (inb x38 M) (nm (upd f3 x38.toNatClampNeg (vp_nar .byte 45)) (fun (bf39 : Nat → Int32) => some (x38, bf39))))) else some (nI (k + s), f3)) := by
  obtain ⟨hv, hu⟩ := ng_of v
  have hc := Fg_19 h hu
  have h1 := h.1
  obtain ⟨fu, hfu⟩ : ∃ k, k = FU := ⟨_, rfl⟩
  have hfu2 : fu = 100000 := hfu.trans FU_eq
  obtain ⟨u1, c1, P1, f1, a1, a2, a3, a4, a5, a6, a7⟩ := gc1 hM (kx := fun (v16 : Int64) (v17 : Int32) (bf18 : Nat → Int32) =>
    L_J13_getChars_11360_2 M (fun (v30 : Int32) (v31 : Int32) (bf32 : Nat → Int32) =>
    nm (v30 + (-1)) (fun (x33 : Int32) =>
    ck (inb (-v31) 100) (
    ck (inb x33 M) (
    nm (upd bf32 x33.toNatClampNeg (vp_nar .byte (dgO (-v31).toNatClampNeg))) (fun (bf34 : Nat → Int32) =>
    jn2 (fun (v36 : Int32) (bf37 : Nat → Int32) =>
    if (decide (v < 0)) = true then (
    nm (v36 + (-1)) (fun (x38 : Int32) =>
    ck (inb x38 M) (
    nm (upd bf37 x38.toNatClampNeg (vp_nar .byte 45)) (fun (bf39 : Nat → Int32) =>
    some (x38, bf39))))) else (
    some (v36, bf37))) (fun k35 =>
    if (v31 : Int32) < (-9) then (
    nm (x33 + (-1)) (fun (x40 : Int32) =>
    ck (inb (-v31) 100) (
    ck (inb x40 M) (
    nm (upd bf34 x40.toNatClampNeg (vp_nar .byte (dgT (-v31).toNatClampNeg))) (fun (bf41 : Nat → Int32) =>
    k35 x40 bf41))))) else (
    k35 x33 bf34))))))) fu v17 v16.toInt32 bf18) 6 v.toInt.natAbs c (k + (c + s)) fu f hu (Nat.lt_of_le_of_lt hu p63_6) h (by omega) hk (by omega)
  obtain ⟨u2, c2, P2, f2, b1, b2, b3, b4, b5, b6, b7⟩ := gc2 hM (kx := fun (v30 : Int32) (v31 : Int32) (bf32 : Nat → Int32) =>
    nm (v30 + (-1)) (fun (x33 : Int32) =>
    ck (inb (-v31) 100) (
    ck (inb x33 M) (
    nm (upd bf32 x33.toNatClampNeg (vp_nar .byte (dgO (-v31).toNatClampNeg))) (fun (bf34 : Nat → Int32) =>
    jn2 (fun (v36 : Int32) (bf37 : Nat → Int32) =>
    if (decide (v < 0)) = true then (
    nm (v36 + (-1)) (fun (x38 : Int32) =>
    ck (inb x38 M) (
    nm (upd bf37 x38.toNatClampNeg (vp_nar .byte 45)) (fun (bf39 : Nat → Int32) =>
    some (x38, bf39))))) else (
    some (v36, bf37))) (fun k35 =>
    if (v31 : Int32) < (-9) then (
    nm (x33 + (-1)) (fun (x40 : Int32) =>
    ck (inb (-v31) 100) (
    ck (inb x40 M) (
    nm (upd bf34 x40.toNatClampNeg (vp_nar .byte (dgT (-v31).toNatClampNeg))) (fun (bf41 : Nat → Int32) =>
    k35 x40 bf41))))) else (
    k35 x33 bf34))))))) 5 u1 c1 P1 fu f1 a1 (Nat.lt_of_lt_of_le a1 p31_5) a2 a3 a4 (by omega)
  obtain ⟨f3, w3, e3⟩ := gc3 hM b1 b2 b3 b4 f2 (fun (v36 : Int32) (bf37 : Nat → Int32) =>
    if (decide (v < 0)) = true then (
    nm (v36 + (-1)) (fun (x38 : Int32) =>
    ck (inb x38 M) (
    nm (upd bf37 x38.toNatClampNeg (vp_nar .byte 45)) (fun (bf39 : Nat → Int32) =>
    some (x38, bf39))))) else (
    some (v36, bf37)))
  have w4 : Wr f f3 (k + (c + s)) c v.toInt.natAbs := a6 f3 (b6 f3 w3)
  have eP : P2 - c2 = k + s := by omega
  have base : f_J13_getChars_11360 M f v (nI (k + (c + s))) = (if (decide (v < 0)) = true then (nm (nI (k + s) + (-1)) (fun (x38 : Int32) => ck (inb x38 M) (nm (upd f3 x38.toNatClampNeg (vp_nar .byte 45)) (fun (bf39 : Nat → Int32) => some (x38, bf39))))) else some (nI (k + s), f3)) := by
    rw [← eP]
    refine Eq.trans ?_ e3
    refine Eq.trans ?_ b7
    rw [← ng_i32 a1]
    refine Eq.trans ?_ a7
    rw [f_J13_getChars_11360, ← hfu]
    clear a7 b7 e3
    rcases hv with ⟨a, b⟩ | ⟨a, b⟩
    · rw [jn1_eq, if_pos a, show decide (v < 0) = true from decide_eq_true a]
      show jn1 _ _ = _
      rw [jn1_eq, if_pos rfl]
      exact congrArg (fun x => L_J13_getChars_11360_1 M _ fu x _ f) b
    · rw [jn1_eq, if_neg a, show decide (v < 0) = false from decide_eq_false a]
      show jn1 _ _ = _
      rw [jn1_eq, if_neg (by decide), nm_eq]
      exact congrArg (fun x => L_J13_getChars_11360_1 M _ fu x _ f) b
  exact ⟨f3, w4, base⟩
theorem dtx_0 {v : Int64} {c : Nat} (a : v < 0) : dtx v c 0 = 45 := if_pos ⟨a, rfl⟩
theorem dtx_s {v : Int64} {c i : Nat} (a : ¬ (v < 0 ∧ i = 0)) : dtx v c i = 48 + v.toInt.natAbs / 10 ^ (c + sgl v - 1 - i) % 10 := if_neg a
theorem z_chars {v : Int64} {c M k : Nat} (h : Fg v.toInt.natAbs c) (hM : M ≤ 65536) (hk : k + (c + sgl v) ≤ M) (f : Nat → Int32) : ∃ f', f_J13_getChars_11360 M f v (nI (k + (c + sgl v))) = some (nI k, f') ∧ (∀ j, j < k → f' j = f j) ∧ (∀ i, i < c + sgl v → f' (k + i) = nI (dtx v c i)) ∧ (sb_Fit f → sb_Fit f') := by
  have hu := (ng_of v).2
  have hc := Fg_19 h hu
  have h1 := h.1
  obtain ⟨f3, w4, base⟩ := z_chars0 h hM hk f
  have hle : c ≤ k + (c + sgl v) := by omega
  by_cases a : v < 0
  · have es : sgl v = 1 := if_pos a
    have b2 : f_J13_getChars_11360 M f v (nI (k + (c + sgl v))) = some (nI k, upd f3 k (nI 45)) := by
      rw [base, decide_eq_true a, if_pos rfl, es, nm_eq, sb_m1 (by omega), show k + 1 - 1 = k by omega, ck_nI (show k < M by omega) (by omega), nI_clamp (show k < 2 ^ 31 by omega), nm_eq]
      rfl
    refine ⟨upd f3 k (nI 45), b2, fun j hj => ?_, fun i hi => ?_, fun hf => sb_fitU (wrF w4 hle hf) (fit_n (c := 45) (by decide))⟩
    · rw [pk_un (show j ≠ k by omega), w4.2 j (by omega)]
    · have w5 := w4.1
      clear w4 base b2
      by_cases z : i = 0
      · rw [z, Nat.add_zero, pk_us, dtx_0 a]
      · rw [pk_un (show k + i ≠ k by omega), dtx_s (fun q => z q.2), ← w5 (c + sgl v - 1 - i) (by omega), show k + (c + sgl v) - 1 - (c + sgl v - 1 - i) = k + i by omega]
  · have es : sgl v = 0 := if_neg a
    have b2 : f_J13_getChars_11360 M f v (nI (k + (c + sgl v))) = some (nI k, f3) := by
      rw [base, decide_eq_false a, if_neg (by decide), es, Nat.add_zero]
    refine ⟨f3, b2, fun j hj => w4.2 j (by omega), fun i hi => ?_, fun hf => wrF w4 hle hf⟩
    have w5 := w4.1
    clear w4 base b2
    rw [dtx_s (fun q => a q.1), ← w5 (c + sgl v - 1 - i) (by omega), show k + (c + sgl v) - 1 - (c + sgl v - 1 - i) = k + i by omega]
theorem dtx_lt {v : Int64} {c i : Nat} : dtx v c i < 128 := by
  unfold dtx
  split <;> omega
theorem z_isDec {v : Int64} {c : Nat} (h : Fg v.toInt.natAbs c) : isDec v (c + sgl v) (dtx v c) := by
  obtain ⟨-, hu⟩ := ng_of v
  have hc := Fg_19 h hu
  have hs : sgl v ≤ 1 := by unfold sgl; split <;> omega
  refine ⟨by omega, z_size0 h, fun m k f hk hm => ?_⟩
  obtain ⟨f', e1, e2, e3, e4⟩ := z_chars h hm hk f
  exact ⟨f', e1, e2, fun i hi => ⟨by have := dtx_lt (v := v) (c := c) (i := i); omega, by rw [e3 i hi, sb_bn dtx_lt]⟩, e4⟩
theorem p63_19 : (2 : Nat) ^ 63 < 10 ^ 19 := by decide
theorem Fg_of (v : Int64) : ∃ c, Fg v.toInt.natAbs c := Fg_ex 18 _ (Nat.lt_of_le_of_lt (ng_of v).2 p63_19)
