/-! PURE PART: the sets within a set, in their order; dividend, cover. -/
def nx (c S : Nat) : Nat := (c + 4294967295 * S) &&& S
theorem z_next (c S : Nat) : f_X5_nextWithin (nI c) (nI S) = some (nI (nx c S)) := by
  have h : nI c - nI S = nI (c + 4294967295 * S) := by
    rw [← nI_add, ← pk_mul, show nI 4294967295 = -1 from by decide, Int32.sub_eq_add_neg]
    congr 1
    exact Int32.neg_eq_neg_one_mul _
  rw [f_X5_nextWithin, h, nI_and]
  rfl
def wk2 (S : Nat) : Nat → Nat → Nat → Nat → Bool
  | 0, _, _, n => decide (n = 2 ^ pcn S)
  | k + 1, v, c, n => if v &&& S = v then decide (nx c S = v) && wk2 S k (v + 1) v (n + 1) else wk2 S k (v + 1) c n
set_option maxRecDepth 100000 in
theorem wk2_all : (List.range 512).all (fun S => wk2 S S 1 0 1) = true := by decide +kernel
theorem wk2_le {S : Nat} : ∀ k v c n, wk2 S k v c n = true → v + k = S + 1 → n + (if k = 0 then 0 else 1) ≤ 2 ^ pcn S
  | 0, v, c, n, h, e => by
    simp only [wk2, decide_eq_true_eq] at h
    simp only [if_true]
    omega
  | k + 1, v, c, n, h, e => by
    simp only [wk2] at h
    rw [if_neg (by omega)]
    by_cases c1 : v &&& S = v
    · rw [if_pos c1, Bool.and_eq_true] at h
      have := wk2_le k (v + 1) v (n + 1) h.2 (by omega)
      omega
    · rw [if_neg c1] at h
      have h2 := wk2_le k (v + 1) c n h (by omega)
      by_cases e0 : k = 0
      · subst e0
        exfalso
        apply c1
        have : v = S := by omega
        subst this
        exact Nat.and_self v
      · rw [if_neg e0] at h2
        exact h2
/-- the sets within S, from v on, k numbers, in their order -/
def sfo {σ : Type} (S : Nat) (f : Nat → σ → σ) : Nat → Nat → σ → σ
  | _, 0, s => s
  | v, k + 1, s => sfo S f (v + 1) k (if v &&& S = v then f v s else s)
theorem lp_subA {σ ρ : Type} {L : Nat → σ → Nat → Nat → Option ρ} {S : Nat} {f : Nat → σ → σ} {K : σ → Option ρ} (hx : ∀ m s c, L (m + 1) s c (2 ^ pcn S) = K s) (hs : ∀ m s c n, n < 2 ^ pcn S → nx c S ≤ S → L (m + 1) s c n = L m (f (nx c S) s) (nx c S) (n + 1)) : ∀ k v c n m s, wk2 S k v c n = true → v + k = S + 1 → k < m → L m s c n = K (sfo S f v k s)
  | 0, v, c, n, m, s, h, e, hm => by
    obtain ⟨m, rfl⟩ : ∃ k, m = k + 1 := ⟨m - 1, by omega⟩
    simp only [wk2, decide_eq_true_eq] at h
    rw [h, hx]; rfl
  | k + 1, v, c, n, m, s, h, e, hm => by
    have hl := wk2_le _ _ _ _ h e
    simp only [wk2] at h
    simp only [sfo]
    by_cases c1 : v &&& S = v
    · obtain ⟨m, rfl⟩ : ∃ k, m = k + 1 := ⟨m - 1, by omega⟩
      rw [if_pos c1, Bool.and_eq_true, decide_eq_true_eq] at h
      rw [if_neg (by omega)] at hl
      rw [if_pos c1, hs m s c n (by omega) (by omega), h.1]
      exact lp_subA hx hs k (v + 1) v (n + 1) m _ h.2 (by omega) (by omega)
    · rw [if_neg c1] at h
      rw [if_neg c1]
      exact lp_subA hx hs k (v + 1) c n m s h (by omega) (by omega)
theorem lp_subB {σ ρ : Type} {L : Nat → σ → Nat → Nat → Option ρ} {S : Nat} {f : Nat → σ → σ} {K : σ → Option ρ} (hx : ∀ m s c, L (m + 1) s c (2 ^ pcn S - 1) = K s) (hs : ∀ m s c n, n < 2 ^ pcn S - 1 → nx c S ≤ S → L (m + 1) s c n = L m (f (nx c S) s) (nx c S) (n + 1)) : ∀ k v c n m s, wk2 S (k + 1) v c n = true → v + k = S → k < m → L m s c n = K (sfo S f v k s)
  | 0, v, c, n, m, s, h, e, hm => by
    obtain ⟨m, rfl⟩ : ∃ k, m = k + 1 := ⟨m - 1, by omega⟩
    have : v = S := by omega
    subst this
    simp only [wk2] at h
    rw [if_pos (Nat.and_self v), Bool.and_eq_true, decide_eq_true_eq] at h
    have := h.2
    simp only [wk2, decide_eq_true_eq] at this
    rw [show n = 2 ^ pcn v - 1 by omega, hx]; rfl
  | k + 1, v, c, n, m, s, h, e, hm => by
    rw [wk2] at h
    simp only [sfo]
    by_cases c1 : v &&& S = v
    · obtain ⟨m, rfl⟩ : ∃ k, m = k + 1 := ⟨m - 1, by omega⟩
      rw [if_pos c1, Bool.and_eq_true, decide_eq_true_eq] at h
      have hl := wk2_le _ _ _ _ h.2 (by omega)
      rw [if_neg (by omega)] at hl
      rw [if_pos c1, hs m s c n (by omega) (by omega), h.1]
      exact lp_subB hx hs k (v + 1) v (n + 1) m _ h.2 (by omega) (by omega)
    · rw [if_neg c1] at h
      rw [if_neg c1]
      exact lp_subB hx hs k (v + 1) c n m s h (by omega) (by omega)
theorem wk2_at {S : Nat} (h : S < 512) : wk2 S S 1 0 1 = true := List.all_eq_true.mp wk2_all S (List.mem_range.mpr h)
theorem lp_sfo {σ ρ : Type} {L : Nat → Nat → σ → Option ρ} {S : Nat} {f : Nat → σ → σ} {K : σ → Option ρ} (e : Nat) (hx : ∀ m s, L (m + 1) e s = K s) (hs : ∀ m v s, v < e → L (m + 1) v s = L m (v + 1) (if v &&& S = v then f v s else s)) : ∀ k v m s, v + k = e → k < m → L m v s = K (sfo S f v k s)
  | 0, v, m, s, h, hm => by
    obtain ⟨m, rfl⟩ : ∃ k, m = k + 1 := ⟨m - 1, by omega⟩
    have : v = e := by omega
    subst this
    rw [hx]; rfl
  | k + 1, v, m, s, h, hm => by
    obtain ⟨m, rfl⟩ : ∃ k, m = k + 1 := ⟨m - 1, by omega⟩
    rw [hs m v s (by omega), lp_sfo e hx hs k (v + 1) m _ (by omega) (by omega)]
    rfl
theorem sfo_rel {σ τ : Type} {S : Nat} {f : Nat → σ → σ} {f' : Nat → τ → τ} {Rel : Nat → σ → τ → Prop} (e : Nat) (h1 : ∀ v s s', v < e → v &&& S = v → Rel v s s' → Rel (v + 1) (f v s) (f' v s')) (h2 : ∀ v s s', v < e → ¬ v &&& S = v → Rel v s s' → Rel (v + 1) s s') : ∀ k v s s', v + k = e → Rel v s s' → Rel e (sfo S f v k s) (sfo S f' v k s')
  | 0, v, s, s', h, hr => by
    have : v = e := by omega
    subst this
    exact hr
  | k + 1, v, s, s', h, hr => by
    simp only [sfo]
    by_cases c : v &&& S = v
    · rw [if_pos c, if_pos c]
      exact sfo_rel e h1 h2 k (v + 1) _ _ (by omega) (h1 v s s' (by omega) c hr)
    · rw [if_neg c, if_neg c]
      exact sfo_rel e h1 h2 k (v + 1) _ _ (by omega) (h2 v s s' (by omega) c hr)
theorem and_dif {v S : Nat} (hv : v < 2 ^ 32) : dif v S = 0 ↔ v &&& S = v := by
  rw [dif_sub hv]
  constructor
  · intro h
    apply Nat.eq_of_testBit_eq
    intro i
    rw [Nat.testBit_and]
    cases c : v.testBit i
    · rfl
    · rw [h i c]; rfl
  · intro h i hi
    rw [← h, Nat.testBit_and, Bool.and_eq_true] at hi
    exact hi.2
-- dividends
def dvf (T : Nat → Int64) (d : Nat) (s : Int64 × Bool) : Int64 × Bool := (s.1 - T d, s.2 || ovm s.1 (T d))
def dvi (T : Nat → Int64) (S : Nat) (x : Int64) (b : Bool) : Int64 × Bool := sfo S (dvf T) 1 (S - 1) (x, b)
theorem shl_pc {k : Nat} (h : k ≤ 9) : (1 : Int32) <<< (nI k &&& 31) = nI (2 ^ k) := shl_pw h
theorem z_lessDiv {S : Nat} (hS : S < 512) (h0 : 0 < S) (T : Nat → Int64) (x : Int64) (b : Bool) : f_X5_lessItsDividends b T x (nI S) = some (dvi T S x b) := by
  have hp := pcn_le S
  have hpw : 2 ^ pcn S ≤ 512 := pw_le hp
  have hp1 := pw_pos (pcn S)
  have hw := wk2_at hS
  obtain ⟨k, hk⟩ : ∃ k, S = k + 1 := ⟨S - 1, by omega⟩
  rw [dvi, f_X5_lessItsDividends]
  refine lp_subB (L := fun m (s : Int64 × Bool) c n => L_X5_lessItsDividends_1 T (nI S) m s.1 (nI c) (nI n) s.2) (S := S) (f := dvf T) (K := some) (fun m s c => ?_) (fun m s c n hn hc => ?_) (S - 1) 1 0 1 FU (x, b) (by rw [show S - 1 + 1 = S by omega]; exact hw) (by omega) (by rw [FU_eq]; omega)
  · show B_X5_lessItsDividends_1 _ _ _ _ _ _ _ = _
    rw [B_X5_lessItsDividends_1, z_bitCount hS, Option.bind_some, shl_pw hp, nI_m1 hp1, if_neg (by rw [ltI (by omega) (by omega)]; omega)]
  · show B_X5_lessItsDividends_1 _ _ _ _ _ _ _ = _
    rw [B_X5_lessItsDividends_1, z_bitCount hS, Option.bind_some, shl_pw hp, nI_m1 hp1, if_pos (by rw [ltI (by omega) (by omega)]; omega), z_next, Option.bind_some, ck_nI (by omega) (by omega), nI_clamp (by omega), z_less, Option.bind_some]
    simp only [nm_eq, nI_1]
    rfl
theorem z_divOf {S : Nat} (hS : S < 512) (nx : Nat → Int64) (h00 : 0 < S → nx 0 = 0) (x : Int64) (b : Bool) : L_X6_dividendOf_1 nx (nI S) FU x 0 b = some (dvi nx S x b) := by
  have e := lp_sfo (L := fun m v (s : Int64 × Bool) => L_X6_dividendOf_1 nx (nI S) m s.1 (nI v) s.2) (S := S) (f := dvf nx) (K := some) S (fun m s => ?_) (fun m v s hv => ?_) S 0 FU (x, b) (by omega) (by rw [FU_eq]; omega)
  · refine e.trans ?_
    rw [dvi]
    by_cases h0 : S = 0
    · subst h0; rfl
    · obtain ⟨k, hk⟩ : ∃ k, S = k + 1 := ⟨S - 1, by omega⟩
      conv => lhs; rw [show sfo S (dvf nx) 0 S (x, b) = sfo S (dvf nx) 0 (k + 1) (x, b) from by rw [← hk]]
      rw [sfo, if_pos (Nat.zero_and S), dvf, h00 (by omega)]
      have h1 : ovm x 0 = false := by
        rw [ovm_iff, Int64.sub_zero, Int64.toInt_zero]; omega
      dsimp only
      rw [h1, Bool.or_false, Int64.sub_zero, show S - 1 = k by omega]
  · show B_X6_dividendOf_1 _ _ _ _ _ _ = _
    rw [B_X6_dividendOf_1, if_neg (by rw [ltI (by omega) (by omega)]; omega)]
  · show B_X6_dividendOf_1 _ _ _ _ _ _ = _
    rw [B_X6_dividendOf_1, if_pos (by rw [ltI (by omega) (by omega)]; omega), nI_dif]
    have ez : (nI (dif v S) = 0) = (v &&& S = v) := by
      have := dif_le (a := v) (b := S)
      exact propext ((eqI (a := dif v S) (b := 0) (by omega) (by omega) ▸ and_dif (by omega) : _))
    simp only [jn2_eq, nm_eq, nI_1, ez]
    by_cases c : v &&& S = v
    · rw [if_pos c, if_pos c, ck_nI (by omega) (by omega), nI_clamp (by omega), z_minus, Option.bind_some]
      rfl
    · rw [if_neg c, if_neg c]
