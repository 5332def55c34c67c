/-! PURE PART: the two pure functions of a call agree. First: numbers, loops, sets. -/
theorem nI_zero : (0 : Int32) = nI 0 := rfl
theorem nI_one : (1 : Int32) = nI 1 := rfl
theorem FU_eq : FU = 100000 := rfl
theorem ck_true {ρ : Type} {o : Option ρ} : ck true o = o := rfl
theorem nm_eq {α ρ : Type} {v : α} {K : α → Option ρ} : nm v K = K v := rfl
theorem jn0_eq {ρ : Type} {K : Option ρ} {F : Option ρ → Option ρ} : jn0 K F = F K := rfl
theorem jn1_eq {α ρ : Type} {K : α → Option ρ} {F : (α → Option ρ) → Option ρ} : jn1 K F = F K := rfl
theorem jn2_eq {α β ρ : Type} {K : α → β → Option ρ} {F : (α → β → Option ρ) → Option ρ} : jn2 K F = F K := rfl
theorem jn3_eq {α β γ ρ : Type} {K : α → β → γ → Option ρ} {F : (α → β → γ → Option ρ) → Option ρ} : jn3 K F = F K := rfl
theorem jn4_eq {α β γ δ ρ : Type} {K : α → β → γ → δ → Option ρ} {F : (α → β → γ → δ → Option ρ) → Option ρ} : jn4 K F = F K := rfl
theorem inb_nI {i n : Nat} (h : i < n) (hn : n < 2 ^ 31) : inb (nI i) n = true := by
  have h2 : i < 2 ^ 31 := Nat.lt_trans h hn
  simp only [inb, Bool.and_eq_true, decide_eq_true_eq]
  exact ⟨nI_pos h2, by rw [nI_clamp h2]; exact h⟩
theorem ck_nI {ρ : Type} {o : Option ρ} {i n : Nat} (h : i < n) (hn : n < 2 ^ 31) : ck (inb (nI i) n) o = o := by rw [inb_nI h hn]; rfl
theorem inb_eq {i n : Nat} (h : i < 2 ^ 31) : inb (nI i) n = decide (i < n) := by
  have := nI_pos h
  simp [inb, this, nI_clamp h]
theorem inb_neg {a : Int32} (n : Nat) (h : a < 0) : inb a n = false := by simp [inb, h]
/-- a number in range -/
theorem inb_of {a : Int32} {n : Nat} (h : inb a n = true) : ∃ k : Nat, k < n ∧ k < 2 ^ 31 ∧ a = nI k := by
  simp only [inb, Bool.and_eq_true, decide_eq_true_eq] at h
  obtain ⟨k, h1, h2⟩ := nI_of h.1
  subst h2
  rw [nI_clamp h1] at h
  exact ⟨k, h.2, h1, rfl⟩
theorem i32_cases (a : Int32) : a < 0 ∨ ∃ k : Nat, k < 2 ^ 31 ∧ a = nI k := by
  by_cases h : a < 0
  · exact Or.inl h
  · exact Or.inr (nI_of h)
theorem ltI {a b : Nat} (ha : a < 2 ^ 31) (hb : b < 2 ^ 31) : (nI a < nI b) = (a < b) := propext (nI_ltI ha hb)
theorem eqI {a b : Nat} (ha : a < 2 ^ 31) (hb : b < 2 ^ 31) : (nI a = nI b) = (a = b) := propext (nI_eq ha hb)
theorem ltL {a b : Nat} (ha : a < 2 ^ 63) (hb : b < 2 ^ 63) : (lN a < lN b) = (a < b) := propext (pk_lLT ha hb)
theorem eqL {a b : Nat} (ha : a < 2 ^ 63) (hb : b < 2 ^ 63) : (lN a = lN b) = (a = b) := propext (pk_lEQ ha hb)
theorem nI_m1 {n : Nat} (h : 1 ≤ n) : nI n - 1 = nI (n - 1) := by
  rw [nI_one, pk_sub h]
theorem toI_toL (a : Int32) : a.toInt64.toInt = a.toInt := Int32.toInt_toInt64 a
/-- a loop whose state at each place is known -/
theorem lp_cf {ρ : Type} {L : Nat → Nat → Option ρ} {r : Option ρ} (e : Nat) (hx : ∀ m, L (m + 1) e = r) (hs : ∀ m i, i < e → L (m + 1) i = L m (i + 1)) : ∀ c i m : Nat, i + c = e → c < m → L m i = r
  | 0, i, m, h1, h2 => by
    obtain ⟨m, rfl⟩ : ∃ k, m = k + 1 := ⟨m - 1, by omega⟩
    have : i = e := by omega
    subst this
    exact hx m
  | c + 1, i, m, h1, h2 => by
    obtain ⟨m, rfl⟩ : ∃ k, m = k + 1 := ⟨m - 1, by omega⟩
    rw [hs m i (by omega)]
    exact lp_cf e hx hs c (i + 1) m (by omega) (by omega)
/-- a loop that may end early, where the check fails -/
def allF (P : Nat → Bool) (i : Nat) : Nat → Bool
  | 0 => true
  | c + 1 => P i && allF P (i + 1) c
theorem allF_iff {P : Nat → Bool} : ∀ (c i : Nat), allF P i c = true ↔ ∀ j, i ≤ j → j < i + c → P j = true
  | 0, i => ⟨fun _ j h1 h2 => by omega, fun _ => rfl⟩
  | c + 1, i => by
    simp only [allF, Bool.and_eq_true, allF_iff c (i + 1)]
    constructor
    · intro h j h1 h2
      by_cases e : j = i
      · subst e; exact h.1
      · exact h.2 j (by omega) (by omega)
    · intro h
      exact ⟨h i (Nat.le_refl _) (by omega), fun j h1 h2 => h j (by omega) (by omega)⟩
theorem lp_all {ρ : Type} {L : Nat → Nat → Option ρ} {K R : Option ρ} (P : Nat → Bool) (e : Nat) (hx : ∀ m, L (m + 1) e = K) (hs : ∀ m i, i < e → L (m + 1) i = if P i = true then L m (i + 1) else R) : ∀ c i m : Nat, i + c = e → c < m → L m i = if allF P i c = true then K else R
  | 0, i, m, h1, h2 => by
    obtain ⟨m, rfl⟩ : ∃ k, m = k + 1 := ⟨m - 1, by omega⟩
    have : i = e := by omega
    subst this
    rw [hx m]; rfl
  | c + 1, i, m, h1, h2 => by
    obtain ⟨m, rfl⟩ : ∃ k, m = k + 1 := ⟨m - 1, by omega⟩
    rw [hs m i (by omega), lp_all P e hx hs c (i + 1) m (by omega) (by omega)]
    cases h : P i <;> simp [allF, h]
/-- a loop that may end early with an answer of the place -/
def fstF {β : Type} (P : Nat → Option β) (d : β) (i : Nat) : Nat → β
  | 0 => d
  | c + 1 => match P i with
    | some b => b
    | none => fstF P d (i + 1) c
theorem lp_fst {β ρ : Type} {L : Nat → Nat → Option ρ} (P : Nat → Option β) (d : β) (q : β → Option ρ) (e : Nat) (hx : ∀ m, L (m + 1) e = q d) (hs : ∀ m i, i < e → L (m + 1) i = match P i with | some b => q b | none => L m (i + 1)) : ∀ c i m : Nat, i + c = e → c < m → L m i = q (fstF P d i c)
  | 0, i, m, h1, h2 => by
    obtain ⟨m, rfl⟩ : ∃ k, m = k + 1 := ⟨m - 1, by omega⟩
    have : i = e := by omega
    subst this
    rw [hx m]; rfl
  | c + 1, i, m, h1, h2 => by
    obtain ⟨m, rfl⟩ : ∃ k, m = k + 1 := ⟨m - 1, by omega⟩
    rw [hs m i (by omega), lp_fst P d q e hx hs c (i + 1) m (by omega) (by omega)]
    cases h : P i <;> simp [fstF, h]
/-- folds -/
def itr {α : Type} (f : Nat → α → α) (a : α) : Nat → α
  | 0 => a
  | c + 1 => f c (itr f a c)
-- sets as numbers
def pcn (s : Nat) : Nat := (if s.testBit 0 then 1 else 0) + (if s.testBit 1 then 1 else 0) + (if s.testBit 2 then 1 else 0) + (if s.testBit 3 then 1 else 0) + (if s.testBit 4 then 1 else 0) + (if s.testBit 5 then 1 else 0) + (if s.testBit 6 then 1 else 0) + (if s.testBit 7 then 1 else 0) + (if s.testBit 8 then 1 else 0)
def lst (s : Nat) : Nat := if s.testBit 0 then 0 else if s.testBit 1 then 1 else if s.testBit 2 then 2 else if s.testBit 3 then 3 else if s.testBit 4 then 4 else if s.testBit 5 then 5 else if s.testBit 6 then 6 else if s.testBit 7 then 7 else if s.testBit 8 then 8 else 9
theorem co512 {P : Nat → Prop} [DecidablePred P] (h : (List.range 512).all (fun i => decide (P i)) = true) {i : Nat} (hi : i < 512) : P i := co_dec h hi
set_option maxRecDepth 100000 in
theorem z_bitCount {s : Nat} (h : s < 512) : f_J6_bitCount_0f7a4 (nI s) = some (nI (pcn s)) := co512 (P := fun s => f_J6_bitCount_0f7a4 (nI s) = some (nI (pcn s))) (by decide +kernel) h
set_option maxRecDepth 100000 in
theorem z_has' : (List.range 512).all (fun s => (List.range 9).all (fun p => decide (f_X5_has (nI s) (nI p) = some (s.testBit p)))) = true := by decide +kernel
theorem z_has {s p : Nat} (h : s < 512) (hp : p < 9) : f_X5_has (nI s) (nI p) = some (s.testBit p) := by
  have h1 := List.all_eq_true.mp z_has' s (List.mem_range.mpr h)
  exact of_decide_eq_true (List.all_eq_true.mp h1 p (List.mem_range.mpr hp))
theorem z_hasM {s p : Nat} (h : s < 512) (hp : p < 9) : f_X6_has (nI s) (nI p) = some (s.testBit p) := z_has h hp
theorem z_sizeL (s : Nat) : ∀ v : Nat, True := fun _ => trivial
set_option maxRecDepth 100000 in
theorem z_size' : (List.range 512).all (fun s => decide (L_X6_size_1 (nI s) 20 0 0 = some (nI (pcn s)))) = true := by decide +kernel
set_option maxRecDepth 100000 in
theorem z_leastOf' : (List.range 512).all (fun s => decide (L_X5_leastOf_1 (nI s) 20 0 = some (if s = 0 then -1 else nI (lst s)))) = true := by decide +kernel
/-- more fuel does no harm -/
theorem z_sizeF (a : Int32) : ∀ (m : Nat) (v i : Int32) (r : Int32), L_X6_size_1 a m v i = some r → ∀ k, L_X6_size_1 a (m + k) v i = some r
  | 0, v, i, r, h, k => by cases h
  | m + 1, v, i, r, h, k => by
    rw [Nat.add_right_comm]
    simp only [L_X6_size_1, B_X6_size_1, nm_eq] at h ⊢
    split at h
    · rw [if_pos (by assumption)]
      exact z_sizeF a m _ _ r h k
    · rw [if_neg (by assumption)]
      exact h
theorem z_leastOfF (a : Int32) : ∀ (m : Nat) (i : Int32) (r : Int32), L_X5_leastOf_1 a m i = some r → ∀ k, L_X5_leastOf_1 a (m + k) i = some r
  | 0, i, r, h, k => by cases h
  | m + 1, i, r, h, k => by
    rw [Nat.add_right_comm]
    simp only [L_X5_leastOf_1, B_X5_leastOf_1, nm_eq] at h ⊢
    split at h
    · rw [if_pos (by assumption)]
      cases hh : f_X5_has a i with
      | none => rw [hh] at h; cases h
      | some b =>
        rw [hh] at h
        simp only [Option.bind_some] at h ⊢
        cases b with
        | true => exact h
        | false => exact z_leastOfF a m _ r h k
    · rw [if_neg (by assumption)]
      exact h
theorem z_size {s : Nat} (h : s < 512) : f_X6_size (nI s) = some (nI (pcn s)) := by
  have h1 := of_decide_eq_true (List.all_eq_true.mp z_size' s (List.mem_range.mpr h))
  exact z_sizeF _ 20 _ _ _ h1 99980
theorem z_leastOf {s : Nat} (h : s < 512) : f_X5_leastOf (nI s) = some (if s = 0 then -1 else nI (lst s)) := by
  have h1 := of_decide_eq_true (List.all_eq_true.mp z_leastOf' s (List.mem_range.mpr h))
  exact z_leastOfF _ 20 _ _ h1 99980
