/-! PURE PART: what ties the class's cells to the model's. -/
def RE (e : Int32) (h w : Int64) : Prop := (e = 10000 ∧ h = 0) ∨ (¬ e = 10000 ∧ h = 1 ∧ w = e.toInt64 ∧ -9999 ≤ e.toInt ∧ e.toInt ≤ 9999)
def RU (N : Nat) (un : Nat → Int32) (g : Nat → Int64) : Prop := ∃ (L U : Nat → Nat), ∀ p, p < N → L p ≤ p ∧ L (L p) = L p ∧ g (12 + p) = lN (L p) ∧ un p = nI (U p) ∧ U p < 2 ^ N ∧ ∀ i, (U p).testBit i = (decide (i < N) && decide (L i = L p))
def RW (wt : Nat → Int32) (g : Nat → Int64) (W : Nat → Nat) : Prop := ∀ p, p < 9 → W p ≤ 1000 ∧ wt p = nI (W p) ∧ g (3 + p) = lN (W p)
def RV (N : Nat) (G : Nat → Nat → Int64) (g : Nat → Int64) : Prop := (∀ j, j < 4 → ∀ s, s < 2 ^ N → g (183 + 512 * j + s) = G j s) ∧ ∀ j, j < 4 → G j 0 = 0
def RG (N : Nat) (n nd es : Int32) (wt un ed : Nat → Int32) (G : Nat → Nat → Int64) (g : Nat → Int64) : Prop :=
  (1 ≤ N ∧ N ≤ 9 ∧ n = nI N ∧ g 0 = lN N) ∧ (∃ Q, Q ≤ 9999 ∧ nd = nI Q ∧ g 1 = lN Q) ∧ (∃ E, E ≤ 9999 ∧ es = nI E ∧ g 2 = lN E) ∧ (∃ W : Nat → Nat, RW wt g W) ∧ RU N un g ∧ (∀ e, e < 81 → RE (ed e) (g (21 + e)) (g (102 + e))) ∧ RV N G g
section RGs
variable {N : Nat} {n nd es : Int32} {wt un ed : Nat → Int32} {G : Nat → Nat → Int64} {g : Nat → Int64}
theorem upd_s {f : Nat → Int32} {k : Nat} {x : Int32} : upd f k x k = x := pk_us
theorem RG.congr {n' nd' es' : Int32} {wt' un' ed' : Nat → Int32} {G' : Nat → Nat → Int64} {g' : Nat → Int64} (h : RG N n nd es wt un ed G g) (e1 : n' = n) (e2 : nd' = nd) (e3 : es' = es) (e4 : ∀ p, p < 9 → wt' p = wt p) (e5 : ∀ p, p < 9 → un' p = un p) (e6 : ∀ p, p < 81 → ed' p = ed p) (e7 : ∀ j, j < 4 → ∀ s, s < 512 → G' j s = G j s) (e8 : ∀ k, k < 2231 → g' k = g k) : RG N n' nd' es' wt' un' ed' G' g' := by
  subst e1 e2 e3
  obtain ⟨⟨h1, h2, h3, h4⟩, ⟨Q, q1, q2, q3⟩, ⟨E, x1, x2, x3⟩, ⟨W, hW⟩, ⟨L, U, hU⟩, hE, hV1, hV2⟩ := h
  have := pw_le h2
  refine ⟨⟨h1, h2, h3, by rw [e8 0 (by omega)]; exact h4⟩, ⟨Q, q1, q2, by rw [e8 1 (by omega)]; exact q3⟩, ⟨E, x1, x2, by rw [e8 2 (by omega)]; exact x3⟩, ⟨W, fun p hp => ?_⟩, ⟨L, U, fun p hp => ?_⟩, fun e he => ?_, fun j hj s hs => ?_, fun j hj => ?_⟩
  · rw [e4 p hp, e8 _ (by omega)]; exact hW p hp
  · rw [e5 p (by omega), e8 _ (by omega)]; exact hU p hp
  · rw [e6 e he, e8 _ (by omega), e8 _ (by omega)]; exact hE e he
  · rw [e7 j hj s (by omega), e8 _ (by omega)]; exact hV1 j hj s hs
  · rw [e7 j hj 0 (by omega)]; exact hV2 j hj
theorem RG.setQ (h : RG N n nd es wt un ed G g) {v : Nat} (hv : v ≤ 9999) : RG N n (nI v) es wt un ed G (vp_updL g 1 (lN v)) := by
  obtain ⟨⟨h1, h2, h3, h4⟩, ⟨Q, q1, q2, q3⟩, ⟨E, x1, x2, x3⟩, ⟨W, hW⟩, ⟨L, U, hU⟩, hE, hV1, hV2⟩ := h
  have := pw_le h2
  refine ⟨⟨h1, h2, h3, by rw [pk_uLn (by omega)]; exact h4⟩, ⟨v, hv, rfl, pk_uLs⟩, ⟨E, x1, x2, by rw [pk_uLn (by omega)]; exact x3⟩, ⟨W, fun p hp => ?_⟩, ⟨L, U, fun p hp => ?_⟩, fun e he => ?_, fun j hj s hs => ?_, hV2⟩
  · rw [pk_uLn (by omega)]; exact hW p hp
  · rw [pk_uLn (by omega)]; exact hU p hp
  · rw [pk_uLn (by omega), pk_uLn (by omega)]; exact hE e he
  · rw [pk_uLn (by omega)]; exact hV1 j hj s hs
theorem RG.setE (h : RG N n nd es wt un ed G g) {v : Nat} (hv : v ≤ 9999) : RG N n nd (nI v) wt un ed G (vp_updL g 2 (lN v)) := by
  obtain ⟨⟨h1, h2, h3, h4⟩, ⟨Q, q1, q2, q3⟩, ⟨E, x1, x2, x3⟩, ⟨W, hW⟩, ⟨L, U, hU⟩, hE, hV1, hV2⟩ := h
  have := pw_le h2
  refine ⟨⟨h1, h2, h3, by rw [pk_uLn (by omega)]; exact h4⟩, ⟨Q, q1, q2, by rw [pk_uLn (by omega)]; exact q3⟩, ⟨v, hv, rfl, pk_uLs⟩, ⟨W, fun p hp => ?_⟩, ⟨L, U, fun p hp => ?_⟩, fun e he => ?_, fun j hj s hs => ?_, hV2⟩
  · rw [pk_uLn (by omega)]; exact hW p hp
  · rw [pk_uLn (by omega)]; exact hU p hp
  · rw [pk_uLn (by omega), pk_uLn (by omega)]; exact hE e he
  · rw [pk_uLn (by omega)]; exact hV1 j hj s hs
theorem RG.setW (h : RG N n nd es wt un ed G g) {a v : Nat} (ha : a < 9) (hv : v ≤ 1000) : RG N n nd es (upd wt a (nI v)) un ed G (vp_updL g (3 + a) (lN v)) := by
  obtain ⟨⟨h1, h2, h3, h4⟩, ⟨Q, q1, q2, q3⟩, ⟨E, x1, x2, x3⟩, ⟨W, hW⟩, ⟨L, U, hU⟩, hE, hV1, hV2⟩ := h
  have := pw_le h2
  refine ⟨⟨h1, h2, h3, by rw [pk_uLn (by omega)]; exact h4⟩, ⟨Q, q1, q2, by rw [pk_uLn (by omega)]; exact q3⟩, ⟨E, x1, x2, by rw [pk_uLn (by omega)]; exact x3⟩, ⟨fun p => if p = a then v else W p, fun p hp => ?_⟩, ⟨L, U, fun p hp => ?_⟩, fun e he => ?_, fun j hj s hs => ?_, hV2⟩
  · by_cases e : p = a
    · subst e
      dsimp only
      rw [pk_us, pk_uLs, if_pos rfl]
      exact ⟨hv, rfl, rfl⟩
    · dsimp only
      rw [pk_un e, pk_uLn (by omega), if_neg e]
      exact hW p hp
  · rw [pk_uLn (by omega)]; exact hU p hp
  · rw [pk_uLn (by omega), pk_uLn (by omega)]; exact hE e he
  · rw [pk_uLn (by omega)]; exact hV1 j hj s hs
/-- an edge gets a worth, or none; the worth may be written, too -/
theorem RG.setEd (h : RG N n nd es wt un ed G g) {a : Nat} (ha : a < 81) {e : Int32} {g' : Nat → Int64} (hg : ∀ k, k ≠ 21 + a → k ≠ 102 + a → g' k = g k) (hr : RE e (g' (21 + a)) (g' (102 + a))) : RG N n nd es wt un (upd ed a e) G g' := by
  obtain ⟨⟨h1, h2, h3, h4⟩, ⟨Q, q1, q2, q3⟩, ⟨E, x1, x2, x3⟩, ⟨W, hW⟩, ⟨L, U, hU⟩, hE, hV1, hV2⟩ := h
  have := pw_le h2
  refine ⟨⟨h1, h2, h3, by rw [hg _ (by omega) (by omega)]; exact h4⟩, ⟨Q, q1, q2, by rw [hg _ (by omega) (by omega)]; exact q3⟩, ⟨E, x1, x2, by rw [hg _ (by omega) (by omega)]; exact x3⟩, ⟨W, fun p hp => ?_⟩, ⟨L, U, fun p hp => ?_⟩, fun e' he => ?_, fun j hj s hs => ?_, hV2⟩
  · rw [hg _ (by omega) (by omega)]; exact hW p hp
  · rw [hg _ (by omega) (by omega)]; exact hU p hp
  · by_cases e2 : e' = a
    · subst e2
      rw [pk_us]; exact hr
    · rw [pk_un e2, hg _ (by omega) (by omega), hg _ (by omega) (by omega)]; exact hE e' he
  · rw [hg _ (by omega) (by omega)]; exact hV1 j hj s hs
def Gset (G : Nat → Nat → Int64) (j M : Nat) (F : Nat → Int64) : Nat → Nat → Int64 := fun a s => if a = j ∧ s < M then F s else G a s
def gset (g : Nat → Int64) (j M : Nat) (F : Nat → Int64) : Nat → Int64 := fun k => if 183 + 512 * j ≤ k ∧ k < 183 + 512 * j + M then F (k - (183 + 512 * j)) else g k
theorem Gset_0 {j : Nat} {F : Nat → Int64} : Gset G j 0 F = G := by
  funext a s
  exact if_neg (fun h => absurd h.2 (by omega))
theorem gset_0 {j : Nat} {F : Nat → Int64} : gset g j 0 F = g := by
  funext k
  exact if_neg (by omega)
theorem Gset_s {j i : Nat} {F : Nat → Int64} : va_up (Gset G j i F) j (vp_updL (Gset G j i F j) i (F i)) = Gset G j (i + 1) F := by
  funext a s
  by_cases h : a = j
  · subst h
    rw [va_up_self]
    by_cases e : s = i
    · subst e
      rw [pk_uLs]
      simp [Gset]
    · rw [pk_uLn e]
      have : (s < i) = (s < i + 1) := propext (by omega)
      simp only [Gset, this]
  · rw [va_up_ne _ _ h]
    simp [Gset, h]
theorem gset_s {j i : Nat} {F : Nat → Int64} : vp_updL (gset g j i F) (183 + 512 * j + i) (F i) = gset g j (i + 1) F := by
  funext k
  by_cases e : k = 183 + 512 * j + i
  · subst e
    rw [pk_uLs]
    simp only [gset]
    rw [if_pos (by omega), Nat.add_sub_cancel_left]
  · rw [pk_uLn e]
    have : (183 + 512 * j ≤ k ∧ k < 183 + 512 * j + i) = (183 + 512 * j ≤ k ∧ k < 183 + 512 * j + (i + 1)) := propext (by omega)
    simp only [gset, this]
theorem gset_at {j M s : Nat} {F : Nat → Int64} (h : s < M) : gset g j M F (183 + 512 * j + s) = F s := by
  simp only [gset]
  rw [if_pos (by omega), Nat.add_sub_cancel_left]
theorem gset_ne {j M k : Nat} {F : Nat → Int64} (h : k < 183 + 512 * j ∨ 183 + 512 * j + M ≤ k) : gset g j M F k = g k := by
  simp only [gset]
  rw [if_neg (by omega)]
theorem Gset_at {j M s : Nat} {F : Nat → Int64} (h : s < M) : Gset G j M F j s = F s := by simp [Gset, h]
theorem RG.game (h : RG N n nd es wt un ed G g) {j : Nat} (hj : j < 4) {F : Nat → Int64} (hF : F 0 = 0) : RG N n nd es wt un ed (Gset G j (2 ^ N) F) (gset g j (2 ^ N) F) := by
  obtain ⟨⟨h1, h2, h3, h4⟩, ⟨Q, q1, q2, q3⟩, ⟨E, x1, x2, x3⟩, ⟨W, hW⟩, ⟨L, U, hU⟩, hE, hV1, hV2⟩ := h
  have := pw_le h2
  refine ⟨⟨h1, h2, h3, by rw [gset_ne (by omega)]; exact h4⟩, ⟨Q, q1, q2, by rw [gset_ne (by omega)]; exact q3⟩, ⟨E, x1, x2, by rw [gset_ne (by omega)]; exact x3⟩, ⟨W, fun p hp => ?_⟩, ⟨L, U, fun p hp => ?_⟩, fun e' he => ?_, fun a ha s hs => ?_, fun a ha => ?_⟩
  · rw [gset_ne (by omega)]; exact hW p hp
  · rw [gset_ne (by omega)]; exact hU p hp
  · rw [gset_ne (by omega), gset_ne (by omega)]; exact hE e' he
  · by_cases e : a = j
    · subst e
      rw [gset_at hs, Gset_at hs]
    · rw [gset_ne (by omega)]
      simp only [Gset, e, false_and, if_false]
      exact hV1 a ha s hs
  · by_cases e : a = j
    · subst e
      rw [Gset_at (by have := pw_pos N; omega)]
      exact hF
    · simp only [Gset, e, false_and, if_false]
      exact hV2 a ha
theorem RG.setV (h : RG N n nd es wt un ed G g) {j s : Nat} (hj : j < 4) (hs : s < 2 ^ N) (h0 : s ≠ 0) (x : Int64) : RG N n nd es wt un ed (va_up G j (vp_updL (G j) s x)) (vp_updL g (183 + 512 * j + s) x) := by
  obtain ⟨⟨h1, h2, h3, h4⟩, ⟨Q, q1, q2, q3⟩, ⟨E, x1, x2, x3⟩, ⟨W, hW⟩, ⟨L, U, hU⟩, hE, hV1, hV2⟩ := h
  have := pw_le h2
  refine ⟨⟨h1, h2, h3, by rw [pk_uLn (by omega)]; exact h4⟩, ⟨Q, q1, q2, by rw [pk_uLn (by omega)]; exact q3⟩, ⟨E, x1, x2, by rw [pk_uLn (by omega)]; exact x3⟩, ⟨W, fun p hp => ?_⟩, ⟨L, U, fun p hp => ?_⟩, fun e' he => ?_, fun a ha t ht => ?_, fun a ha => ?_⟩
  · rw [pk_uLn (by omega)]; exact hW p hp
  · rw [pk_uLn (by omega)]; exact hU p hp
  · rw [pk_uLn (by omega), pk_uLn (by omega)]; exact hE e' he
  · by_cases e : a = j
    · subst e
      rw [va_up_self]
      by_cases e2 : t = s
      · subst e2
        rw [pk_uLs, pk_uLs]
      · rw [pk_uLn e2, pk_uLn (by omega)]
        exact hV1 a ha t ht
    · rw [va_up_ne _ _ e, pk_uLn (by omega)]
      exact hV1 a ha t ht
  · by_cases e : a = j
    · subst e
      rw [va_up_self, pk_uLn (fun z => h0 z.symm)]
      exact hV2 a ha
    · rw [va_up_ne _ _ e]
      exact hV2 a ha
end RGs
