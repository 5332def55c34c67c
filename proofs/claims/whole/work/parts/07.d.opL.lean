/-! PURE PART: cover. -/
theorem and_all {N v : Nat} (h : v < 2 ^ N) : v &&& (2 ^ N - 1) = v := by
  rw [Nat.and_two_pow_sub_one_eq_mod, Nat.mod_eq_of_lt h]
theorem lp_sfo1 {σ ρ : Type} {L : Nat → Nat → σ → Option ρ} {S : Nat} {f : Nat → σ → σ} {K : σ → Option ρ} (e : Nat) (hx : ∀ m s, L (m + 1) e s = K s) (hs : ∀ m v s, 0 < v → v < e → L (m + 1) v s = L m (v + 1) (if v &&& S = v then f v s else s)) : ∀ k v m s, 0 < v → v + k = e → k < m → L m v s = K (sfo S f v k s)
  | 0, v, m, s, h0, h, hm => by
    obtain ⟨m, rfl⟩ : ∃ k, m = k + 1 := ⟨m - 1, by omega⟩
    have : v = e := by omega
    subst this
    rw [hx]; rfl
  | k + 1, v, m, s, h0, h, hm => by
    obtain ⟨m, rfl⟩ : ∃ k, m = k + 1 := ⟨m - 1, by omega⟩
    rw [hs m v s h0 (by omega), lp_sfo1 e hx hs k (v + 1) m _ (by omega) (by omega) (by omega)]
    rfl
section OPL
variable {N : Nat} {n nd es : Int32} {wt un ed : Nat → Int32} {G : Nat → Nat → Int64} {g : Nat → Int64}
def cvs (V : Nat → Int64) (s : Nat) (p : Bool × (Nat → Int64)) : Bool × (Nat → Int64) := ((cvb V p.2 s p.1).2, vp_updL p.2 s (cvb V p.2 s p.1).1)
theorem cvb_congr {V T T' : Nat → Int64} {s : Nat} (hs : s < 512) (h0 : 0 < s) (h : ∀ d, d < s → T d = T' d) (b : Bool) : cvb V T s b = cvb V T' s b := by
  obtain ⟨l1, l2, l3, l4⟩ := low_at hs h0
  rw [cvb, cvb]
  refine sfo_rel (Rel := fun _ s s' => s = s') (dif s (2 ^ lst s) + 1) (fun v p p' hv hvs hr => ?_) (fun v p p' _ _ hr => hr) (dif s (2 ^ lst s)) 1 _ _ (by omega) rfl
  subst hr
  show cvg V T s v p = cvg V T' s v p
  rw [cvg, cvg, h v (by omega)]
theorem o_cover (R : RG N n nd es wt un ed G g) (bey isB : Bool) (wk nx : Nat → Int64) (a1 : Int32) : ∃ r bey' G' wk' isB' g' nx', f_X5_cover n bey G wk a1 = some (r, bey', G', wk') ∧ f_X6_cover isB g nx a1 = some (r, isB', g', nx') ∧ RG N n nd es wt un ed G' g' := by
  obtain ⟨h1, h2, h3, h4⟩ := id R.1
  subst h3
  have hpw := pw_le h2
  have hp1 := pw_pos N
  rw [f_X5_cover, f_X6_cover, z_isGame, z_isGameM, Option.bind_some, Option.bind_some]
  by_cases c0 : inb a1 4 = true
  · rw [if_pos c0, if_pos c0]
    obtain ⟨j, hj, hj2, rfl⟩ := inb_of c0
    have hV := R.2.2.2.2.2.2.2 j hj
    simp only [f_X1_begin, nm_eq, Option.bind_some]
    rw [show inb (0 : Int32) 512 = true from by decide, ck_true, ck_true, show (0 : Int32).toNatClampNeg = 0 from by decide]
    obtain ⟨s1, hs1⟩ : ∃ s1, s1 = sfo (2 ^ N - 1) (cvs (G j)) 1 (2 ^ N - 1) (false, vp_updL wk 0 0) := ⟨_, rfl⟩
    obtain ⟨s2, hs2⟩ : ∃ s2, s2 = sfo (2 ^ N - 1) (cvs (G j)) 1 (2 ^ N - 1) (false, vp_updL nx 0 0) := ⟨_, rfl⟩
    obtain ⟨K1, hK1⟩ : ∃ K1 : Bool × (Nat → Int64) → Option (Int32 × Bool × (Nat → Nat → Int64) × (Nat → Int64)), K1 = fun p => if p.1 = true then some (-6, p.1, G, p.2) else some (nI (chg (G j) p.2 (2 ^ N)), p.1, Gset G j (2 ^ N) p.2, p.2) := ⟨_, rfl⟩
    obtain ⟨K2, hK2⟩ : ∃ K2 : Bool × (Nat → Int64) → Option (Int32 × Bool × (Nat → Int64) × (Nat → Int64)), K2 = fun p => if p.1 = true then some (-6, p.1, g, p.2) else some (nI (chg (fun s => g (183 + 512 * j + s)) p.2 (2 ^ N)), p.1, gset g j (2 ^ N) p.2, p.2) := ⟨_, rfl⟩
    have e1 : L_X5_cover_1 (nI N) G (nI j) (fun (bey14 : Bool) (wk15 : Nat → Int64) => if bey14 = true then (some ((-6), bey14, G, wk15)) else ((f_X5_settle (nI N) G wk15 (nI j)).bind (fun (r16 : Int32 × (Nat → Nat → Int64)) => some (r16.1, bey14, r16.2, wk15)))) FU 1 false (vp_updL wk 0 0) = K1 s1 := by
      rw [hs1]
      refine lp_sfo1 (L := fun m v (s : Bool × (Nat → Int64)) => L_X5_cover_1 (nI N) G (nI j) _ m (nI v) s.1 s.2) (S := 2 ^ N - 1) (f := cvs (G j)) (K := K1) (2 ^ N - 1 + 1) (fun m s => ?_) (fun m v s h0 hv => ?_) (2 ^ N - 1) 1 FU (false, vp_updL wk 0 0) (by omega) (by omega) (by rw [FU_eq]; omega)
      · show B_X5_cover_1 _ _ _ _ _ _ _ _ = _
        rw [B_X5_cover_1, z_sets h2, Option.bind_some, if_neg (by rw [ltI (by omega) (by omega)]; omega), z_settle h2 hj, Option.bind_some, hK1]
      · show B_X5_cover_1 _ _ _ _ _ _ _ _ = _
        rw [if_pos (and_all (by omega)), B_X5_cover_1, z_sets h2, Option.bind_some, if_pos (by rw [ltI (by omega) (by omega)]; omega), ck_nI hj (by omega), nI_clamp hj2]
        · rw [z_split (by omega) h0, Option.bind_some, ck_nI (show v < 512 by omega) (by omega), nI_clamp (show v < 2 ^ 31 by omega)]
          simp only [nm_eq, nI_1]
          rfl
    have e2 : L_X6_cover_1 (nI j) FU 1 false g (vp_updL nx 0 0) = K2 s2 := by
      rw [hs2]
      refine lp_sfo1 (L := fun m v (s : Bool × (Nat → Int64)) => L_X6_cover_1 (nI j) m (nI v) s.1 g s.2) (S := 2 ^ N - 1) (f := cvs (G j)) (K := K2) (2 ^ N - 1 + 1) (fun m s => ?_) (fun m v s h0 hv => ?_) (2 ^ N - 1) 1 FU (false, vp_updL nx 0 0) (by omega) (by omega) (by rw [FU_eq]; omega)
      · show B_X6_cover_1 _ _ _ _ _ _ = _
        rw [B_X6_cover_1, R.all, Option.bind_some, if_pos (by rw [ltI (by omega) (by omega)]; omega), hK2]
        dsimp only
        cases s.1
        · rw [z_takes h4 h2 hj]; rfl
        · rw [z_takesB]; rfl
      · show B_X6_cover_1 _ _ _ _ _ _ = _
        rw [if_pos (and_all (by omega)), B_X6_cover_1, R.all, Option.bind_some, if_neg (by rw [ltI (by omega) (by omega)]; omega)]
        · rw [z_covered R hj (by omega) h0, Option.bind_some, ck_nI (show v < 512 by omega) (by omega), nI_clamp (show v < 2 ^ 31 by omega)]
          simp only [nm_eq, nI_1]
          rfl
    have hrel : s1.1 = s2.1 ∧ s1.2 0 = 0 ∧ ∀ d, d < 2 ^ N → s1.2 d = s2.2 d := by
      have := sfo_rel (S := 2 ^ N - 1) (f := cvs (G j)) (f' := cvs (G j)) (Rel := fun v (s s' : Bool × (Nat → Int64)) => 1 ≤ v ∧ s.1 = s'.1 ∧ s.2 0 = 0 ∧ ∀ d, d < v → s.2 d = s'.2 d) (2 ^ N) (fun v s s' hv hs hr => by
        obtain ⟨r1, r2, r3, r4⟩ := hr
        have he : cvb (G j) s.2 v s.1 = cvb (G j) s'.2 v s'.1 := by
          rw [r2]
          exact cvb_congr (by omega) (by omega) r4 _
        refine ⟨by omega, ?_, ?_, fun d hd => ?_⟩
        · show (cvb (G j) s.2 v s.1).2 = (cvb (G j) s'.2 v s'.1).2
          rw [he]
        · show vp_updL s.2 v _ 0 = 0
          rw [pk_uLn (by omega)]; exact r3
        · show vp_updL s.2 v (cvb (G j) s.2 v s.1).1 d = vp_updL s'.2 v (cvb (G j) s'.2 v s'.1).1 d
          rw [he]
          by_cases e : d = v
          · subst e
            rw [pk_uLs, pk_uLs]
          · rw [pk_uLn e, pk_uLn e]
            exact r4 d (by omega)) (fun v s s' hv hs hr => absurd (and_all (by omega)) hs) (2 ^ N - 1) 1 (false, vp_updL wk 0 0) (false, vp_updL nx 0 0) (by omega) ⟨by omega, rfl, (show vp_updL wk 0 0 0 = 0 from pk_uLs), fun d hd => by
          have : d = 0 := by omega
          subst this
          show vp_updL wk 0 0 0 = vp_updL nx 0 0 0
          rw [pk_uLs, pk_uLs]⟩
      rw [← hs1, ← hs2] at this
      exact this.2
    rw [hK1] at e1
    rw [hK2] at e2
    dsimp only at e1 e2
    cases hb : s2.1
    · rw [hrel.1, hb, if_neg (by decide)] at e1
      rw [hb, if_neg (by decide)] at e2
      have hc := R.cng hj s1.2 (wk := s1.2) (nx := s2.2) (fun _ _ => rfl) (fun s hs => (hrel.2.2 s hs).symm)
      rw [← hc] at e2
      exact ⟨_, _, _, _, _, _, _, e1, e2, R.made hj s1.2 hrel.2.1 (fun _ _ => rfl) (fun s hs => (hrel.2.2 s hs).symm)⟩
    · rw [hrel.1, hb, if_pos rfl] at e1
      rw [hb, if_pos rfl] at e2
      exact ⟨_, _, _, _, _, _, _, e1, e2, R⟩
  · rw [if_neg c0, if_neg c0]
    exact ⟨_, _, _, _, _, _, _, rfl, rfl, R⟩
end OPL
