/-! PURE PART: unite. -/
/-- the labels of unions -/
def LB (N : Nat) (g : Nat → Int64) (l : Nat → Nat) : Prop := g 0 = lN N ∧ ∀ p, p < N → g (12 + p) = lN (l p) ∧ l p ≤ 9
theorem z_label {N : Nat} {g : Nat → Int64} {l : Nat → Nat} (H : LB N g l) (hN : N ≤ 9) {p : Nat} (hp : p < N) : f_X6_unionOf g (nI p) = some (nI (l p)) := by
  simp only [f_X6_unionOf]
  rw [show (12 : Int32) = nI 12 from rfl, nI_add, ck_nI (by omega) (by omega), nI_clamp (by omega), (H.2 p hp).1, lN_i]
def lea (N : Nat) (l : Nat → Nat) (c : Nat) (t : Nat) : Int32 := fstF (fun i => if l i = c then some (nI i) else none) (-1) t (N - t)
theorem lea_s {N : Nat} {l : Nat → Nat} {c t : Nat} (h : t < N) : lea N l c t = if l t = c then nI t else lea N l c (t + 1) := by
  unfold lea
  rw [show N - t = (N - (t + 1)) + 1 from by omega, fstF]
  by_cases e : l t = c <;> simp [e]
theorem lea_at {N : Nat} {l : Nat → Nat} {c : Nat} {p : Nat} (hp : p < N) (h : l p = c) : ∀ d t, t + d = p → ∃ m, t ≤ m ∧ m ≤ p ∧ l m = c ∧ lea N l c t = nI m ∧ ∀ j, t ≤ j → j < m → l j ≠ c
  | 0, t, e => by
    have : t = p := by omega
    subst this
    exact ⟨t, Nat.le_refl _, Nat.le_refl _, h, by rw [lea_s hp, if_pos h], fun j h1 h2 => by omega⟩
  | d + 1, t, e => by
    by_cases c1 : l t = c
    · exact ⟨t, Nat.le_refl _, by omega, c1, by rw [lea_s (by omega), if_pos c1], fun j h1 h2 => by omega⟩
    · obtain ⟨m, h1, h2, h3, h4, h5⟩ := lea_at hp h d (t + 1) (by omega)
      refine ⟨m, by omega, h2, h3, by rw [lea_s (by omega), if_neg c1, h4], fun j z1 z2 => ?_⟩
      by_cases e2 : j = t
      · subst e2; exact c1
      · exact h5 j (by omega) z2
def relab (l : Nat → Nat) (c m : Nat) : Nat → Nat := fun p => if l p = c then m else l p
theorem z_names {N : Nat} {g : Nat → Int64} {l : Nat → Nat} (H : LB N g l) (hN : N ≤ 9) (c : Nat) (hc : c ≤ 9) : ∃ m g', f_X6_names g (nI c) = some g' ∧ LB N g' (relab l c m) ∧ (∀ k, k < 12 ∨ 12 + N ≤ k → g' k = g k) ∧ ∀ p, p < N → l p = c → m ≤ p ∧ l m = c := by
  have h0 := H.1
  obtain ⟨w, hw⟩ : ∃ w, w = lea N l c 0 := ⟨_, rfl⟩
  obtain ⟨m, hm1, hm2⟩ : ∃ m : Nat, m ≤ 9 ∧ ∀ p, p < N → l p = c → m ≤ p ∧ l m = c ∧ w = nI m := by
    by_cases h : ∃ p, p < N ∧ l p = c
    · obtain ⟨p, hp, hc⟩ := h
      obtain ⟨m, -, e2, e3, e4, e5⟩ := lea_at hp hc p 0 (by omega)
      refine ⟨m, by omega, fun q hq hqc => ⟨?_, e3, hw.trans e4⟩⟩
      rcases Nat.lt_or_ge q m with z | z
      · exact absurd hqc (e5 q (by omega) z)
      · exact z
    · exact ⟨0, by omega, fun p hp hc => absurd ⟨p, hp, hc⟩ h⟩
  have e1 : ∀ (kx : Int32 → Option (Nat → Int64)) (t m : Nat), t ≤ N → t < m → L_X6_names_1 g (nI c) kx m (lea N l c t) (nI t - 1) = kx w := by
    intro kx t
    induction t with
    | zero =>
      intro m _ hm
      obtain ⟨m, rfl⟩ : ∃ k, m = k + 1 := ⟨m - 1, by omega⟩
      show B_X6_names_1 _ _ _ _ _ _ = _
      rw [B_X6_names_1, if_pos (by decide), hw]
    | succ t ih =>
      intro m ht hm
      obtain ⟨m, rfl⟩ : ∃ k, m = k + 1 := ⟨m - 1, by omega⟩
      have ih := ih m (by omega) (by omega)
      show B_X6_names_1 _ _ _ _ _ _ = _
      have hl := (H.2 t (by omega)).2
      rw [B_X6_names_1, nI_m1 (by omega), Nat.add_sub_cancel, if_neg (nI_pos (by omega)), z_label H hN (by omega), Option.bind_some]
      simp only [jn1_eq, nm_eq, eqI (show l t < 2 ^ 31 by omega) (show c < 2 ^ 31 by omega)]
      rw [show nI t + -1 = nI t - 1 from (Int32.sub_eq_add_neg _ _).symm]
      rw [lea_s (by omega)] at ih
      by_cases e : l t = c
      · rw [if_pos e] at ih ⊢
        exact ih
      · rw [if_neg e] at ih ⊢
        exact ih
  obtain ⟨gi, hgi⟩ : ∃ gi : Nat → Nat → Int64, gi = fun i k => if 12 ≤ k ∧ k < 12 + i ∧ l (k - 12) = c then lN m else g k := ⟨_, rfl⟩
  have hgo : ∀ i k, 12 + i ≤ k → gi i k = g k := fun i k h => by
    rw [hgi]; exact if_neg (by omega)
  have hg0 : ∀ i, gi i 0 = lN N := fun i => by
    rw [hgi]; exact (if_neg (by omega)).trans h0
  have e2 : L_X6_names_2 (nI c) w FU 0 g = some (gi N) := by
    have eg2 : g = gi 0 := by
      funext k
      rw [hgi]
      exact (if_neg (by omega)).symm
    refine (congrArg (L_X6_names_2 (nI c) w FU 0) eg2).trans ?_
    refine lp_cf (L := fun m' i => L_X6_names_2 (nI c) w m' (nI i) (gi i)) N (fun m' => ?_) (fun m' i hi => ?_) N 0 FU (by omega) (by rw [FU_eq]; omega)
    · show B_X6_names_2 _ _ _ _ _ = _
      rw [B_X6_names_2, z_nM (hg0 N), Option.bind_some, if_neg (by rw [ltI (by omega) (by omega)]; omega)]
    · show B_X6_names_2 _ _ _ _ _ = _
      have hl := (H.2 i hi).2
      have hu : f_X6_unionOf (gi i) (nI i) = some (nI (l i)) := by
        simp only [f_X6_unionOf]
        rw [show (12 : Int32) = nI 12 from rfl, nI_add, ck_nI (by omega) (by omega), nI_clamp (by omega), hgo i _ (by omega), (H.2 i hi).1, lN_i]
      rw [B_X6_names_2, z_nM (hg0 i), Option.bind_some, if_pos (by rw [ltI (by omega) (by omega)]; omega), hu, Option.bind_some]
      simp only [jn1_eq, nm_eq, nI_1, eqI (show l i < 2 ^ 31 by omega) (show c < 2 ^ 31 by omega)]
      by_cases e : l i = c
      · rw [if_pos e, show (12 : Int32) = nI 12 from rfl, nI_add, ck_nI (by omega) (by omega), nI_clamp (by omega), (hm2 i hi e).2.2, nI_l (by omega)]
        congr 1
        funext k
        by_cases ek : k = 12 + i
        · subst ek
          rw [pk_uLs, hgi]
          dsimp only
          rw [if_pos ⟨by omega, by omega, by rw [Nat.add_sub_cancel_left]; exact e⟩]
        · rw [pk_uLn ek, hgi]
          dsimp only
          have : (12 ≤ k ∧ k < 12 + i ∧ l (k - 12) = c) = (12 ≤ k ∧ k < 12 + (i + 1) ∧ l (k - 12) = c) := propext (by
            constructor
            · rintro ⟨z1, z2, z3⟩; exact ⟨z1, by omega, z3⟩
            · rintro ⟨z1, z2, z3⟩; exact ⟨z1, by omega, z3⟩)
          simp only [this]
      · rw [if_neg e]
        congr 1
        funext k
        rw [hgi]
        dsimp only
        by_cases ek : k = 12 + i
        · subst ek
          rw [if_neg (by omega), if_neg (by
            rintro ⟨z1, z2, z3⟩
            rw [Nat.add_sub_cancel_left] at z3
            exact e z3)]
        · have : (12 ≤ k ∧ k < 12 + i ∧ l (k - 12) = c) = (12 ≤ k ∧ k < 12 + (i + 1) ∧ l (k - 12) = c) := propext (by
            constructor
            · rintro ⟨z1, z2, z3⟩; exact ⟨z1, by omega, z3⟩
            · rintro ⟨z1, z2, z3⟩; exact ⟨z1, by omega, z3⟩)
          simp only [this]
  refine ⟨m, gi N, ?_, ⟨hg0 N, fun p hp => ?_⟩, fun k hk => ?_, fun p hp h => ⟨(hm2 p hp h).1, (hm2 p hp h).2.1⟩⟩
  · rw [f_X6_names, z_nM h0, Option.bind_some]
    simp only [nm_eq]
    have hl : (-1 : Int32) = lea N l c N := by
      unfold lea
      rw [Nat.sub_self]; rfl
    rw [hl, e1 _ N FU (by omega) (by rw [FU_eq]; omega)]
    exact e2
  · have h1 := H.2 p hp
    rw [hgi]
    dsimp only
    unfold relab
    rw [Nat.add_sub_cancel_left]
    by_cases e : l p = c
    · rw [if_pos ⟨by omega, by omega, e⟩, if_pos e]
      exact ⟨rfl, hm1⟩
    · rw [if_neg (fun z => e z.2.2), if_neg e]
      exact h1
  · rw [hgi]
    exact if_neg (by omega)
/-- all labels but c and d are the least of theirs -/
def gd2 (N c d : Nat) (l : Nat → Nat) : Prop := ∀ p, p < N → l p ≠ c → l p ≠ d → l p ≤ p ∧ l (l p) = l p
theorem gd2_names {N c d m : Nat} {l : Nat → Nat} (h : gd2 N c d l) (hm : ∀ p, p < N → l p = c → m ≤ p ∧ l m = c) (hd : ∀ q, q < N → l q = c → q ≠ d ∨ c = d) : gd2 N d d (relab l c m) ∧ ∀ p q, p < N → q < N → (relab l c m p = relab l c m q ↔ l p = l q) := by
  refine ⟨fun p hp h1 _ => ?_, fun p q hp hq => ?_⟩
  · unfold relab at h1 ⊢
    by_cases e : l p = c
    · have := hm p hp e
      simp only [if_pos e, if_pos this.2]
      exact ⟨this.1, trivial⟩
    · simp only [if_neg e] at h1 ⊢
      have := h p hp e h1
      rw [this.2, if_neg e]
      exact ⟨this.1, rfl⟩
  · have key : ∀ p q, p < N → q < N → l p = c → l q ≠ c → m ≠ l q := fun p q hp hq e1 e2 e3 => by
      have h1 := hm p hp e1
      rcases hd m (by omega) h1.2 with z | z
      · have h2 := h q hq e2 (fun y => z (e3.trans y))
        rw [← e3, h1.2] at h2
        exact e2 (by rw [← e3]; exact h2.2.symm)
      · have h2 := h q hq e2 (fun y => e2 (y.trans z.symm))
        rw [← e3, h1.2] at h2
        exact e2 (by rw [← e3]; exact h2.2.symm)
    unfold relab
    by_cases e1 : l p = c <;> by_cases e2 : l q = c
    · simp [e1, e2]
    · simp only [if_pos e1, if_neg e2]
      exact ⟨fun z => absurd z (key p q hp hq e1 e2), fun z => absurd (z.symm.trans e1) e2⟩
    · simp only [if_neg e1, if_pos e2]
      exact ⟨fun z => absurd z.symm (key q p hq hp e2 e1), fun z => absurd (z.trans e2) e1⟩
    · simp only [if_neg e1, if_neg e2]
section OPI
variable {N : Nat} {n nd es : Int32} {wt un ed : Nat → Int32} {G : Nat → Nat → Int64} {g : Nat → Int64}
theorem RG.setU (R : RG N n nd es wt un ed G g) {un' : Nat → Int32} {g' : Nat → Int64} (hg : ∀ k, k < 12 ∨ 12 + N ≤ k → g' k = g k) (hU : RU N un' g') : RG N n nd es wt un' ed G g' := by
  obtain ⟨⟨h1, h2, h3, h4⟩, ⟨Q, q1, q2, q3⟩, ⟨E, x1, x2, x3⟩, ⟨W, hW⟩, -, hE, hV1, hV2⟩ := R
  refine ⟨⟨h1, h2, h3, by rw [hg _ (by omega)]; exact h4⟩, ⟨Q, q1, q2, by rw [hg _ (by omega)]; exact q3⟩, ⟨E, x1, x2, by rw [hg _ (by omega)]; exact x3⟩, ⟨W, fun p hp => ?_⟩, hU, fun e he => ?_, fun j hj s hs => ?_, hV2⟩
  · rw [hg _ (by omega)]; exact hW p hp
  · rw [hg _ (by omega), hg _ (by omega)]; exact hE e he
  · rw [hg _ (by omega)]; exact hV1 j hj s hs
theorem z_bring (hN : N ≤ 9) {U : Nat → Nat} (hu : ∀ p, p < N → un p = nI (U p) ∧ U p < 2 ^ N) {a b : Nat} (ha : a < N) (hb : b < N) : ∃ un', f_X0_bringTogether (nI N) un (nI a) (nI b) = some un' ∧ ∀ p, p < N → un' p = nI (if (2 ^ a ||| if a = b then 0 else dif (U b) (2 ^ a)).testBit p = true then (2 ^ a ||| if a = b then 0 else dif (U b) (2 ^ a)) else dif (U p) (2 ^ a)) := by
  have hpw := pw_le hN
  have h2a : 2 ^ a < 2 ^ N := Nat.pow_lt_pow_right (by omega) ha
  have hUb := (hu b hb).2
  have hdb := dif_le (a := U b) (b := 2 ^ a)
  obtain ⟨x, hx⟩ : ∃ x, x = 2 ^ a ||| if a = b then 0 else dif (U b) (2 ^ a) := ⟨_, rfl⟩
  have hxl : x < 2 ^ N := by
    rw [hx]
    refine Nat.or_lt_two_pow h2a ?_
    split <;> omega
  rw [← hx]
  obtain ⟨u1, hu1⟩ : ∃ u1 : Nat → Nat → Int32, u1 = fun i p => if p < i then nI (dif (U p) (2 ^ a)) else un p := ⟨_, rfl⟩
  obtain ⟨u2, hu2⟩ : ∃ u2 : Nat → Nat → Int32, u2 = fun i p => if p < i ∧ x.testBit p = true then nI x else u1 N p := ⟨_, rfl⟩
  refine ⟨u2 N, ?_, fun p hp => ?_⟩
  · have e0 : un = u1 0 := by
      rw [hu1]; funext p; exact (if_neg (by omega)).symm
    rw [f_X0_bringTogether]
    refine (congrArg (L_X0_bringTogether_1 (nI N) (nI a) _ FU 0) e0).trans ?_
    refine lp_cf (L := fun m i => L_X0_bringTogether_1 (nI N) (nI a) _ m (nI i) (u1 i)) N (fun m => ?_) (fun m i hi => ?_) N 0 FU (by omega) (by rw [FU_eq]; omega)
    · show B_X0_bringTogether_1 _ _ _ _ _ _ = _
      rw [B_X0_bringTogether_1, if_neg (by rw [ltI (by omega) (by omega)]; omega)]
      have ex : (if nI a = nI b then nI 0 else nI (dif (U b) (2 ^ a))) = nI (if a = b then 0 else dif (U b) (2 ^ a)) := by
        simp only [eqI (show a < 2 ^ 31 by omega) (show b < 2 ^ 31 by omega)]
        split <;> rfl
      have eb : u1 N b = nI (dif (U b) (2 ^ a)) := by rw [hu1]; exact if_pos hb
      have e1 : u1 N = u2 0 := by
        rw [hu2]; funext p; exact (if_neg (by omega)).symm
      have e2 : L_X0_bringTogether_2 (nI N) (nI x) FU 0 (u1 N) = some (u2 N) := by
        refine (congrArg (L_X0_bringTogether_2 (nI N) (nI x) FU 0) e1).trans ?_
        refine lp_cf (L := fun m i => L_X0_bringTogether_2 (nI N) (nI x) m (nI i) (u2 i)) N (fun m => ?_) (fun m i hi => ?_) N 0 FU (by omega) (by rw [FU_eq]; omega)
        · show B_X0_bringTogether_2 _ _ _ _ _ = _
          rw [B_X0_bringTogether_2, if_neg (by rw [ltI (by omega) (by omega)]; omega)]
        · show B_X0_bringTogether_2 _ _ _ _ _ = _
          rw [B_X0_bringTogether_2, if_pos (by rw [ltI (by omega) (by omega)]; omega), z_has (by omega) (by omega), Option.bind_some]
          simp only [jn1_eq, nm_eq, nI_1]
          rw [ck_nI (show i < 9 by omega) (by omega), nI_clamp (by omega)]
          by_cases c : x.testBit i = true
          · rw [if_pos c]
            congr 1
            funext p
            by_cases ep : p = i
            · subst ep
              rw [pk_us, hu2]
              exact (if_pos ⟨by omega, c⟩).symm
            · rw [pk_un ep, hu2]
              have : (p < i) = (p < i + 1) := propext (by omega)
              simp only [this]
          · rw [if_neg c]
            congr 1
            funext p
            rw [hu2]
            dsimp only
            by_cases ep : p = i
            · subst ep
              rw [if_neg (fun z => c z.2), if_neg (fun z => c z.2)]
            · have : (p < i) = (p < i + 1) := propext (by omega)
              simp only [this]
      simp only [jn1_eq, nm_eq]
      rw [shl_pw (by omega), ck_nI (show b < 9 by omega) (by omega), nI_clamp (by omega), eb, nI_zero, nI_or, nI_or]
      simp only [eqI (show a < 2 ^ 31 by omega) (show b < 2 ^ 31 by omega)]
      rw [← e2, hx]
      split <;> rfl
    · show B_X0_bringTogether_1 _ _ _ _ _ _ = _
      rw [B_X0_bringTogether_1, if_pos (by rw [ltI (by omega) (by omega)]; omega), ck_nI (show i < 9 by omega) (by omega), ck_nI (show i < 9 by omega) (by omega), nI_clamp (by omega)]
      simp only [nm_eq, nI_1]
      have ei : u1 i i = nI (U i) := by rw [hu1]; exact (if_neg (by omega)).trans (hu i hi).1
      rw [ei, shl_pw (by omega), nI_dif]
      congr 1
      funext p
      by_cases ep : p = i
      · subst ep
        rw [pk_us, hu1]
        exact (if_pos (by omega)).symm
      · rw [pk_un ep, hu1]
        have : (p < i) = (p < i + 1) := propext (by omega)
        simp only [this]
  · rw [hu2, hu1]
    dsimp only
    by_cases c : x.testBit p = true
    · rw [if_pos ⟨hp, c⟩, if_pos c]
    · rw [if_neg (fun z => c z.2), if_neg c, if_pos hp]
theorem o_unite (R : RG N n nd es wt un ed G g) (a1 a2 : Int32) : ∃ r un' g', f_X5_unite n un a1 a2 = some (r, un') ∧ f_X6_unite g a1 a2 = some (r, g') ∧ RG N n nd es wt un' ed G g' := by
  obtain ⟨h1, h2, h3, h4⟩ := id R.1
  subst h3
  have hpw := pw_le h2
  rw [f_X5_unite, f_X6_unite, z_hasPartner h2, z_hasPartner h2, z_isPartnerM h4 h1 h2, z_isPartnerM h4 h1 h2]
  simp only [Option.bind_some]
  by_cases c0 : inb a1 N = true
  · rw [if_pos c0, if_pos c0]
    by_cases c1 : inb a2 N = true
    · rw [if_pos c1, if_pos c1]
      obtain ⟨a, ha, ha2, rfl⟩ := inb_of c0
      obtain ⟨b, hb, hb2, rfl⟩ := inb_of c1
      obtain ⟨L, U, hU⟩ := R.2.2.2.2.1
      have HL : LB N g L := ⟨h4, fun p hp => ⟨(hU p hp).2.2.1, by have := (hU p hp).1; omega⟩⟩
      obtain ⟨v, hv⟩ : ∃ v, v = if a = b then 9 else L b := ⟨_, rfl⟩
      have hLb := (hU b hb).1
      have hv9 : v ≤ 9 := by rw [hv]; split <;> omega
      obtain ⟨l1, hl1⟩ : ∃ l1 : Nat → Nat, l1 = fun p => if p = a then v else L p := ⟨_, rfl⟩
      obtain ⟨g1, hg1⟩ : ∃ g1, g1 = vp_updL g (12 + a) (lN v) := ⟨_, rfl⟩
      have H1 : LB N g1 l1 := by
        refine ⟨by rw [hg1, pk_uLn (by omega)]; exact h4, fun p hp => ?_⟩
        rw [hg1, hl1]
        dsimp only
        by_cases e : p = a
        · subst e
          rw [pk_uLs, if_pos rfl]
          exact ⟨rfl, hv9⟩
        · rw [pk_uLn (by omega), if_neg e]
          exact HL.2 p hp
      obtain ⟨m1, g2, n1, H2, k1, hm1⟩ := z_names H1 h2 (L a) (HL.2 a ha).2
      obtain ⟨m2, g3, n2, H3, k2, hm2⟩ := z_names H2 h2 v hv9
      have G1 : gd2 N (L a) v l1 := fun p hp e1 e2 => by
        rw [hl1] at e1 e2 ⊢
        dsimp only at e1 e2 ⊢
        by_cases e : p = a
        · rw [if_pos e] at e2
          exact absurd rfl e2
        · rw [if_neg e] at e1 e2 ⊢
          have := hU p hp
          have hla : ¬ L p = a := fun z => e1 (by have := this.2.1; rw [z] at this; exact this.symm ▸ z)
          rw [if_neg hla]
          exact ⟨this.1, this.2.1⟩
      have D1 : ∀ q, q < N → l1 q = L a → q ≠ v ∨ L a = v := fun q hq e1 => by
        by_cases z : q = v
        · right
          rw [hl1] at e1
          dsimp only at e1
          by_cases e : q = a
          · rw [if_pos e] at e1
            exact e1.symm
          · rw [if_neg e] at e1
            have hab : ¬ a = b := fun y => by
              rw [if_pos y] at hv
              omega
            rw [if_neg hab] at hv
            have := (hU b hb).2.1
            rw [← hv, ← z] at this
            rw [← e1, this, z]
        · exact Or.inl z
      obtain ⟨G2, K2⟩ := gd2_names G1 hm1 D1
      obtain ⟨G3, K3⟩ := gd2_names (c := v) (d := v) G2 hm2 (fun q hq _ => Or.inr rfl)
      obtain ⟨l3, hl3⟩ : ∃ l3, l3 = relab (relab l1 (L a) m1) v m2 := ⟨_, rfl⟩
      rw [← hl3] at H3 G3 K3
      have hker : ∀ p q, p < N → q < N → (l3 p = l3 q ↔ l1 p = l1 q) := fun p q hp hq => (K3 p q hp hq).trans (K2 p q hp hq)
      have hlea : ∀ p, p < N → l3 p ≤ p ∧ l3 (l3 p) = l3 p := fun p hp => by
        by_cases hr : relab l1 (L a) m1 p = v
        · have := hm2 p hp hr
          have e3 : l3 p = m2 := by rw [hl3]; unfold relab; exact if_pos hr
          have e4 : l3 m2 = m2 := by rw [hl3]; unfold relab; exact if_pos this.2
          rw [e3]
          exact ⟨this.1, e4⟩
        · have e3 : l3 p = relab l1 (L a) m1 p := by rw [hl3]; unfold relab; exact if_neg hr
          have e4 : l3 p ≠ v := fun z => hr (e3.symm.trans z)
          exact G3 p hp e4 e4
      obtain ⟨un', eu, hun⟩ := z_bring (a := a) (b := b) h2 (fun p hp => ⟨(hU p hp).2.2.2.1, (hU p hp).2.2.2.2.1⟩) ha hb
      obtain ⟨x, hx⟩ : ∃ x, x = 2 ^ a ||| if a = b then 0 else dif (U b) (2 ^ a) := ⟨_, rfl⟩
      rw [← hx] at hun
      have h2a : 2 ^ a < 2 ^ N := Nat.pow_lt_pow_right (by omega) ha
      have hUb := (hU b hb).2.2.2.2.1
      have hdb := dif_le (a := U b) (b := 2 ^ a)
      have hxl : x < 2 ^ N := by
        rw [hx]
        refine Nat.or_lt_two_pow h2a ?_
        split <;> omega
      have hxb : ∀ i, x.testBit i = (decide (i < N) && decide (l1 i = v)) := fun i => by
        rw [hx, Nat.testBit_or, tb2, hl1, hv]
        dsimp only
        by_cases e : a = i
        · subst e
          simp [ha]
        · have e' : ¬ i = a := fun z => e z.symm
          rw [decide_eq_false e, Bool.false_or]
          simp only [if_neg e']
          by_cases hab : a = b
          · simp only [if_pos hab, Nat.zero_testBit]
            by_cases hi : i < N
            · have := (hU i hi).1
              have : ¬ L i = 9 := by omega
              simp [this]
            · simp [hi]
          · simp only [if_neg hab]
            rw [dif_bit (by omega), (hU b hb).2.2.2.2.2, tb2]
            simp [e]
      have RU' : RU N un' g3 := by
        refine ⟨l3, fun p => if x.testBit p = true then x else dif (U p) (2 ^ a), fun p hp => ⟨(hlea p hp).1, (hlea p hp).2, (H3.2 p hp).1, hun p hp, ?_, fun i => ?_⟩⟩
        · have := (hU p hp).2.2.2.2.1
          have := dif_le (a := U p) (b := 2 ^ a)
          show (if x.testBit p = true then x else dif (U p) (2 ^ a)) < 2 ^ N
          split <;> omega
        · show (if x.testBit p = true then x else dif (U p) (2 ^ a)).testBit i = _
          by_cases hi : i < N
          · have hk : (l3 i = l3 p) = (l1 i = l1 p) := propext (hker i p hi hp)
            rw [decide_eq_true hi, Bool.true_and]
            simp only [hk]
            have hxp := hxb p
            rw [decide_eq_true hp, Bool.true_and] at hxp
            by_cases c : l1 p = v
            · rw [decide_eq_true c] at hxp
              rw [if_pos hxp, hxb, decide_eq_true hi, Bool.true_and, c]
            · rw [decide_eq_false c] at hxp
              rw [if_neg (by rw [hxp]; decide)]
              have hpa : ¬ p = a := fun z => c (by rw [hl1]; exact if_pos z)
              have hlp : l1 p = L p := by rw [hl1]; exact if_neg hpa
              have := (hU p hp).2.2.2.2.1
              rw [dif_bit (by omega), (hU p hp).2.2.2.2.2, tb2, decide_eq_true hi, Bool.true_and]
              by_cases e : a = i
              · subst e
                have hli : l1 a = v := by rw [hl1]; exact if_pos rfl
                have : ¬ v = l1 p := fun z => c z.symm
                rw [hli]
                simp [this]
              · have hli : l1 i = L i := by rw [hl1]; exact if_neg (fun z => e z.symm)
                rw [hli, hlp, decide_eq_false e]
                simp
          · rw [decide_eq_false hi, Bool.false_and]
            have hz : ∀ s : Nat, s < 2 ^ N → s.testBit i = false := fun s hs => by
              cases c : s.testBit i
              · rfl
              · exact absurd (bit_lt hs c) hi
            have := (hU p hp).2.2.2.2.1
            have := dif_le (a := U p) (b := 2 ^ a)
            split
            · exact hz _ hxl
            · exact hz _ (by omega)
      have R' : RG N (nI N) nd es wt un' ed G g3 := R.setU (fun k hk => by
        rw [k2 k hk, k1 k hk, hg1, pk_uLn (by omega)]) RU'
      obtain ⟨t, t1, t2, -⟩ := z_unionOf RU' h2 ha
      refine ⟨nI t, un', g3, ?_, ?_, R'⟩
      · rw [eu, Option.bind_some, ck_nI (show a < 9 by omega) (by omega), nI_clamp ha2, t2, Option.bind_some]
      · rw [z_label HL h2 ha, Option.bind_some, z_label HL h2 hb]
        simp only [jn1_eq, nm_eq, Option.bind_some]
        have ev : (if nI a = nI b then (9 : Int32) else nI (L b)) = nI v := by
          simp only [eqI (show a < 2 ^ 31 by omega) (show b < 2 ^ 31 by omega)]
          rw [hv]
          split <;> rfl
        have e5 : ∀ w : Int32, w = nI v → ck (inb (12 + nI a) 2231) (Option.bind (f_X6_names (vp_updL g (12 + nI a).toNatClampNeg w.toInt64) (nI (L a))) fun r7 => Option.bind (f_X6_names r7 w) fun r8 => Option.bind (f_X6_unionOf r8 (nI a)) fun r9 => some (r9, r8)) = some (nI t, g3) := fun w hw => by
          rw [hw, show (12 : Int32) = nI 12 from rfl, nI_add, ck_nI (by omega) (by omega), nI_clamp (by omega), nI_l (by omega), ← hg1, n1, Option.bind_some, n2, Option.bind_some, t1, Option.bind_some]
        by_cases hab : nI a = nI b
        · rw [if_pos hab] at ev ⊢
          exact e5 _ ev
        · rw [if_neg hab] at ev ⊢
          exact e5 _ ev
    · rw [if_neg c1, if_neg c1]
      exact ⟨_, _, _, rfl, rfl, R⟩
  · rw [if_neg c0, if_neg c0]
    exact ⟨_, _, _, rfl, rfl, R⟩
end OPI
