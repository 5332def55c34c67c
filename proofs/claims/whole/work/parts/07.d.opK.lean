/-! PURE PART: dividend, cover. -/
theorem z_lessDiv' {S : Nat} (hS : S < 512) (T : Nat → Int64) (x : Int64) (b : Bool) : f_X5_lessItsDividends b T x (nI S) = some (dvi T S x b) := by
  by_cases h : 0 < S
  · exact z_lessDiv hS h T x b
  · have : S = 0 := by omega
    subst this
    rw [f_X5_lessItsDividends]
    show B_X5_lessItsDividends_1 _ _ _ _ _ _ _ = _
    rw [B_X5_lessItsDividends_1, z_bitCount (by omega), Option.bind_some, if_neg (by decide)]
    rfl
def dvm (T : Nat → Int64) (S : Nat) (x : Int64) (b : Bool) : Int64 × Bool := sfo S (dvf T) 0 S (x, b)
theorem z_divOf' {S : Nat} (hS : S < 512) (nx : Nat → Int64) (x : Int64) (b : Bool) : L_X6_dividendOf_1 nx (nI S) FU x 0 b = some (dvm nx S x b) := by
  refine lp_sfo (L := fun m v (s : Int64 × Bool) => L_X6_dividendOf_1 nx (nI S) m s.1 (nI v) s.2) (S := S) (f := dvf nx) (K := some) S (fun m s => ?_) (fun m v s hv => ?_) S 0 FU (x, b) (by omega) (by rw [FU_eq]; omega)
  · show B_X6_dividendOf_1 _ _ _ _ _ _ = _
    rw [B_X6_dividendOf_1, if_neg (by rw [ltI (by omega) (by omega)]; omega)]
  · show B_X6_dividendOf_1 _ _ _ _ _ _ = _
    rw [B_X6_dividendOf_1, if_pos (by rw [ltI (by omega) (by omega)]; omega), nI_dif]
    have ez : (nI (dif v S) = 0) = (v &&& S = v) := by
      have := dif_le (a := v) (b := S)
      exact propext ((eqI (a := dif v S) (b := 0) (by omega) (by omega) ▸ and_dif (by omega) : _))
    simp only [jn2_eq, nm_eq, nI_1, ez]
    by_cases c : v &&& S = v
    · rw [if_pos c, if_pos c, ck_nI (by omega) (by omega), nI_clamp (by omega), z_minus, Option.bind_some]
      rfl
    · rw [if_neg c, if_neg c]
theorem dvm_eq {T T' : Nat → Int64} {d : Nat} (hd : 0 < d) (h0 : T' 0 = 0) (h : ∀ v, v < d → v &&& d = v → T v = T' v) (x : Int64) (b : Bool) : dvi T d x b = dvm T' d x b := by
  obtain ⟨k, rfl⟩ : ∃ k, d = k + 1 := ⟨d - 1, by omega⟩
  rw [dvi, dvm, Nat.add_sub_cancel]
  show _ = sfo (k + 1) (dvf T') 1 k (if 0 &&& (k + 1) = 0 then dvf T' 0 (x, b) else (x, b))
  have e : dvf T' 0 (x, b) = (x, b) := by
    have h1 : ovm x 0 = false := by
      rw [ovm_iff, Int64.sub_zero, Int64.toInt_zero]; omega
    rw [dvf, h0]
    dsimp only
    rw [h1, Bool.or_false, Int64.sub_zero]
  rw [if_pos (Nat.zero_and _), e]
  exact sfo_rel (Rel := fun _ s s' => s = s') (k + 1) (fun v s s' hv hs hr => by
    subst hr
    show dvf T v s = dvf T' v s
    rw [dvf, dvf, h v hv hs]) (fun v s s' _ _ hr => hr) k 1 _ _ (by omega) rfl
section OPK
variable {N : Nat} {n nd es : Int32} {wt un ed : Nat → Int32} {G : Nat → Nat → Int64} {g : Nat → Int64}
def dof (V : Nat → Int64) (d : Nat) (s : Bool × (Nat → Int64)) : Bool × (Nat → Int64) := ((dvi s.2 d (V d) s.1).2, vp_updL s.2 d (dvi s.2 d (V d) s.1).1)
def dom (V : Nat → Int64) (d : Nat) (s : Bool × (Nat → Int64)) : Bool × (Nat → Int64) := ((dvm s.2 d (V d) s.1).2, vp_updL s.2 d (dvm s.2 d (V d) s.1).1)
def dend (A : Nat) (s : Bool × (Nat → Int64)) : Option (Int64 × Bool × (Nat → Int64)) := if s.1 = true then some (-9223372036854775808, s.1, s.2) else some (s.2 A, s.1, s.2)
theorem o_dividend (R : RG N n nd es wt un ed G g) (bey isB : Bool) (wk nx : Nat → Int64) (a1 a2 : Int32) : ∃ r b1 w1 b2 w2, f_X5_dividend n bey G wk a1 a2 = some (r, b1, w1) ∧ f_X6_dividend isB g nx a1 a2 = some (r, b2, w2) := by
  obtain ⟨h1, h2, h3, h4⟩ := id R.1
  subst h3
  have hpw := pw_le h2
  rw [f_X5_dividend, f_X6_dividend, z_isGame, z_isGameM, Option.bind_some, Option.bind_some, z_hasSet h2, z_isSetM h4 h2, Option.bind_some, Option.bind_some]
  by_cases c0 : inb a1 4 = true
  · rw [if_pos c0, if_pos c0]
    by_cases c1 : inb a2 (2 ^ N) = true
    · rw [if_pos c1, if_pos c1]
      obtain ⟨j, hj, hj2, rfl⟩ := inb_of c0
      obtain ⟨A, hA, hA2, rfl⟩ := inb_of c1
      have hV := R.2.2.2.2.2.2.2 j hj
      have hp := pcn_le A
      have hpp : 2 ^ pcn A ≤ 512 := pw_le hp
      simp only [f_X1_begin, nm_eq, Option.bind_some]
      rw [show inb (0 : Int32) 512 = true from by decide, ck_true, show (0 : Int32).toNatClampNeg = 0 from by decide]
      obtain ⟨s1, hs1⟩ : ∃ s1, s1 = sfo A (dof (G j)) 1 A (false, vp_updL wk 0 0) := ⟨_, rfl⟩
      obtain ⟨s2, hs2⟩ : ∃ s2, s2 = sfo A (dom (G j)) 0 (A + 1) (false, nx) := ⟨_, rfl⟩
      have e1 : L_X5_dividend_1 G (nI j) (nI A) (fun (bey17 : Bool) (wk18 : Nat → Int64) => if bey17 = true then (some ((-9223372036854775808), bey17, wk18)) else (ck (inb (nI A) 512) (some (wk18 (nI A).toNatClampNeg, bey17, wk18)))) FU 0 1 false (vp_updL wk 0 0) = dend A s1 := by
        rw [hs1]
        refine lp_subA (L := fun m (s : Bool × (Nat → Int64)) c n => L_X5_dividend_1 G (nI j) (nI A) _ m (nI c) (nI n) s.1 s.2) (S := A) (f := dof (G j)) (K := dend A) (fun m s c => ?_) (fun m s c n hn hc => ?_) A 1 0 1 FU (false, vp_updL wk 0 0) (wk2_at (by omega)) (by omega) (by rw [FU_eq]; omega)
        · show B_X5_dividend_1 _ _ _ _ _ _ _ _ _ = _
          rw [B_X5_dividend_1, z_bitCount (by omega), Option.bind_some, shl_pw hp, if_neg (by rw [ltI (by omega) (by omega)]; omega), ck_nI (by omega) (by omega), nI_clamp hA2]
          rfl
        · show B_X5_dividend_1 _ _ _ _ _ _ _ _ _ = _
          rw [B_X5_dividend_1, z_bitCount (by omega), Option.bind_some, shl_pw hp, if_pos (by rw [ltI (by omega) (by omega)]; omega), z_next, Option.bind_some, ck_nI hj (by omega), ck_nI (by omega) (by omega), nI_clamp hj2, nI_clamp (by omega), z_lessDiv' (by omega), Option.bind_some]
          simp only [nm_eq, nI_1]
          rw [ck_nI (by omega) (by omega)]
          rfl
      have e2 : L_X6_dividend_1 g (nI j) (nI A) (fun (isB15 : Bool) (nx16 : Nat → Int64) => if isB15 = true then (some ((-9223372036854775808), isB15, nx16)) else (ck (inb (nI A) 512) (some (nx16 (nI A).toNatClampNeg, isB15, nx16)))) FU 0 false nx = dend A s2 := by
        rw [hs2]
        refine lp_sfo (L := fun m v (s : Bool × (Nat → Int64)) => L_X6_dividend_1 g (nI j) (nI A) _ m (nI v) s.1 s.2) (S := A) (f := dom (G j)) (K := dend A) (A + 1) (fun m s => ?_) (fun m v s hv => ?_) (A + 1) 0 FU (false, nx) (by omega) (by rw [FU_eq]; omega)
        · show B_X6_dividend_1 _ _ _ _ _ _ _ _ = _
          rw [B_X6_dividend_1, if_pos (by rw [ltI (by omega) (by omega)]; omega), ck_nI (by omega) (by omega), nI_clamp hA2]
          rfl
        · show B_X6_dividend_1 _ _ _ _ _ _ _ _ = _
          have ez : (nI (dif v A) = 0) = (v &&& A = v) := by
            have := dif_le (a := v) (b := A)
            exact propext ((eqI (a := dif v A) (b := 0) (by omega) (by omega) ▸ and_dif (by omega) : _))
          rw [B_X6_dividend_1, if_neg (by rw [ltI (by omega) (by omega)]; omega), nI_dif]
          simp only [jn2_eq, nm_eq, nI_1, ez, f_X6_dividendOf]
          by_cases c : v &&& A = v
          · rw [if_pos c, if_pos c, R.v hj (by omega), Option.bind_some, z_divOf' (by omega), Option.bind_some, ck_nI (show v < 512 by omega) (by omega), nI_clamp (show v < 2 ^ 31 by omega)]
            rfl
          · rw [if_neg c, if_neg c]
      have hrel : s1.1 = s2.1 ∧ s1.2 A = s2.2 A := by
        have e0 : s2 = sfo A (dom (G j)) 1 A (false, vp_updL nx 0 0) := by
          rw [hs2]
          show sfo A (dom (G j)) 1 A (if 0 &&& A = 0 then dom (G j) 0 (false, nx) else (false, nx)) = _
          rw [if_pos (Nat.zero_and _), dom, dvm]
          dsimp only [sfo]
          rw [hV]
        have := sfo_rel (S := A) (f := dof (G j)) (f' := dom (G j)) (Rel := fun v (s s' : Bool × (Nat → Int64)) => 1 ≤ v ∧ s.1 = s'.1 ∧ s'.2 0 = 0 ∧ ∀ d, d < v → d &&& A = d → s.2 d = s'.2 d) (A + 1) (fun v s s' hv hs hr => by
          obtain ⟨r1, r2, r3, r4⟩ := hr
          have he : dvi s.2 v (G j v) s.1 = dvm s'.2 v (G j v) s'.1 := by
            rw [r2]
            refine dvm_eq (by omega) r3 (fun u hu hud => r4 u hu ?_) _ _
            rw [← hud, Nat.and_assoc, hs]
          refine ⟨by omega, ?_, ?_, fun d hd hda => ?_⟩
          · show (dvi s.2 v (G j v) s.1).2 = (dvm s'.2 v (G j v) s'.1).2
            rw [he]
          · show vp_updL s'.2 v _ 0 = 0
            rw [pk_uLn (by omega)]; exact r3
          · show vp_updL s.2 v (dvi s.2 v (G j v) s.1).1 d = vp_updL s'.2 v (dvm s'.2 v (G j v) s'.1).1 d
            rw [he]
            by_cases e : d = v
            · subst e
              rw [pk_uLs, pk_uLs]
            · rw [pk_uLn e, pk_uLn e]
              exact r4 d (by omega) hda) (fun v s s' hv hs hr => by
          obtain ⟨r1, r2, r3, r4⟩ := hr
          refine ⟨by omega, r2, r3, fun d hd hda => ?_⟩
          by_cases e : d = v
          · subst e
            exact absurd hda hs
          · exact r4 d (by omega) hda) A 1 (false, vp_updL wk 0 0) (false, vp_updL nx 0 0) (by omega) ⟨by omega, rfl, (show vp_updL nx 0 0 0 = 0 from pk_uLs), fun d hd _ => by
            have : d = 0 := by omega
            subst this
            show vp_updL wk 0 0 0 = vp_updL nx 0 0 0
            rw [pk_uLs, pk_uLs]⟩
        rw [← hs1, ← e0] at this
        exact ⟨this.2.1, this.2.2.2 A (by omega) (Nat.and_self A)⟩
      refine ⟨if s1.1 = true then -9223372036854775808 else s1.2 A, s1.1, s1.2, s2.1, s2.2, ?_, ?_⟩
      · refine e1.trans ?_
        rw [dend]
        cases s1.1 <;> rfl
      · refine e2.trans ?_
        rw [dend, hrel.1, hrel.2]
        cases s2.1 <;> rfl
    · rw [if_neg c1, if_neg c1]
      exact ⟨_, _, _, _, _, rfl, rfl⟩
  · rw [if_neg c0, if_neg c0]
    exact ⟨_, _, _, _, _, rfl, rfl⟩
-- cover
def ckr (s p y : Nat) : Nat → Bool
  | 0 => true
  | r + 1 => (if (s - (r + 1)) &&& s = s - (r + 1) ∧ ¬ (s - (r + 1)) &&& p = 0 then decide ((r + 1) &&& y = r + 1) && (decide (dif s (s - (r + 1)) = r + 1) && decide (dif s (r + 1) = s - (r + 1))) else decide (¬ (r + 1) &&& y = r + 1)) && ckr s p y r
set_option maxRecDepth 100000 in
theorem ckr_all : (List.range 512).all (fun s => ckr s (2 ^ lst s) (dif s (2 ^ lst s)) (dif s (2 ^ lst s))) = true := by decide +kernel
theorem ckr_at {s p y : Nat} : ∀ k, ckr s p y k = true → ∀ r, 0 < r → r ≤ k → if (s - r) &&& s = s - r ∧ ¬ (s - r) &&& p = 0 then r &&& y = r ∧ dif s (s - r) = r ∧ dif s r = s - r else ¬ r &&& y = r
  | 0, _, r, h1, h2 => by omega
  | k + 1, h, r, h1, h2 => by
    simp only [ckr, Bool.and_eq_true] at h
    by_cases e : r = k + 1
    · subst e
      have h3 := h.1
      split
      · rename_i c
        rw [if_pos c, Bool.and_eq_true, Bool.and_eq_true, decide_eq_true_eq, decide_eq_true_eq, decide_eq_true_eq] at h3
        exact h3
      · rename_i c
        rw [if_neg c, decide_eq_true_eq] at h3
        exact h3
    · exact ckr_at k h.2 r h1 (by omega)
set_option maxRecDepth 100000 in
theorem low_all : (List.range 512).all (fun s => decide (0 < s → nI s &&& (-(nI s)) = nI (2 ^ lst s) ∧ lst s ≤ 8 ∧ s - dif s (2 ^ lst s) = 2 ^ lst s ∧ dif s (2 ^ lst s) < s)) = true := by decide +kernel
theorem low_at {s : Nat} (h : s < 512) (h0 : 0 < s) : nI s &&& (-(nI s)) = nI (2 ^ lst s) ∧ lst s ≤ 8 ∧ s - dif s (2 ^ lst s) = 2 ^ lst s ∧ dif s (2 ^ lst s) < s := of_decide_eq_true (List.all_eq_true.mp low_all s (List.mem_range.mpr h)) h0
def dfo {σ : Type} (S : Nat) (f : Nat → σ → σ) (v : Nat) : Nat → σ → σ
  | 0, s => s
  | k + 1, s => dfo S f v k (if (v + k) &&& S = v + k then f (v + k) s else s)
def sgo {σ : Type} (S : Nat) (f : Nat → σ → σ) (v : Nat) (s : σ) : σ := if v &&& S = v then f v s else s
theorem sgo_comm {σ : Type} {S : Nat} {f : Nat → σ → σ} (hf : ∀ u v s, f u (f v s) = f v (f u s)) (u v : Nat) (s : σ) : sgo S f u (sgo S f v s) = sgo S f v (sgo S f u s) := by
  unfold sgo
  by_cases c1 : u &&& S = u <;> by_cases c2 : v &&& S = v <;> simp [c1, c2, hf u v s]
theorem sfo_comm {σ : Type} {S : Nat} {f : Nat → σ → σ} (hf : ∀ u v s, f u (f v s) = f v (f u s)) (w : Nat) : ∀ k v s, sfo S f v k (sgo S f w s) = sgo S f w (sfo S f v k s)
  | 0, v, s => rfl
  | k + 1, v, s => by
    show sfo S f (v + 1) k (sgo S f v (sgo S f w s)) = sgo S f w (sfo S f (v + 1) k (sgo S f v s))
    rw [sgo_comm hf, sfo_comm hf w k]
theorem sfo_snoc {σ : Type} {S : Nat} {f : Nat → σ → σ} : ∀ k v s, sfo S f v (k + 1) s = sgo S f (v + k) (sfo S f v k s)
  | 0, v, s => rfl
  | k + 1, v, s => by
    show sfo S f (v + 1) (k + 1) (sgo S f v s) = _
    rw [sfo_snoc k (v + 1)]
    show sgo S f (v + 1 + k) _ = sgo S f (v + (k + 1)) (sfo S f (v + 1) k (sgo S f v s))
    rw [show v + 1 + k = v + (k + 1) by omega]
theorem dfo_eq {σ : Type} {S : Nat} {f : Nat → σ → σ} (hf : ∀ u v s, f u (f v s) = f v (f u s)) : ∀ k v s, dfo S f v k s = sfo S f v k s
  | 0, v, s => rfl
  | k + 1, v, s => by
    show dfo S f v k (sgo S f (v + k) s) = _
    rw [dfo_eq hf k v, sfo_comm hf, sfo_snoc]
theorem lMax_lc (a x y : Int64) : lMax (lMax a x) y = lMax (lMax a y) x := by
  unfold lMax
  simp only [Int64.lt_iff_toInt_lt]
  by_cases c1 : x.toInt < a.toInt <;> by_cases c2 : y.toInt < a.toInt <;> by_cases c3 : y.toInt < x.toInt <;> by_cases c4 : x.toInt < y.toInt <;> simp [c1, c2, c3, c4] <;> first | omega | (apply Int64.toInt_inj.mp; omega) | skip
def cvg (V T : Nat → Int64) (s r : Nat) (p : Int64 × Bool) : Int64 × Bool := (lMax p.1 (V (dif s r) + T r), p.2 || ovp (V (dif s r)) (T r))
theorem cvg_comm (V T : Nat → Int64) (s u v : Nat) (p : Int64 × Bool) : cvg V T s u (cvg V T s v p) = cvg V T s v (cvg V T s u p) := by
  unfold cvg
  dsimp only
  rw [lMax_lc, Bool.or_assoc, Bool.or_assoc, Bool.or_comm (ovp (V (dif s v)) (T v))]
def cvb (V T : Nat → Int64) (s : Nat) (b : Bool) : Int64 × Bool := sfo (dif s (2 ^ lst s)) (cvg V T s) 1 (dif s (2 ^ lst s)) (V s, b)
theorem z_split {s : Nat} (hs : s < 512) (h0 : 0 < s) (V T : Nat → Int64) (b : Bool) : f_X5_bestSplit b T V (nI s) = some (cvb V T s b) := by
  obtain ⟨l1, l2, l3, l4⟩ := low_at hs h0
  obtain ⟨y, hy⟩ : ∃ y, y = dif s (2 ^ lst s) := ⟨_, rfl⟩
  have hp := pcn_le y
  have hpp : 2 ^ pcn y ≤ 512 := pw_le hp
  rw [f_X5_bestSplit, z_leastOf hs, Option.bind_some, if_neg (by omega)]
  simp only [nm_eq]
  rw [shl_pw (by omega), nI_dif, ck_nI hs (by omega), nI_clamp (by omega), cvb, ← hy]
  rw [← hy] at l4
  refine lp_subA (L := fun m (p : Int64 × Bool) c n => L_X5_bestSplit_1 T V (nI s) (nI y) m p.1 (nI c) (nI n) p.2) (S := y) (f := cvg V T s) (K := some) (fun m p c => ?_) (fun m p c n hn hc => ?_) y 1 0 1 FU (V s, b) (wk2_at (by omega)) (by omega) (by rw [FU_eq]; omega)
  · show B_X5_bestSplit_1 _ _ _ _ _ _ _ _ _ = _
    rw [B_X5_bestSplit_1, z_bitCount (by omega), Option.bind_some, shl_pw hp, if_neg (by rw [ltI (by omega) (by omega)]; omega)]
  · show B_X5_bestSplit_1 _ _ _ _ _ _ _ _ _ = _
    have hd := dif_le (a := s) (b := nx c y)
    rw [B_X5_bestSplit_1, z_bitCount (by omega), Option.bind_some, shl_pw hp, if_pos (by rw [ltI (by omega) (by omega)]; omega), z_next, Option.bind_some, nI_dif, ck_nI (by omega) (by omega), ck_nI (by omega) (by omega), nI_clamp (by omega), nI_clamp (by omega), z_plus, Option.bind_some]
    simp only [nm_eq, nI_1]
    rfl
theorem z_covered (R : RG N n nd es wt un ed G g) {j s : Nat} (hj : j < 4) (hs : s < 2 ^ N) (h0 : 0 < s) (T : Nat → Int64) (b : Bool) : f_X6_covered b g T (nI j) (nI s) = some (cvb (G j) T s b) := by
  have hN := R.1.2.1
  have hpw := pw_le hN
  obtain ⟨l1, l2, l3, l4⟩ := low_at (show s < 512 by omega) h0
  have hck := ckr_at _ (List.all_eq_true.mp ckr_all s (List.mem_range.mpr (by omega)))
  obtain ⟨y, hy⟩ : ∃ y, y = dif s (2 ^ lst s) := ⟨_, rfl⟩
  obtain ⟨q, hq⟩ : ∃ q, q = 2 ^ lst s := ⟨_, rfl⟩
  rw [← hy] at l3 l4 hck
  rw [← hq] at l3 hck
  rw [f_X6_covered, l1]
  simp only [nm_eq]
  rw [R.v hj hs, Option.bind_some, cvb, ← hy, ← hq]
  have key : ∀ k m a b, k ≤ y → k < m → L_X6_covered_1 g T (nI j) (nI s) (nI q) m a (nI (s - k)) b = some (dfo y (cvg (G j) T s) 1 k (a, b)) := by
    intro k
    induction k with
    | zero =>
      intro m a b _ hm
      obtain ⟨m, rfl⟩ : ∃ k, m = k + 1 := ⟨m - 1, by omega⟩
      show B_X6_covered_1 _ _ _ _ _ _ _ _ _ = _
      rw [B_X6_covered_1, if_neg (by rw [ltI (by omega) (by omega)]; omega)]
      rfl
    | succ k ih =>
      intro m a b hk hm
      obtain ⟨m, rfl⟩ : ∃ k, m = k + 1 := ⟨m - 1, by omega⟩
      have hc := hck (k + 1) (by omega) hk
      have hd := dif_le (a := s - (k + 1)) (b := s)
      have hand : (s - (k + 1)) &&& q ≤ s - (k + 1) := Nat.and_le_left
      have ez1 : (nI (dif (s - (k + 1)) s) = 0) = ((s - (k + 1)) &&& s = s - (k + 1)) := propext ((eqI (a := dif (s - (k + 1)) s) (b := 0) (by omega) (by omega) ▸ and_dif (by omega) : _))
      have ez2 : (nI ((s - (k + 1)) &&& q) = 0) = ((s - (k + 1)) &&& q = 0) := eqI (a := (s - (k + 1)) &&& q) (b := 0) (by omega) (by omega)
      show B_X6_covered_1 _ _ _ _ _ _ _ _ _ = _
      rw [B_X6_covered_1, if_pos (by rw [ltI (by omega) (by omega)]; omega), nI_dif, nI_and]
      simp only [jn2_eq, nm_eq, nI_1, ez1, ez2, dfo]
      rw [show s - (k + 1) + 1 = s - k by omega, ih m _ _ (by omega) (by omega), R.v hj (by omega), Option.bind_some, nI_dif]
      have hd2 := dif_le (a := s) (b := s - (k + 1))
      rw [ck_nI (by omega) (by omega), nI_clamp (by omega), z_plusM, Option.bind_some, show 1 + k = k + 1 by omega]
      dsimp only
      rw [ih m _ _ (by omega) (by omega)]
      by_cases c1 : (s - (k + 1)) &&& s = s - (k + 1)
      · by_cases c2 : (s - (k + 1)) &&& q = 0
        · rw [if_neg (fun z => z.2 c2)] at hc
          rw [if_pos c1, if_pos c2, if_neg hc]
        · rw [if_pos ⟨c1, c2⟩] at hc
          rw [if_pos c1, if_neg c2, if_pos hc.1, cvg, hc.2.1, hc.2.2]
      · rw [if_neg (fun z => c1 z.1)] at hc
        rw [if_neg c1, if_neg hc]
  rw [← dfo_eq (cvg_comm (G j) T s)]
  have := key y FU (G j s) b (Nat.le_refl _) (by rw [FU_eq]; omega)
  rw [l3] at this
  exact this
end OPK
