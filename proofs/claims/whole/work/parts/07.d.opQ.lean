/-! PURE PART: a part of the tape. -/
def fig (c : Nat) : Bool := decide (48 ≤ c) && decide (c ≤ 57)
theorem lN_48 {x c : Nat} (h : 48 ≤ c) : lN (x + c) - 48 = lN (x + (c - 48)) := by
  have e : x + c = (x + (c - 48)) + 48 := by omega
  rw [e, ← lN_add]
  exact Int64.add_sub_cancel _ _
section OPQ
variable {K : Nat} {C : Nat → Nat} {tb tp : Nat → Int32} {N : Nat} {g : Nat → Int64}
theorem z_fig {c : Nat} (hc : c ≤ 127) : f_X4_isFigure (nI c) = some (fig c) := by
  simp only [f_X4_isFigure, jn0_eq]
  rw [show (48 : Int32) = nI 48 from rfl, show (57 : Int32) = nI 57 from rfl]
  simp only [ltI (show c < 2 ^ 31 by omega) (show 48 < 2 ^ 31 by omega), ltI (show 57 < 2 ^ 31 by omega) (show c < 2 ^ 31 by omega), fig]
  by_cases c1 : c < 48
  · have : ¬ 48 ≤ c := by omega
    simp [c1, this]
  · by_cases c2 : 57 < c
    · have : ¬ c ≤ 57 := by omega
      simp [c1, c2, this]
    · have h3 : 48 ≤ c := by omega
      have h4 : c ≤ 57 := by omega
      simp [c1, c2, h3, h4]
theorem z_figM (T : TP K C tb tp) {p : Nat} (hp : p ≤ K) : f_X6_isFigure (nI K) (nI p) tp = some (fig (chr K C p)) := by
  have hc := chr_le T p
  rw [f_X6_isFigure, z_hereM T hp, Option.bind_some]
  by_cases e : chr K C p = 0
  · rw [if_pos e, e]; decide
  · rw [if_neg e, nI_l (by omega), z_isIn, show (48 : Int64) = lN 48 from rfl, show (57 : Int64) = lN 57 from rfl, Option.bind_some, fig]
    have e1 : (lN 48 ≤ lN (chr K C p)) = (48 ≤ chr K C p) := propext (pk_lLE (by omega) (by omega))
    have e2 : (lN (chr K C p) ≤ lN 57) = (chr K C p ≤ 57) := propext (pk_lLE (by omega) (by omega))
    simp only [e1, e2]
theorem z_numbers (T : TP K C tb tp) : ∀ d cnt x p m m', cnt + d = 9 → p ≤ K → d < m → d < m' → ∃ cnt' x' p', cnt' ≤ 9 ∧ p ≤ p' ∧ p' ≤ K ∧ (∀ kx, L_X4_readNumber_1 (nI K) tb kx m (nI cnt) (lN x) (nI cnt) (nI p) = kx (nI cnt') (lN x') (nI p')) ∧ (∀ kx, L_X6_readsPart_1 (nI K) tp kx m' (lN x) (nI cnt) (nI p) = kx (lN x') (nI p')) ∧ ((fig (chr K C p) = true ∧ cnt < 9 ∧ cnt < cnt') ∨ ((fig (chr K C p) = false ∨ cnt = 9) ∧ cnt' = cnt ∧ p' = p))
  | 0, cnt, x, p, m, m', e, hp, hm, hm' => by
    obtain ⟨m, rfl⟩ : ∃ k, m = k + 1 := ⟨m - 1, by omega⟩
    obtain ⟨m', rfl⟩ : ∃ k, m' = k + 1 := ⟨m' - 1, by omega⟩
    refine ⟨cnt, x, p, by omega, Nat.le_refl _, hp, fun kx => ?_, fun kx => ?_, Or.inr ⟨Or.inr (by omega), rfl, rfl⟩⟩
    · show B_X4_readNumber_1 _ _ _ _ _ _ _ _ = _
      rw [B_X4_readNumber_1, show (9 : Int32) = nI 9 from rfl, if_neg (by rw [ltI (by omega) (by omega)]; omega)]
    · show B_X6_readsPart_1 _ _ _ _ _ _ _ = _
      rw [B_X6_readsPart_1, show (9 : Int32) = nI 9 from rfl, if_neg (by rw [ltI (by omega) (by omega)]; omega)]
  | d + 1, cnt, x, p, m, m', e, hp, hm, hm' => by
    obtain ⟨m, rfl⟩ : ∃ k, m = k + 1 := ⟨m - 1, by omega⟩
    obtain ⟨m', rfl⟩ : ∃ k, m' = k + 1 := ⟨m' - 1, by omega⟩
    have hc := chr_le T p
    have e1 : ∀ kx, L_X4_readNumber_1 (nI K) tb kx (m + 1) (nI cnt) (lN x) (nI cnt) (nI p) = if fig (chr K C p) = true then L_X4_readNumber_1 (nI K) tb kx m (nI (cnt + 1)) (lN (x * 10 + (chr K C p - 48))) (nI (cnt + 1)) (nI (p + 1)) else kx (nI cnt) (lN x) (nI p) := fun kx => by
      show B_X4_readNumber_1 _ _ _ _ _ _ _ _ = _
      rw [B_X4_readNumber_1, show (9 : Int32) = nI 9 from rfl, if_pos (by rw [ltI (by omega) (by omega)]; omega), z_here T hp, Option.bind_some, z_fig hc, Option.bind_some]
      by_cases c : fig (chr K C p) = true
      · have h48 : 48 ≤ chr K C p := by
          simp only [fig, Bool.and_eq_true, decide_eq_true_eq] at c
          exact c.1
        rw [if_pos c, if_pos c]
        simp only [nm_eq, Option.bind_some, nI_1]
        rw [show (48 : Int32) = nI 48 from rfl, pk_sub h48, nI_l (by omega), show (10 : Int64) = lN 10 from rfl, lN_mul, lN_add]
      · rw [if_neg c, if_neg c]
    have e2 : ∀ kx, L_X6_readsPart_1 (nI K) tp kx (m' + 1) (lN x) (nI cnt) (nI p) = if fig (chr K C p) = true then L_X6_readsPart_1 (nI K) tp kx m' (lN (x * 10 + (chr K C p - 48))) (nI (cnt + 1)) (nI (p + 1)) else kx (lN x) (nI p) := fun kx => by
      show B_X6_readsPart_1 _ _ _ _ _ _ _ = _
      rw [B_X6_readsPart_1, show (9 : Int32) = nI 9 from rfl, if_pos (by rw [ltI (by omega) (by omega)]; omega), z_figM T hp, Option.bind_some, z_hereM T hp, Option.bind_some]
      by_cases c : fig (chr K C p) = true
      · have h48 : 48 ≤ chr K C p := by
          simp only [fig, Bool.and_eq_true, decide_eq_true_eq] at c
          exact c.1
        rw [if_pos c, if_pos c, if_neg (by omega)]
        simp only [nm_eq, nI_1]
        rw [nI_l (by omega), show (10 : Int64) = lN 10 from rfl, lN_mul, lN_add, lN_48 h48, Nat.mul_comm 10 x]
      · rw [if_neg c, if_neg c]
    by_cases c : fig (chr K C p) = true
    · have hlt : p < K := chr_lt T (fun z => by rw [z] at c; cases c)
      obtain ⟨cnt', x', p', q1, q2, q3, q4, q5, q6⟩ := z_numbers T d (cnt + 1) (x * 10 + (chr K C p - 48)) (p + 1) m m' (by omega) (by omega) (by omega) (by omega)
      refine ⟨cnt', x', p', q1, by omega, q3, fun kx => ?_, fun kx => ?_, Or.inl ⟨c, by omega, by omega⟩⟩
      · rw [e1, if_pos c]; exact q4 kx
      · rw [e2, if_pos c]; exact q5 kx
    · refine ⟨cnt, x, p, by omega, Nat.le_refl _, hp, fun kx => ?_, fun kx => ?_, Or.inr ⟨Or.inl (by simpa using c), rfl, rfl⟩⟩
      · rw [e1, if_neg c]
      · rw [e2, if_neg c]
/-- past the sign -/
theorem z_past (T : TP K C tb tp) {p3 q fu : Nat} (hp : p3 ≤ K) (hq : q < 120) (hfu : 10 < fu) (neg : Bool) (rs2 : Nat → Int32) (rv : Nat → Int64) : ∃ (ok : Bool) (p' : Nat) (x : Int64) (rv' : Nat → Int64), (L_X4_readNumber_1 (nI K) tb (fun (v15 : Int32) (v16 : Int64) (ta17 : Int32) => if neg = true then (if (0 : Int32) < v15 then some (true, ta17, -v16) else some (false, ta17, -v16)) else (if (0 : Int32) < v15 then some (true, ta17, v16) else some (false, ta17, v16))) fu 0 0 0 (nI p3) = some (ok, nI p', x)) ∧ ((f_X6_isFigure (nI K) (nI p3) tp).bind (fun (r10 : Bool) => if r10 = true then (L_X6_readsPart_1 (nI K) tp (fun (v21 : Int64) (at_22 : Int32) => jn1 (fun (v24 : Int64) => ck (inb (nI q) 120) (nm (vp_updL rv (nI q).toNatClampNeg v24) (fun (rv25 : Nat → Int64) => jn0 (some (true, at_22, rs2, rv25)) (fun k26 => if (at_22 : Int32) = nI K then (k26) else ((f_X6_here (nI K) at_22 tp).bind (fun (r27 : Int32) => if (r27 : Int32) = 59 then (k26) else (some (false, at_22, rs2, rv25)))))))) (fun k23 => if neg = true then (k23 (-v21)) else (k23 v21))) fu 0 0 (nI p3)) else (some (false, nI p3, rs2, rv))) = some (ok && (decide (p' = K) || decide (chr K C p' = 59)), nI p', rs2, rv')) ∧ p3 ≤ p' ∧ p' ≤ K ∧ (ok = true → rv' q = x) ∧ ∀ k, k ≠ q → rv' k = rv k := by
  have hK := T.1
  obtain ⟨cnt', x', p', b1, b2, b3, b4, b5, b6⟩ := z_numbers T 9 0 0 p3 fu fu (by omega) hp (by omega) (by omega)
  have hc := chr_le T p'
  have e4 := b4 (fun (v15 : Int32) (v16 : Int64) (ta17 : Int32) => if neg = true then (if (0 : Int32) < v15 then some (true, ta17, -v16) else some (false, ta17, -v16)) else (if (0 : Int32) < v15 then some (true, ta17, v16) else some (false, ta17, v16)))
  have ez : ((0 : Int32) < nI cnt') = (0 < cnt') := ltI (a := 0) (b := cnt') (by omega) (by omega)
  obtain ⟨y, hy⟩ : ∃ y : Int64, y = if neg = true then -(lN x') else lN x' := ⟨_, rfl⟩
  have e5 : L_X4_readNumber_1 (nI K) tb (fun (v15 : Int32) (v16 : Int64) (ta17 : Int32) => if neg = true then (if (0 : Int32) < v15 then some (true, ta17, -v16) else some (false, ta17, -v16)) else (if (0 : Int32) < v15 then some (true, ta17, v16) else some (false, ta17, v16))) fu 0 0 0 (nI p3) = some (decide (0 < cnt'), nI p', y) := by
    refine Eq.trans e4 ?_
    simp only [ez]
    rw [hy]
    cases neg
    · by_cases c : 0 < cnt' <;> simp [c]
    · by_cases c : 0 < cnt' <;> simp [c]
  rw [z_figM T hp, Option.bind_some]
  rcases b6 with ⟨c1, -, c3⟩ | ⟨c1, c2, c3⟩
  · refine ⟨true, p', y, vp_updL rv q y, ?_, ?_, b2, b3, fun _ => pk_uLs, fun k hk => pk_uLn hk⟩
    · rw [e5, decide_eq_true (by omega)]
    · rw [if_pos c1]
      refine Eq.trans (b5 _) ?_
      simp only [jn0_eq, jn1_eq, nm_eq]
      rw [ck_nI hq (by omega), ck_nI hq (by omega), nI_clamp (show q < 2 ^ 31 by omega), z_hereM T b3, Option.bind_some, Bool.true_and]
      have e59 : ((if chr K C p' = 0 then (-1 : Int32) else nI (chr K C p')) = 59) = (chr K C p' = 59) := propext (by
        by_cases z : chr K C p' = 0
        · rw [if_pos z, z]; decide
        · rw [if_neg z]
          exact nI_eq (a := chr K C p') (b := 59) (by omega) (by omega))
      simp only [e59, eqI (show p' < 2 ^ 31 by omega) (show K < 2 ^ 31 by omega), Option.bind_some]
      rw [hy]
      cases neg <;> by_cases z1 : p' = K <;> by_cases z2 : chr K C p' = 59 <;> simp [z1, z2]
  · have c4 : fig (chr K C p3) = false := by
      rcases c1 with c1 | c1
      · exact c1
      · omega
    refine ⟨false, p', y, rv, ?_, ?_, b2, b3, (fun h => by cases h), fun k hk => rfl⟩
    · rw [e5, decide_eq_false (by omega)]
    · rw [c4, if_neg (by decide), c3]
      rfl
theorem z_readPart (T : TP K C tb tp) (h0 : g 0 = lN N) (hN : N ≤ 9) (h1 : 1 ≤ N) {p q : Nat} (hp : p ≤ K) (hq : q < 120) (tn : Int64) (wk : Nat → Int64) (rs : Nat → Int32) (rv : Nat → Int64) : ∃ ok p' tn' wk' rs' rv', f_X4_readPart (nI K) (nI p) tn tb wk (nI N) = some (ok, nI p', tn', wk') ∧ f_X6_readsPart (nI K) (nI p) g tp rs rv (nI q) = some (ok && (decide (p' = K) || decide (chr K C p' = 59)), nI p', rs', rv') ∧ p ≤ p' ∧ p' ≤ K ∧ (ok = true → p < p' ∧ ∃ s x, s < 2 ^ N ∧ 0 < s ∧ wk' = vp_updL wk s x ∧ rs' q = nI s ∧ rv' q = x) ∧ (∀ k, k ≠ q → rs' k = rs k ∧ rv' k = rv k) := by
  have hpw := pw_le hN
  have hK := T.1
  have hp1 := pw_pos N
  obtain ⟨fu, hfu⟩ : ∃ k, k = FU := ⟨_, rfl⟩
  have hfu2 : fu = 100000 := hfu.trans FU_eq
  obtain ⟨s, p1, a1, a2, a3, a4, a5⟩ := z_letters T h0 hN h1 N 0 0 p fu fu (by omega) hp (by omega) (by omega) (by omega)
  obtain ⟨rs2, hrs⟩ : ∃ rs2, rs2 = upd rs q (nI s) := ⟨_, rfl⟩
  have hrq : rs2 q = nI s := by rw [hrs]; exact pk_us
  have hrk : ∀ k, k ≠ q → rs2 k = rs k := fun k hk => by rw [hrs]; exact pk_un hk
  have hc1 := chr_le T p1
  rw [f_X4_readPart, f_X4_readLetters, f_X6_readsPart, f_X6_readsSet, ← hfu]
  have a4' : L_X4_readLetters_1 (nI K) tb (nI N) fu 0 0 (nI p) = some (nI s, nI p1) := a4
  have a5' := a5 (fun (v16 : Int32) (at_17 : Int32) => some (v16, at_17))
  rw [show L_X6_readsSet_1 (nI K) g tp (fun (v16 : Int32) (at_17 : Int32) => some (v16, at_17)) fu 0 0 (nI p) = some (nI s, nI p1) from a5', a4', Option.bind_some, Option.bind_some, ck_nI hq (by omega), nI_clamp (show q < 2 ^ 31 by omega)]
  simp only [nm_eq]
  rw [← hrs, ck_nI hq (by omega), hrq]
  have es0 : (nI s = 0) = (s = 0) := eqI (a := s) (b := 0) (by omega) (by omega)
  have es1 : ((0 : Int32) < nI s) = (0 < s) := ltI (a := 0) (b := s) (by omega) (by omega)
  have es2 : (nI s < 512) = (s < 512) := ltI (a := s) (b := 512) (by omega) (by omega)
  simp only [es0, es1, es2]
  by_cases c0 : s = 0
  · rw [if_neg (by omega), if_pos c0]
    exact ⟨false, p1, _, _, _, _, rfl, rfl, a2, a3, (fun h => by cases h), fun k hk => ⟨hrk k hk, rfl⟩⟩
  · rw [if_pos (by omega), if_pos (by omega), if_neg c0, show (61 : Int32) = nI 61 from rfl, z_take T a3 (by omega), Option.bind_some, z_hereM T a3, Option.bind_some]
    by_cases c1 : chr K C p1 = 61
    · have hlt1 : p1 < K := chr_lt T (by omega)
      rw [if_pos c1, if_neg (show ¬ chr K C p1 = 0 by omega), c1, if_pos rfl, if_pos rfl, nI_1, z_hereM T (show p1 + 1 ≤ K by omega), Option.bind_some, f_X4_readNumber, show (45 : Int32) = nI 45 from rfl, z_take T (show p1 + 1 ≤ K by omega) (by omega), Option.bind_some, ← hfu]
      have hc2 := chr_le T (p1 + 1)
      by_cases c2 : chr K C (p1 + 1) = 45
      · have hlt2 : p1 + 1 < K := chr_lt T (by omega)
        obtain ⟨ok, p', x, rv', d1, d2, d3, d4, d5, d6⟩ := z_past T (p3 := p1 + 1 + 1) (q := q) (fu := fu) (by omega) hq (by omega) true rs2 rv
        rw [if_pos c2, c2, if_neg (show ¬ 45 = 0 by omega)]
        simp only [jn1_eq, nm_eq, eq_self, if_true, nI_1]
        have d1' := d1
        simp only [if_true] at d1'
        rw [d1', Option.bind_some, ck_nI (show s < 512 by omega) (by omega), nI_clamp (show s < 2 ^ 31 by omega)]
        simp only [jn1_eq, nm_eq, nI_clamp (show q < 2 ^ 31 by omega), eq_self, if_true, Bool.false_eq_true, if_false] at d2
        cases ok
        · exact ⟨false, p', _, _, _, _, rfl, d2, by omega, d4, (fun h => by cases h), fun k hk => ⟨hrk k hk, d6 k hk⟩⟩
        · exact ⟨true, p', _, _, _, _, rfl, d2, by omega, d4, fun _ => ⟨by omega, s, x, a1, by omega, rfl, hrq, d5 rfl⟩, fun k hk => ⟨hrk k hk, d6 k hk⟩⟩
      · have hne : ¬ (if chr K C (p1 + 1) = 0 then (-1 : Int32) else nI (chr K C (p1 + 1))) = nI 45 := by
          split
          · decide
          · rw [eqI (by omega) (by omega)]; exact c2
        obtain ⟨ok, p', x, rv', d1, d2, d3, d4, d5, d6⟩ := z_past T (p3 := p1 + 1) (q := q) (fu := fu) (by omega) hq (by omega) false rs2 rv
        rw [if_neg c2]
        simp only [jn1_eq, nm_eq, hne, Bool.false_eq_true, if_false]
        have d1' := d1
        simp only [Bool.false_eq_true, if_false] at d1'
        rw [d1', Option.bind_some, ck_nI (show s < 512 by omega) (by omega), nI_clamp (show s < 2 ^ 31 by omega)]
        simp only [jn1_eq, nm_eq, nI_clamp (show q < 2 ^ 31 by omega), eq_self, if_true, Bool.false_eq_true, if_false] at d2
        cases ok
        · exact ⟨false, p', _, _, _, _, rfl, d2, by omega, d4, (fun h => by cases h), fun k hk => ⟨hrk k hk, d6 k hk⟩⟩
        · exact ⟨true, p', _, _, _, _, rfl, d2, by omega, d4, fun _ => ⟨by omega, s, x, a1, by omega, rfl, hrq, d5 rfl⟩, fun k hk => ⟨hrk k hk, d6 k hk⟩⟩
    · have hne : ¬ (if chr K C p1 = 0 then (-1 : Int32) else nI (chr K C p1)) = nI 61 := by
        split
        · decide
        · rw [eqI (by omega) (by omega)]; exact c1
      rw [if_neg c1, if_neg hne]
      exact ⟨false, p1, _, _, _, _, rfl, rfl, a2, a3, (fun h => by cases h), fun k hk => ⟨hrk k hk, rfl⟩⟩
end OPQ
