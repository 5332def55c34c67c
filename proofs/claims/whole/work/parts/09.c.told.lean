/-! PURE PART: told, paper; the model's spell by the same text. -/
/-- the class's sheet and the model's paper hold one text -/
def RP (sl : Int32) (sb : Nat → Int32) (pl : Nat) (pf : Nat → Int32) : Prop := pl ≤ 252 ∧ sl = nI pl ∧ ∀ j, j < pl → ∃ c : Nat, c < 128 ∧ sb j = nI c ∧ pf j = sb_b c
section TLD
variable {N : Nat} {n nd es : Int32} {wt un ed : Nat → Int32} {G : Nat → Nat → Int64} {g : Nat → Int64} {sl : Int32} {sb pf : Nat → Int32} {pl : Nat} {tl fed : Int32} {tb tp : Nat → Int32}
def cte (ed : Nat → Int32) : Nat → Nat := cnt (fun e => decide (¬ ed e = 10000))
theorem z_edgesC (ed : Nat → Int32) : f_X0_countEdges ed = some (nI (cte ed 81)) := by
  refine lp_cf (L := fun m i => L_X0_countEdges_1 ed m (nI (cte ed i)) (nI i)) 81 (fun m => ?_) (fun m i hi => ?_) 81 0 FU (by omega) (by rw [FU_eq]; omega)
  · show B_X0_countEdges_1 _ _ _ _ = _
    rw [B_X0_countEdges_1, show (81 : Int32) = nI 81 from rfl, if_neg (by rw [ltI (by omega) (by omega)]; omega)]
  · show B_X0_countEdges_1 _ _ _ _ = _
    rw [B_X0_countEdges_1, show (81 : Int32) = nI 81 from rfl, if_pos (by rw [ltI (by omega) (by omega)]; omega), ck_nI hi (by omega), nI_clamp (by omega)]
    simp only [jn1_eq, nm_eq, nI_1, cte, cnt]
    by_cases c : ed i = 10000 <;> simp [c]
theorem z_edgesM (hE : ∀ e, e < 81 → RE (ed e) (g (21 + e)) (g (102 + e))) : f_X6_edges g = some (nI (cte ed 81)) := by
  refine lp_cf (L := fun m i => L_X6_edges_1 g m (nI (cte ed i)) (nI i)) 81 (fun m => ?_) (fun m i hi => ?_) 81 0 FU (by omega) (by rw [FU_eq]; omega)
  · show B_X6_edges_1 _ _ _ _ = _
    rw [B_X6_edges_1, show (81 : Int32) = nI 81 from rfl, if_neg (by rw [ltI (by omega) (by omega)]; omega)]
  · show B_X6_edges_1 _ _ _ _ = _
    rw [B_X6_edges_1, show (81 : Int32) = nI 81 from rfl, if_pos (by rw [ltI (by omega) (by omega)]; omega), show (21 : Int32) = nI 21 from rfl, nI_add, ck_nI (by omega) (by omega), nI_clamp (by omega)]
    simp only [nm_eq, nI_1, cte, cnt]
    rcases hE i hi with ⟨e1, e2⟩ | ⟨e1, e2, -⟩
    · rw [e2, show ((0 : Int64).toInt32) = nI 0 from by decide, nI_add]
      simp [e1]
    · rw [e2, show ((1 : Int64).toInt32) = nI 1 from by decide, nI_add]
      simp [e1]
theorem z_inP (h : pl ≤ 252) (a : Int32) : f_X6_isIn a.toInt64 0 ((nI pl - 1).toInt64) = some (inb a pl) := by
  rw [z_isIn]
  have e1 : ((0 : Int64) ≤ a.toInt64) = (0 ≤ a.toInt) := propext (by rw [Int64.le_iff_toInt_le, toI_toL]; rfl)
  have e2 : (a.toInt64 ≤ (nI pl - 1).toInt64) = (a.toInt + 1 ≤ pl) := propext (by
    rw [Int64.le_iff_toInt_le, toI_toL, toI_toL, i32_sub (by rw [nI_toInt (by omega)]; omega) (by rw [nI_toInt (by omega)]; omega) (by decide) (by decide), nI_toInt (by omega)]
    rw [show (1 : Int32).toInt = 1 from rfl]
    omega)
  simp only [e1, e2]
  rcases i32_cases a with z | ⟨k, hk, rfl⟩
  · rw [inb_neg _ z]
    rw [Int32.lt_iff_toInt_lt, Int32.toInt_zero] at z
    have : ¬ 0 ≤ a.toInt := by omega
    simp [this]
  · rw [inb_eq hk, nI_toInt hk]
    have a1 : (0 ≤ (k : Int)) = True := propext ⟨fun _ => trivial, fun _ => by omega⟩
    have a2 : ((k : Int) + 1 ≤ pl) = (k < pl) := propext (by omega)
    simp only [a1, a2, decide_true, Bool.true_and]
theorem o_paper (S : RP sl sb pl pf) (a1 : Int32) : ∃ r, f_X5_paper sl sb a1 = some r ∧ f_X6_paper pl pf a1 = some r := by
  obtain ⟨h1, rfl, h3⟩ := S
  rw [f_X5_paper, f_X6_paper, z_inP h1, Option.bind_some, jn0_eq, z_rng (show pl < 2 ^ 31 by omega)]
  by_cases c : inb a1 pl = true
  · rw [if_pos c, if_pos c, c, ck_true]
    obtain ⟨k, hk, hk2, rfl⟩ := inb_of c
    obtain ⟨t, ht, e1, e2⟩ := h3 k hk
    rw [ck_nI (show k < 256 by omega) (by omega), nI_clamp hk2, e1, e2]
    refine ⟨_, rfl, ?_⟩
    rw [chB, (sb_byte t (by omega)).1, (sb_byte t (by omega)).2.1]
  · rw [if_neg c, if_neg c]
    exact ⟨_, rfl, rfl⟩
theorem o_told (R : RG N n nd es wt un ed G g) (T : RT tl tb fed tp) (S : RP sl sb pl pf) (a1 : Int32) : ∃ r, f_X5_told n nd es tl sl wt un ed a1 = some r ∧ f_X6_told fed g pl a1 = some r := by
  obtain ⟨h1, h2, h3, h4⟩ := id R.1
  subst h3
  obtain ⟨Q, q1, q2, q3⟩ := R.2.1
  obtain ⟨E, x1, x2, x3⟩ := R.2.2.1
  obtain ⟨W, hW⟩ := R.2.2.2.1
  obtain ⟨L, U, hU⟩ := R.2.2.2.2.1
  obtain ⟨K, k1, k2, k3, -⟩ := T
  obtain ⟨p1, p2, -⟩ := S
  have hpw := pw_le h2
  have H : LU N L U := fun p hp => ⟨(hU p hp).1, (hU p hp).2.1, (hU p hp).2.2.2.2.1, (hU p hp).2.2.2.2.2⟩
  have HL : LB N g L := ⟨h4, fun p hp => ⟨(hU p hp).2.2.1, by have := (hU p hp).1; omega⟩⟩
  have hl : ∀ p, p < N → f_X5_leastOf (un p) = some (nI (L p)) := fun p hp => by
    obtain ⟨t, t1, t2, -⟩ := z_unionOf R.2.2.2.2.1 h2 hp
    rw [z_label HL h2 hp] at t1
    rw [t2, ← t1]
  rw [f_X5_told, f_X6_told]
  by_cases c0 : a1 = 0
  · rw [if_pos c0, if_pos c0, c0, show inb (0 : Int32) 2231 = true from by decide, ck_true, show (0 : Int32).toNatClampNeg = 0 from by decide, h4, lN_i]
    exact ⟨_, rfl, rfl⟩
  rw [if_neg c0, if_neg c0]
  by_cases c1 : a1 = 1
  · rw [if_pos c1, if_pos c1, c1, show inb (1 : Int32) 2231 = true from by decide, ck_true, show (1 : Int32).toNatClampNeg = 1 from by decide, q3, lN_i, q2]
    exact ⟨_, rfl, rfl⟩
  rw [if_neg c1, if_neg c1]
  by_cases c2 : a1 = 2
  · rw [if_pos c2, if_pos c2, c2, show inb (2 : Int32) 2231 = true from by decide, ck_true, show (2 : Int32).toNatClampNeg = 2 from by decide, x3, lN_i, x2]
    exact ⟨_, rfl, rfl⟩
  rw [if_neg c2, if_neg c2]
  by_cases c3 : a1 = 3
  · rw [if_pos c3, if_pos c3, z_edgesC, z_edgesM R.2.2.2.2.2.1]
    exact ⟨_, rfl, rfl⟩
  rw [if_neg c3, if_neg c3]
  by_cases c4 : a1 = 4
  · rw [if_pos c4, if_pos c4, z_countU H h2 hl, z_unionsM H HL h2]
    exact ⟨_, rfl, rfl⟩
  rw [if_neg c4, if_neg c4]
  by_cases c5 : a1 = 5
  · rw [if_pos c5, if_pos c5, k2, k3]
    exact ⟨_, rfl, rfl⟩
  rw [if_neg c5, if_neg c5]
  by_cases c6 : a1 = 6
  · rw [if_pos c6, if_pos c6, p2]
    exact ⟨_, rfl, rfl⟩
  rw [if_neg c6, if_neg c6]
  by_cases c7 : a1 = 7
  · have hp1 := pw_pos N
    rw [if_pos c7, if_pos c7, z_every h2, z_allM h4 h2, Option.bind_some, Option.bind_some, z_weigh h2 (fun p hp => (hW p hp).2.1) (by omega), z_weighs h2 h4 (fun p hp => ⟨(hW p hp).1, (hW p hp).2.2⟩) (by omega), Option.bind_some, Option.bind_some, lN_i]
    exact ⟨_, rfl, rfl⟩
  rw [if_neg c7, if_neg c7, jn0_eq, jn0_eq]
  by_cases c8 : a1 < 10
  · rw [if_pos c8, if_pos c8]
    exact ⟨_, rfl, rfl⟩
  · rw [if_neg c8, if_neg c8, z_hasPartner h2, z_isPartnerM h4 h1 h2, Option.bind_some, Option.bind_some]
    by_cases c9 : inb (a1 - 10) N = true
    · rw [if_pos c9, if_pos c9]
      obtain ⟨p, hp, hp2, e⟩ := inb_of c9
      have ea : a1 = nI p + nI 10 := by rw [← e]; exact (Int32.sub_add_cancel a1 10).symm
      have e3 : (3 + a1) - 10 = nI (3 + p) := by
        rw [ea, nI_add, show (3 : Int32) = nI 3 from rfl, nI_add, show (10 : Int32) = nI 10 from rfl, pk_sub (by omega)]
        congr 1
      rw [e3, e, ck_nI (show p < 9 by omega) (by omega), ck_nI (show 3 + p < 2231 by omega) (by omega), nI_clamp hp2, nI_clamp (by omega), (hW p (by omega)).2.1, (hW p (by omega)).2.2, lN_i]
      exact ⟨_, rfl, rfl⟩
    · rw [if_neg c9, if_neg c9]
      exact ⟨_, rfl, rfl⟩
/-- what the model's spell asks of a game -/
theorem o_spellM {fa : Nat → Int64} (R : RG N n nd es wt un ed G g) (F : RF fa) {j : Nat} (hj : j < 4) : (∀ p, p < N → ∀ b a, f_X6_shares b a g fa (nI j) (nI p) = some (spB N (G j) p, shW N (G j) p)) ∧ (∀ p, f_X6_part (shW N (G j) p) (fa N) 0 = some (spU N (G j) p)) ∧ (∀ p, f_X6_part (shW N (G j) p) (fa N) 1 = some (spL N (G j) p)) := by
  have h2 := R.1.2.1
  have hf := fct_b (k := N) (by omega)
  have hb : 0 < (lN (fct N)).toInt := by rw [lN_int (by omega)]; omega
  refine ⟨fun p hp b a => z_shares R F hj hp b a, fun p => ?_, fun p => ?_⟩
  · rw [F N (by omega), z_part hb]
    rfl
  · rw [F N (by omega), z_part hb]
    rfl
/-- one text behind it -/
theorem RP.new (hN : N < 10) {V : Nat → Int64} {sb' f' : Nat → Int32} (h1 : Pq sb' (spT N V N).1 (spT N V N).2) (h2 : sb_Lat (spT N V N).1 (spT N V N).2 f') : RP (nI (spT N V N).2) sb' (spT N V N).2 f' := by
  refine ⟨by have := spT_len hN V N; omega, rfl, fun j hj => ⟨(spT N V N).1 j, spT_lt V N j, h1 j hj, (h2 j hj).2⟩⟩
end TLD
