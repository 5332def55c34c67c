/-! PURE PART: lay. -/
section OPT
variable {N : Nat} {n nd es : Int32} {wt un ed : Nat → Int32} {G : Nat → Nat → Int64} {g : Nat → Int64} {sz ct : Nat → Int32} {P : Nat → Nat → Int64} {it : Nat → Int64} {fa : Nat → Int64}
theorem z_aboveB (hN : N ≤ 9) {p : Nat} (hp : p < N) (V : Nat → Int64) (b : Bool) : f_X5_shareAbove (nI N) b V (nI p) = some ((shr N V p (2 ^ N)).1, b || (shr N V p (2 ^ N)).2) := by
  have hpw := pw_le hN
  have e0 : b = (b || (shr N V p 0).2) := by cases b <;> rfl
  rw [f_X5_shareAbove]
  refine (congrArg (L_X5_shareAbove_1 (nI N) V (nI p) FU 0 0) e0).trans ?_
  refine lp_cf (L := fun m i => L_X5_shareAbove_1 (nI N) V (nI p) m (shr N V p i).1 (nI i) (b || (shr N V p i).2)) (2 ^ N) (fun m => ?_) (fun m i hi => ?_) (2 ^ N) 0 FU (by omega) (by rw [FU_eq]; omega)
  · show B_X5_shareAbove_1 _ _ _ _ _ _ _ = _
    rw [B_X5_shareAbove_1, z_sets hN, Option.bind_some, if_neg (by rw [ltI (by omega) (by omega)]; omega)]
  · show B_X5_shareAbove_1 _ _ _ _ _ _ _ = _
    rw [B_X5_shareAbove_1, z_sets hN, Option.bind_some, if_pos (by rw [ltI (by omega) (by omega)]; omega), z_has (by omega) (by omega), Option.bind_some]
    simp only [jn2_eq, nm_eq, nI_1]
    cases c : i.testBit p
    · have hl := pcn_lt hN hi hp c
      have := oar_le hN hl
      simp only [Bool.false_eq_true, if_false, shr, c]
      rw [z_addedBy hN hp hi, Option.bind_some, z_oar hN (by omega) hl, Option.bind_some, nI_l (by omega), z_product, Option.bind_some, z_plus, Option.bind_some]
      simp only [Bool.or_assoc]
    · simp only [if_true, shr, c]
/-- does some share go beyond -/
def shB (N : Nat) (V : Nat → Int64) : Nat → Bool
  | 0 => false
  | p + 1 => shB N V p || (shr N V p (2 ^ N)).2
def shW (N : Nat) (V : Nat → Int64) (p : Nat) : Int64 := (shr N V p (2 ^ N)).1
theorem z_wholes (hN : N ≤ 9) {j : Nat} (hj : j < 4) (G : Nat → Nat → Int64) (wh : Nat → Int64) (b : Bool) : f_X5_fillWholes (nI N) b G wh (nI j) = some (!shB N (G j) N, shB N (G j) N, fil wh N (shW N (G j))) := by
  rw [f_X5_fillWholes, f_X1_begin, nm_eq, Option.bind_some]
  refine (congrArg (L_X5_fillWholes_1 (nI N) G (nI j) _ FU 0 false) (fil_0 (w := wh) (F := shW N (G j))).symm).trans ?_
  refine lp_cf (L := fun m i => L_X5_fillWholes_1 (nI N) G (nI j) _ m (nI i) (shB N (G j) i) (fil wh i (shW N (G j)))) N (fun m => ?_) (fun m i hi => ?_) N 0 FU (by omega) (by rw [FU_eq]; omega)
  · show B_X5_fillWholes_1 _ _ _ _ _ _ _ _ = _
    rw [B_X5_fillWholes_1, if_neg (by rw [ltI (by omega) (by omega)]; omega)]
    cases shB N (G j) N <;> rfl
  · show B_X5_fillWholes_1 _ _ _ _ _ _ _ _ = _
    rw [B_X5_fillWholes_1, if_pos (by rw [ltI (by omega) (by omega)]; omega), ck_nI hj (by omega), nI_clamp (show j < 2 ^ 31 by omega), z_aboveB hN hi, Option.bind_some, ck_nI (show i < 9 by omega) (by omega), nI_clamp (show i < 2 ^ 31 by omega)]
    simp only [nm_eq, nI_1]
    rw [show (shr N (G j) i (2 ^ N)).1 = shW N (G j) i from rfl, fil_s rfl]
    rfl
end OPT
