/-! PURE PART: votes, swings. -/
def lw (Q : Nat) (W : Nat → Nat) (N s : Nat) : Bool := wn Q W N s && allF (fun p => !(s.testBit p && wn Q W N (dif s (2 ^ p)))) 0 N
def sw (Q : Nat) (W : Nat → Nat) (N p s : Nat) : Bool := !wn Q W N s && wn Q W N (bt s p)
section OPC
variable {N Q E : Nat} {n nd es : Int32} {wt un ed : Nat → Int32} {G : Nat → Nat → Int64} {g : Nat → Int64} {W : Nat → Nat}
theorem z_least (hN : N ≤ 9) (hQ : Q ≤ 9999) (hw : ∀ p, p < 9 → wt p = nI (W p)) (hw1 : ∀ p, p < 9 → W p ≤ 1000) {s : Nat} (hs : s < 512) : f_X0_winsBarely (nI N) (nI Q) wt (nI s) = some (lw Q W N s) := by
  rw [f_X0_winsBarely, z_wins hN hQ hw hw1 hs, Option.bind_some, lw]
  cases wn Q W N s
  · rfl
  · rw [if_pos rfl]
    refine (lp_all (L := fun m i => L_X0_winsBarely_1 (nI N) (nI Q) wt (nI s) m (nI i)) (K := some true) (R := some false) (fun p => !(s.testBit p && wn Q W N (dif s (2 ^ p)))) N (fun m => ?_) (fun m i hi => ?_) N 0 FU (by omega) (by rw [FU_eq]; omega)).trans ?_
    · show B_X0_winsBarely_1 _ _ _ _ _ _ = _
      rw [B_X0_winsBarely_1, if_neg (by rw [ltI (by omega) (by omega)]; omega)]
    · show B_X0_winsBarely_1 _ _ _ _ _ _ = _
      have := dif_le (a := s) (b := 2 ^ i)
      rw [B_X0_winsBarely_1, if_pos (by rw [ltI (by omega) (by omega)]; exact hi), z_has hs (by omega), Option.bind_some]
      simp only [jn0_eq, nm_eq]
      rw [shl_pw (by omega), nI_dif, z_wins hN hQ hw hw1 (by omega), Option.bind_some, nI_1]
      cases s.testBit i <;> cases wn Q W N (dif s (2 ^ i)) <;> rfl
    · cases allF (fun p => !(s.testBit p && wn Q W N (dif s (2 ^ p)))) 0 N <;> rfl
theorem z_leastM (hN : N ≤ 9) (hQ : Q ≤ 9999) (H : HD N Q E W ed g) {s : Nat} (hs : s < 512) : f_X6_isLeast g (nI s) = some (lw Q W N s) := by
  rw [f_X6_isLeast, z_winsM hN hQ H.1 H.2.1 H.2.2.2.1 hs, Option.bind_some, lw]
  cases wn Q W N s
  · rfl
  · rw [if_pos rfl]
    refine (lp_all (L := fun m i => L_X6_isLeast_1 g (nI s) m (nI i)) (K := some true) (R := some false) (fun p => !(s.testBit p && wn Q W N (dif s (2 ^ p)))) N (fun m => ?_) (fun m i hi => ?_) N 0 FU (by omega) (by rw [FU_eq]; omega)).trans ?_
    · show B_X6_isLeast_1 _ _ _ _ = _
      rw [B_X6_isLeast_1, z_nM H.1, Option.bind_some, if_neg (by rw [ltI (by omega) (by omega)]; omega)]
    · show B_X6_isLeast_1 _ _ _ _ = _
      have := dif_le (a := s) (b := 2 ^ i)
      rw [B_X6_isLeast_1, z_nM H.1, Option.bind_some, if_pos (by rw [ltI (by omega) (by omega)]; exact hi), z_hasM hs (by omega), Option.bind_some]
      simp only [jn0_eq, nm_eq]
      rw [shl_pw (by omega), nI_dif, z_winsM hN hQ H.1 H.2.1 H.2.2.2.1 (by omega), Option.bind_some, nI_1]
      cases s.testBit i <;> cases wn Q W N (dif s (2 ^ i)) <;> rfl
    · cases allF (fun p => !(s.testBit p && wn Q W N (dif s (2 ^ p)))) 0 N <;> rfl
theorem z_swingM (hN : N ≤ 9) (hQ : Q ≤ 9999) (H : HD N Q E W ed g) {m p : Nat} (hm : m < 2 ^ N) (hp : p < N) : f_X6_isSwing g (nI p) (nI m) = some (sw Q W N p m) := by
  have h2 := pw_le hN
  have h3 : m ||| 2 ^ p < 2 ^ N := bt_lt hm hp
  simp only [f_X6_isSwing, jn0_eq]
  rw [z_hasM (by omega) (by omega), Option.bind_some, shl_pw (by omega), nI_or, z_winsM hN hQ H.1 H.2.1 H.2.2.2.1 (by omega), z_winsM hN hQ H.1 H.2.1 H.2.2.2.1 (by omega), sw, bt]
  by_cases e : m.testBit p = true
  · rw [if_pos e, or_same e]
    cases wn Q W N m <;> rfl
  · rw [if_neg e]
    cases wn Q W N m
    · cases wn Q W N (m ||| 2 ^ p) <;> rfl
    · rfl
def sc (Q : Nat) (W : Nat → Nat) (N a s : Nat) : Bool := if a = 0 then wn Q W N s else if a = 1 then lw Q W N s else false
def bst (Q : Nat) (W : Nat → Nat) (N : Nat) : Nat → Option Nat
  | 0 => none
  | i + 1 => if wn Q W N i = true then (match bst Q W N i with | none => some i | some k => if pcn i < pcn k then some i else some k) else bst Q W N i
theorem bst_lt : ∀ i k, bst Q W N i = some k → k < i
  | 0, k, h => by cases h
  | i + 1, k, h => by
    have ih := bst_lt i
    revert h
    simp only [bst]
    split
    · split
      · intro h; cases h; omega
      · rename_i k' e
        have := ih k' e
        split <;> intro h <;> cases h <;> omega
    · intro h
      have := ih k h
      omega
theorem z_rng02 {ρ : Type} {a : Int32} {x0 x1 x2 y : ρ} : (if a = 0 then x0 else if a = 1 then x1 else if a = 2 then x2 else y) = if inb a 3 = true then (if a = 0 then x0 else if a = 1 then x1 else x2) else y := by
  by_cases h : inb a 3 = true
  · rw [if_pos h]
    obtain ⟨k, hk, hk2, rfl⟩ := inb_of h
    have : k = 0 ∨ k = 1 ∨ k = 2 := by omega
    rcases this with e | e | e <;> subst e <;> rfl
  · rw [if_neg h, if_neg (fun e : a = 0 => h (by rw [e]; decide)), if_neg (fun e : a = 1 => h (by rw [e]; decide)), if_neg (fun e : a = 2 => h (by rw [e]; decide))]
theorem o_votes (R : RG N n nd es wt un ed G g) (a1 : Int32) : ∃ r, f_X5_votes n nd wt a1 = some r ∧ f_X6_votes g a1 = some r := by
  obtain ⟨h1, h2, h3, h4⟩ := id R.1
  subst h3
  have hp := pw_le h2
  have hp1 := pw_pos N
  obtain ⟨Q, E, W, q1, -, rfl, -, hw, H⟩ := R.head
  have hw1 : ∀ p, p < 9 → W p ≤ 1000 := fun p hp => (H.2.2.2.1 p hp).1
  rw [f_X6_votes, show (2 : Int64) = (nI 2).toInt64 from rfl, z_inI a1 (by omega), Option.bind_some, f_X5_votes, z_rng02]
  by_cases c : inb a1 (2 + 1) = true
  · rw [if_pos c, if_pos c]
    obtain ⟨a, ha, ha2, rfl⟩ := inb_of c
    have eM : f_X6_votes g (nI a) = some (if a = 2 then oi (bst Q W N (2 ^ N)) else nI (cnt (sc Q W N a) (2 ^ N))) := by
      rw [f_X6_votes, show (2 : Int64) = (nI 2).toInt64 from rfl, z_inI _ (by omega), Option.bind_some, if_pos c]
      refine lp_cf (L := fun m i => L_X6_votes_1 g (nI a) _ m (nI (cnt (sc Q W N a) i)) (oi (bst Q W N i)) (nI i)) (2 ^ N) (fun m => ?_) (fun m i hi => ?_) (2 ^ N) 0 FU (by omega) (by rw [FU_eq]; omega)
      · show B_X6_votes_1 _ _ _ _ _ _ _ = _
        rw [B_X6_votes_1, R.all, Option.bind_some, if_pos (by rw [ltI (by omega) (by omega)]; omega)]
        have : (nI a = 2) = (a = 2) := eqI (a := a) (b := 2) (by omega) (by omega)
        simp only [this]
        split <;> rfl
      · show B_X6_votes_1 _ _ _ _ _ _ _ = _
        rw [B_X6_votes_1, R.all, Option.bind_some, if_neg (by rw [ltI (by omega) (by omega)]; omega)]
        simp only [jn0_eq, jn1_eq, nm_eq, nI_1, z_winsM h2 q1 H.1 H.2.1 H.2.2.2.1 (show i < 512 by omega), z_leastM h2 q1 H (show i < 512 by omega), Option.bind_some]
        have hb : (if wn Q W N i = true then (if oi (bst Q W N i) < 0 then L_X6_votes_1 g (nI a) (fun (v23 : Int32) (v24 : Int32) => if (nI a : Int32) = 2 then (some v24) else (some v23)) m (nI (cnt (sc Q W N a) (i + 1))) (nI i) (nI (i + 1)) else Option.bind (f_X6_size (nI i)) fun r16 => Option.bind (f_X6_size (oi (bst Q W N i))) fun r17 => if r16 < r17 then L_X6_votes_1 g (nI a) (fun (v23 : Int32) (v24 : Int32) => if (nI a : Int32) = 2 then (some v24) else (some v23)) m (nI (cnt (sc Q W N a) (i + 1))) (nI i) (nI (i + 1)) else L_X6_votes_1 g (nI a) (fun (v23 : Int32) (v24 : Int32) => if (nI a : Int32) = 2 then (some v24) else (some v23)) m (nI (cnt (sc Q W N a) (i + 1))) (oi (bst Q W N i)) (nI (i + 1))) else L_X6_votes_1 g (nI a) (fun (v23 : Int32) (v24 : Int32) => if (nI a : Int32) = 2 then (some v24) else (some v23)) m (nI (cnt (sc Q W N a) (i + 1))) (oi (bst Q W N i)) (nI (i + 1))) = L_X6_votes_1 g (nI a) (fun (v23 : Int32) (v24 : Int32) => if (nI a : Int32) = 2 then (some v24) else (some v23)) m (nI (cnt (sc Q W N a) (i + 1))) (oi (bst Q W N (i + 1))) (nI (i + 1)) := by
          by_cases cw : wn Q W N i = true
          · rw [if_pos cw]
            simp only [bst, if_pos cw]
            cases e : bst Q W N i with
            | none => rfl
            | some k =>
              have := bst_lt i k e
              have hc := pcn_le i
              have hd := pcn_le k
              have h5 := nI_pos (show k < 2 ^ 31 by omega)
              simp only [oi, h5, if_false, z_size (show i < 512 by omega), z_size (show k < 512 by omega), Option.bind_some, ltI (show pcn i < 2 ^ 31 by omega) (show pcn k < 2 ^ 31 by omega)]
              split <;> rfl
          · rw [if_neg cw]
            simp only [bst, if_neg cw]
        have hc1 : ∀ b : Bool, sc Q W N a i = b → nI (cnt (sc Q W N a) i) + bI b = nI (cnt (sc Q W N a) (i + 1)) := fun b hb => by
          cases b
          · simp [cnt, hb, bI]
          · simp [cnt, hb, bI, nI_1]
        have hct : sc Q W N a i = true → cnt (sc Q W N a) i + 1 = cnt (sc Q W N a) (i + 1) := fun hb => by simp [cnt, hb]
        have ea0 : (nI a = 0) = (a = 0) := eqI (a := a) (b := 0) (by omega) (by omega)
        have ea1 : (nI a = 1) = (a = 1) := eqI (a := a) (b := 1) (by omega) (by omega)
        simp only [ea0, ea1]
        by_cases e0 : a = 0
        · subst e0
          simp only [if_true, Nat.zero_ne_one, if_false]
          cases cw : wn Q W N i
          · have := hc1 false (by simp [sc, cw])
            simp only [bI, Bool.false_eq_true, if_false] at this ⊢
            rw [this]
            rw [cw] at hb
            exact hb
          · have := hct (by simp [sc, cw])
            simp only [if_true]
            rw [this]
            rw [cw] at hb
            exact hb
        · by_cases e1 : a = 1
          · subst e1
            simp only [if_true, Nat.one_ne_zero, if_false]
            cases cl : lw Q W N i
            · have := hc1 false (by simp [sc, cl])
              simp only [bI, Bool.false_eq_true, if_false] at this ⊢
              rw [this]
              exact hb
            · have := hct (by simp [sc, cl])
              simp only [if_true]
              rw [this]
              exact hb
          · have := hc1 false (by simp [sc, e0, e1])
            simp only [bI, if_neg e0, if_neg e1, Bool.false_eq_true, if_false] at this ⊢
            rw [this]
            exact hb
    refine ⟨if a = 2 then oi (bst Q W N (2 ^ N)) else nI (cnt (sc Q W N a) (2 ^ N)), ?_, ?_⟩
    · have ea0 : (nI a = 0) = (a = 0) := eqI (a := a) (b := 0) (by omega) (by omega)
      have ea1 : (nI a = 1) = (a = 1) := eqI (a := a) (b := 1) (by omega) (by omega)
      simp only [ea0, ea1]
      have : a = 0 ∨ a = 1 ∨ a = 2 := by omega
      rcases this with e | e | e
      · subst e
        rw [if_pos rfl, if_neg (by decide)]
        have e1 : f_X5_countWinning (nI N) (nI Q) wt = some (nI (cnt (sc Q W N 0) (2 ^ N))) := by
          refine lp_cf (L := fun m i => L_X5_countWinning_1 (nI N) (nI Q) wt m (nI (cnt (sc Q W N 0) i)) (nI i)) (2 ^ N) (fun m => ?_) (fun m i hi => ?_) (2 ^ N) 0 FU (by omega) (by rw [FU_eq]; omega)
          · show B_X5_countWinning_1 _ _ _ _ _ _ = _
            rw [B_X5_countWinning_1, z_sets h2, Option.bind_some, if_neg (by rw [ltI (by omega) (by omega)]; omega)]
          · show B_X5_countWinning_1 _ _ _ _ _ _ = _
            rw [B_X5_countWinning_1, z_sets h2, Option.bind_some, if_pos (by rw [ltI (by omega) (by omega)]; omega), z_wins h2 q1 hw hw1 (by omega), Option.bind_some]
            simp only [jn1_eq, nm_eq, nI_1, cnt, sc, if_true]
            cases wn Q W N i <;> rfl
        rw [e1]; rfl
      · subst e
        rw [if_neg (by decide), if_pos rfl, if_neg (by decide)]
        have e1 : f_X5_countBarelyWinning (nI N) (nI Q) wt = some (nI (cnt (sc Q W N 1) (2 ^ N))) := by
          refine lp_cf (L := fun m i => L_X5_countBarelyWinning_1 (nI N) (nI Q) wt m (nI (cnt (sc Q W N 1) i)) (nI i)) (2 ^ N) (fun m => ?_) (fun m i hi => ?_) (2 ^ N) 0 FU (by omega) (by rw [FU_eq]; omega)
          · show B_X5_countBarelyWinning_1 _ _ _ _ _ _ = _
            rw [B_X5_countBarelyWinning_1, z_sets h2, Option.bind_some, if_neg (by rw [ltI (by omega) (by omega)]; omega)]
          · show B_X5_countBarelyWinning_1 _ _ _ _ _ _ = _
            rw [B_X5_countBarelyWinning_1, z_sets h2, Option.bind_some, if_pos (by rw [ltI (by omega) (by omega)]; omega), z_least h2 q1 hw hw1 (by omega), Option.bind_some]
            simp only [jn1_eq, nm_eq, nI_1, cnt, sc, Nat.one_ne_zero, if_false, if_true]
            cases lw Q W N i <;> rfl
        rw [e1]; rfl
      · subst e
        rw [if_neg (by decide), if_neg (by decide), if_pos rfl]
        have e1 : f_X5_smallestWinning (nI N) (nI Q) wt = some (oi (bst Q W N (2 ^ N))) := by
          refine lp_cf (L := fun m i => L_X5_smallestWinning_1 (nI N) (nI Q) wt m (oi (bst Q W N i)) (match bst Q W N i with | none => 10 | some k => nI (pcn k)) (nI i)) (2 ^ N) (fun m => ?_) (fun m i hi => ?_) (2 ^ N) 0 FU (by omega) (by rw [FU_eq]; omega)
          · show B_X5_smallestWinning_1 _ _ _ _ _ _ _ = _
            rw [B_X5_smallestWinning_1, z_sets h2, Option.bind_some, if_neg (by rw [ltI (by omega) (by omega)]; omega)]
          · show B_X5_smallestWinning_1 _ _ _ _ _ _ _ = _
            have hc := pcn_le i
            rw [B_X5_smallestWinning_1, z_sets h2, Option.bind_some, if_pos (by rw [ltI (by omega) (by omega)]; omega), z_bitCount (by omega), Option.bind_some, z_wins h2 q1 hw hw1 (by omega)]
            simp only [jn2_eq, nm_eq, nI_1, Option.bind_some]
            by_cases cw : wn Q W N i = true
            · simp only [bst, if_pos cw]
              cases e : bst Q W N i with
              | none =>
                have : nI (pcn i) < 10 := by
                  rw [show (10 : Int32) = nI 10 from rfl, ltI (by omega) (by omega)]
                  omega
                simp only [if_pos this, oi]
              | some k =>
                have := bst_lt i k e
                have hd := pcn_le k
                simp only [ltI (show pcn i < 2 ^ 31 by omega) (show pcn k < 2 ^ 31 by omega)]
                split <;> rfl
            · simp only [bst, if_neg cw, ite_self]
        rw [e1]; rfl
    · rw [← eM, f_X6_votes, show (2 : Int64) = (nI 2).toInt64 from rfl, z_inI _ (by omega), Option.bind_some, if_pos c]
  · rw [if_neg c, if_neg c]
    exact ⟨_, rfl, rfl⟩
end OPC
