/-! PURE PART: read. -/
section OPS
variable {N : Nat} {n nd es : Int32} {wt un ed : Nat → Int32} {G : Nat → Nat → Int64} {g : Nat → Int64} {tl fed : Int32} {tb tp : Nat → Int32}
/-- a row of the model with a whole game laid anew -/
theorem RG.anew (R : RG N n nd es wt un ed G g) {j : Nat} (hj : j < 4) {w : Nat → Int64} (hw : w 0 = 0) {g' : Nat → Int64} (h1 : ∀ k, k < 183 + 512 * j ∨ 183 + 512 * j + 2 ^ N ≤ k → g' k = g k) (h2 : ∀ s, s < 2 ^ N → g' (183 + 512 * j + s) = w s) : RG N n nd es wt un ed (Gset G j (2 ^ N) w) g' := by
  refine (R.game hj hw).congr rfl rfl rfl (fun _ _ => rfl) (fun _ _ => rfl) (fun _ _ => rfl) (fun _ _ _ _ => rfl) (fun k hk => ?_)
  by_cases c : 183 + 512 * j ≤ k ∧ k < 183 + 512 * j + 2 ^ N
  · obtain ⟨s, rfl⟩ : ∃ s, k = 183 + 512 * j + s := ⟨k - (183 + 512 * j), by omega⟩
    rw [h2 s (by omega), gset_at (by omega)]
  · rw [h1 k (by omega), gset_ne (by omega)]
theorem app_0 {s : Nat → Nat} {x w : Nat → Int64} : ∀ q, (∀ k, k < q → 0 < s k) → app s x w q 0 = w 0
  | 0, _ => rfl
  | q + 1, h => by
    have := h q (by omega)
    rw [app, pk_uLn (by omega), app_0 q (fun k hk => h k (by omega))]
theorem o_read (R : RG N n nd es wt un ed G g) (T : RT tl tb fed tp) (ta : Int32) (tn : Int64) (wk : Nat → Int64) (at_ : Int32) (rs : Nat → Int32) (rv : Nat → Int64) (a1 : Int32) : ∃ r tl' ta' tn' G' wk' fed' at' g' rs' rv', f_X5_read n tl ta tn tb G wk a1 = some (r, tl', ta', tn', G', wk') ∧ f_X6_read fed at_ g tp rs rv a1 = some (r, fed', at', g', rs', rv') ∧ RG N n nd es wt un ed G' g' ∧ RT tl' tb fed' tp := by
  obtain ⟨h1, h2, h3, h4⟩ := id R.1
  subst h3
  have hpw := pw_le h2
  have hp1 := pw_pos N
  rw [f_X5_read, f_X6_read, z_isGame, z_isGameM, Option.bind_some, Option.bind_some]
  by_cases c0 : inb a1 4 = true
  · rw [if_pos c0, if_pos c0]
    obtain ⟨j, hj, hj2, rfl⟩ := inb_of c0
    obtain ⟨K, hK, rfl, rfl, hT⟩ := id T
    obtain ⟨C, hC⟩ : ∃ C : Nat → Nat, ∀ i, i < K → 1 ≤ C i ∧ C i ≤ 127 ∧ tb i = nI (C i) ∧ tp i = nI (C i) := by
      refine ⟨fun i => if h : i < K then Classical.choose (hT i h) else 0, fun i hi => ?_⟩
      dsimp only
      rw [dif_pos hi]
      exact Classical.choose_spec (hT i hi)
    have TT : TP K C tb tp := ⟨hK, hC⟩
    have hV := R.2.2.2.2.2.2.2 j hj
    rw [ck_nI hj (by omega), nI_clamp hj2, z_sets h2, Option.bind_some, cpk_ok2 hpw, ck_true]
    simp only [nm_eq]
    obtain ⟨w0, hw0⟩ : ∃ w0, w0 = va_cpy (G j) wk (0 : Int32).toNatClampNeg (0 : Int32).toNatClampNeg (nI (2 ^ N)).toNatClampNeg := ⟨_, rfl⟩
    have hw0s : ∀ s, s < 2 ^ N → w0 s = G j s := fun s hs => by
      rw [hw0, nI_clamp (by omega)]
      exact cpy_lt hs
    rw [← hw0]
    obtain ⟨fu, hfu⟩ : ∃ k, k = FU := ⟨_, rfl⟩
    have hfu2 : fu = 100000 := hfu.trans FU_eq
    obtain ⟨ok, q, p, tn', w', rs', rv', s', g1, g2, g3, g4, g5⟩ := z_parts2 TT h4 h2 h1 w0 (fun (v14 : Int32) (ta15 : Int32) (tn16 : Int64) (wk17 : Nat → Int64) => if (ta15 : Int32) < nI K then (some ((-100) - ta15, ta15, tn16, wk17)) else (some (v14, ta15, tn16, wk17))) (fun _ _ _ _ => rfl) K 0 0 fu fu tn rs rv (fun _ => 0) (by omega) (by omega) (by omega) (by omega) (by omega) (fun k hk => by omega)
    rw [f_X4_readInto, ← hfu]
    simp only [nm_eq]
    have g3' : L_X4_readInto_1 (nI K) tb (nI N) (fun (v14 : Int32) (ta15 : Int32) (tn16 : Int64) (wk17 : Nat → Int64) => if (ta15 : Int32) < nI K then (some ((-100) - ta15, ta15, tn16, wk17)) else (some (v14, ta15, tn16, wk17))) fu 0 true 0 0 tn w0 = some (if ok = true then nI (q + 1) else (-100) - nI p, nI p, tn', w') := g3
    rw [g3', Option.bind_some, f_X4_wipe]
    simp only [nm_eq, Option.bind_some]
    have g4' := g4 (fun (v15 : Int32) (v16 : Bool) (at_17 : Int32) (rs18 : Nat → Int32) (rv19 : Nat → Int64) => if v16 = true then (L_X6_read_2 (nI j) v15 at_17 rs18 rv19 0 fu 0 g) else (some ((-100) - at_17, 0, at_17, g, rs18, rv19)))
    have RT0 : RT 0 tb 0 tp := ⟨0, by omega, rfl, rfl, fun i hi => by omega⟩
    cases ok
    · refine ⟨(-100) - nI p, 0, nI p, tn', G, w', 0, nI p, g, rs', rv', ?_, g4', R, RT0⟩
      have hneg : ¬ (0 : Int32) < (-100) - nI p := by
        rw [Int32.lt_iff_toInt_lt, i32_sub (by decide) (by decide) (by rw [nI_toInt (by omega)]; omega) (by rw [nI_toInt (by omega)]; omega), nI_toInt (by omega), Int32.toInt_zero, show (-100 : Int32).toInt = -100 from by decide]
        omega
      simp only [Bool.false_eq_true, if_false]
      rw [if_neg hneg]
    · obtain ⟨k1, k2⟩ := g5 rfl
      have hpos : (0 : Int32) < nI (q + 1) := by
        rw [show (0 : Int32) = nI 0 from rfl, ltI (by omega) (by omega)]; omega
      obtain ⟨gi, hgi⟩ : ∃ gi : Nat → Nat → Int64, gi = fun i k => if 183 + 512 * j ≤ k ∧ k < 183 + 512 * j + 2 ^ N then app s' rv' (fun s => g (183 + 512 * j + s)) i (k - (183 + 512 * j)) else g k := ⟨_, rfl⟩
      have eL : L_X6_read_2 (nI j) (nI q) (nI p) rs' rv' 0 fu 0 g = some (nI (q + 1), 0, nI p, gi (q + 1), rs', rv') := by
        have e0 : g = gi 0 := by
          funext k
          rw [hgi]
          dsimp only [app]
          split
          · rename_i c
            rw [show 183 + 512 * j + (k - (183 + 512 * j)) = k by omega]
          · rfl
        refine (congrArg (L_X6_read_2 (nI j) (nI q) (nI p) rs' rv' 0 fu 0) e0).trans ?_
        refine lp_cf (L := fun m i => L_X6_read_2 (nI j) (nI q) (nI p) rs' rv' 0 m (nI i) (gi i)) (q + 1) (fun m => ?_) (fun m i hi => ?_) (q + 1) 0 fu (by omega) (by omega)
        · show B_X6_read_2 _ _ _ _ _ _ _ _ _ = _
          rw [B_X6_read_2, if_pos (by rw [ltI (by omega) (by omega)]; omega), nI_1]
        · show B_X6_read_2 _ _ _ _ _ _ _ _ _ = _
          obtain ⟨m1, m2, m3⟩ := k1 i (by omega)
          rw [B_X6_read_2, if_neg (by rw [ltI (by omega) (by omega)]; omega), ck_nI (show i < 120 by omega) (by omega), ck_nI (show i < 120 by omega) (by omega), nI_clamp (show i < 2 ^ 31 by omega), m1, z_vix hj (show s' i < 512 by omega), ck_nI (by omega) (by omega), nI_clamp (by omega)]
          simp only [nm_eq, nI_1]
          congr 1
          funext k
          rw [hgi]
          dsimp only [app]
          by_cases e : k = 183 + 512 * j + s' i
          · subst e
            rw [pk_uLs, if_pos (by omega), Nat.add_sub_cancel_left, pk_uLs]
          · rw [pk_uLn e]
            split
            · rw [pk_uLn (by omega)]
            · rfl
      refine ⟨nI (q + 1), 0, nI p, tn', Gset G j (2 ^ N) w', w', 0, nI p, gi (q + 1), rs', rv', ?_, ?_, ?_, RT0⟩
      · simp only [if_true]
        rw [if_pos hpos, z_settle h2 hj, Option.bind_some]
      · refine Eq.trans g4' ?_
        simp only [if_true]
        exact eL
      · have hs0 : ∀ k, k < q + 1 → 0 < s' k := fun k hk => (k1 k hk).2.2
        refine R.anew hj ?_ (fun k hk => ?_) (fun s hs => ?_)
        · rw [k2, app_0 _ hs0, hw0s 0 (by omega), hV]
        · rw [hgi]
          exact if_neg (by omega)
        · rw [hgi, k2]
          dsimp only
          rw [if_pos (by omega), Nat.add_sub_cancel_left]
          have : ∀ i, i ≤ q + 1 → app s' rv' (fun s => g (183 + 512 * j + s)) i s = app s' rv' w0 i s := fun i => by
            induction i with
            | zero =>
              intro _
              show g (183 + 512 * j + s) = w0 s
              rw [hw0s s hs, R.2.2.2.2.2.2.1 j hj s hs]
            | succ i ih =>
              intro hi
              rw [app, app]
              by_cases e : s = s' i
              · subst e
                rw [pk_uLs, pk_uLs]
              · rw [pk_uLn e, pk_uLn e, ih (by omega)]
          exact this (q + 1) (Nat.le_refl _)
  · rw [if_neg c0, if_neg c0]
    exact ⟨_, _, _, _, _, _, _, _, _, _, _, rfl, rfl, R, T⟩
end OPS
