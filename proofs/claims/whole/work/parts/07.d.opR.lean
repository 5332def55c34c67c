/-! PURE PART: the tape is read, part after part. -/
/-- what the parts told, laid one after another -/
def app (s : Nat → Nat) (x : Nat → Int64) (w : Nat → Int64) : Nat → Nat → Int64
  | 0 => w
  | q + 1 => vp_updL (app s x w q) (s q) (x q)
theorem app_congr {s s' : Nat → Nat} {x x' w : Nat → Int64} : ∀ q, (∀ k, k < q → s k = s' k ∧ x k = x' k) → app s x w q = app s' x' w q
  | 0, _ => rfl
  | q + 1, h => by
    rw [app, app, app_congr q (fun k hk => h k (by omega)), (h q (by omega)).1, (h q (by omega)).2]
section OPR
variable {K : Nat} {C : Nat → Nat} {tb tp : Nat → Int32} {N : Nat} {g : Nat → Int64}
theorem z_parts2 (T : TP K C tb tp) (h0 : g 0 = lN N) (hN : N ≤ 9) (h1 : 1 ≤ N) (w0 : Nat → Int64) (kc : Int32 → Int32 → Int64 → (Nat → Int64) → Option (Int32 × Int32 × Int64 × (Nat → Int64))) (hkc : ∀ v p tn w, kc v (nI p) tn w = if nI p < nI K then some ((-100) - nI p, nI p, tn, w) else some (v, nI p, tn, w)) : ∀ d q p m m' (tn : Int64) (rs : Nat → Int32) (rv : Nat → Int64) (s : Nat → Nat), p + d = K → q ≤ p → q < 120 → d + 2 < m → d + 2 < m' → (∀ k, k < q → rs k = nI (s k) ∧ s k < 2 ^ N ∧ 0 < s k) →
    ∃ (ok : Bool) (q' p' : Nat) (tn' : Int64) (w' : Nat → Int64) (rs' : Nat → Int32) (rv' : Nat → Int64) (s' : Nat → Nat), q' < 120 ∧ p' ≤ K ∧
      L_X4_readInto_1 (nI K) tb (nI N) kc m (nI q) true (nI q) (nI p) tn (app s rv w0 q) = some (if ok = true then nI (q' + 1) else (-100) - nI p', nI p', tn', w') ∧
      (∀ kx, (f_X6_readsPart (nI K) (nI p) g tp rs rv (nI q)).bind (fun r => L_X6_read_1 (nI K) g tp kx m' (nI q) r.1 r.2.1 r.2.2.1 r.2.2.2) = kx (nI q') ok (nI p') rs' rv') ∧
      (ok = true → (∀ k, k < q' + 1 → rs' k = nI (s' k) ∧ s' k < 2 ^ N ∧ 0 < s' k) ∧ w' = app s' rv' w0 (q' + 1)) := by
  intro d
  induction d using Nat.strongRecOn with
  | _ d ih =>
    intro q p m m' tn rs rv s hd hqp hq hm hm' hs
    have hK := T.1
    obtain ⟨m, rfl⟩ : ∃ k, m = k + 1 := ⟨m - 1, by omega⟩
    obtain ⟨m', rfl⟩ : ∃ k, m' = k + 1 := ⟨m' - 1, by omega⟩
    obtain ⟨ok, p', tn', wk', rs', rv', e1, e2, e3, e4, e5, e6⟩ := z_readPart T h0 hN h1 (show p ≤ K by omega) hq tn (app s rv w0 q) rs rv
    have hc := chr_le T p'
    have eC : L_X4_readInto_1 (nI K) tb (nI N) kc (m + 1) (nI q) true (nI q) (nI p) tn (app s rv w0 q) = if ok = true then (if chr K C p' = 59 then L_X4_readInto_1 (nI K) tb (nI N) kc m (nI (q + 1)) true (nI (q + 1)) (nI (p' + 1)) tn' wk' else L_X4_readInto_1 (nI K) tb (nI N) kc m (nI (q + 1)) false (nI (q + 1)) (nI p') tn' wk') else some ((-100) - nI p', nI p', tn', wk') := by
      show B_X4_readInto_1 _ _ _ _ _ _ _ _ _ _ _ = _
      rw [B_X4_readInto_1, if_pos rfl, if_pos (show nI q < 120 by rw [show (120 : Int32) = nI 120 from rfl, ltI (by omega) (by omega)]; exact hq), e1, Option.bind_some]
      simp only [nm_eq]
      rw [show (59 : Int32) = nI 59 from rfl, z_take T e4 (by omega), Option.bind_some, nI_1]
      cases ok
      · rfl
      · rw [if_pos rfl, if_pos rfl]
        split <;> rfl
    cases ok
    · rw [if_neg (by decide)] at eC
      rw [e2, Bool.false_and]
      refine ⟨false, q, p', tn', wk', rs', rv', s, hq, e4, by rw [eC]; rfl, fun kx => ?_, (fun h => by cases h)⟩
      rw [Option.bind_some]
      show B_X6_read_1 _ _ _ _ _ _ _ _ _ _ = _
      rw [B_X6_read_1, if_neg Bool.false_ne_true]
    · obtain ⟨f1, t, x, f2, f3, f4, f5, f6⟩ := e5 rfl
      rw [if_pos rfl] at eC
      obtain ⟨s2, hs2⟩ : ∃ s2 : Nat → Nat, s2 = fun k => if k = q then t else s k := ⟨_, rfl⟩
      have hsk : ∀ k, k < q + 1 → rs' k = nI (s2 k) ∧ s2 k < 2 ^ N ∧ 0 < s2 k := fun k hk => by
        rw [hs2]
        dsimp only
        by_cases e : k = q
        · subst e
          rw [if_pos rfl]
          exact ⟨f5, f2, f3⟩
        · rw [if_neg e, (e6 k e).1]
          exact hs k (by omega)
      have hw : wk' = app s2 rv' w0 (q + 1) := by
        rw [f4, app, hs2]
        dsimp only
        rw [if_pos rfl, f6]
        congr 1
        refine app_congr q (fun k hk => ⟨?_, (e6 k (by omega)).2.symm⟩)
        exact (if_neg (show ¬ k = q by omega)).symm
      by_cases c : chr K C p' = 59
      · have hlt : p' < K := chr_lt T (by omega)
        rw [if_pos c] at eC
        obtain ⟨ok2, q2, p2, tn2, w2, rs2, rv2, s3, g1, g2, g3, g4, g5⟩ := ih (K - (p' + 1)) (by omega) (q + 1) (p' + 1) m m' tn' rs' rv' s2 (by omega) (by omega) (by omega) (by omega) (by omega) hsk
        refine ⟨ok2, q2, p2, tn2, w2, rs2, rv2, s3, g1, g2, ?_, fun kx => ?_, g5⟩
        · rw [eC, hw]; exact g3
        · rw [e2, Option.bind_some, ← g4 kx, c]
          have : (true && (decide (p' = K) || decide (59 = 59))) = true := by simp
          rw [this]
          show B_X6_read_1 _ _ _ _ _ _ _ _ _ _ = _
          rw [B_X6_read_1, if_pos rfl, z_hereM T e4, Option.bind_some, c, if_neg (show ¬ (59 : Nat) = 0 by decide), if_pos (show nI 59 = 59 from rfl)]
          simp only [nm_eq, nI_1]
      · rw [if_neg c] at eC
        obtain ⟨m, rfl⟩ : ∃ k, m = k + 1 := ⟨m - 1, by omega⟩
        have eK : L_X4_readInto_1 (nI K) tb (nI N) kc (m + 1) (nI (q + 1)) false (nI (q + 1)) (nI p') tn' wk' = kc (nI (q + 1)) (nI p') tn' wk' := by
          show B_X4_readInto_1 _ _ _ _ _ _ _ _ _ _ _ = _
          rw [B_X4_readInto_1, if_neg (by decide)]
        rw [eK, hkc] at eC
        have hlt : (nI p' < nI K) = (p' < K) := ltI (by omega) (by omega)
        simp only [hlt] at eC
        rw [decide_eq_false c, Bool.or_false, Bool.true_and] at e2
        by_cases cK : p' = K
        · rw [if_neg (by omega)] at eC
          rw [decide_eq_true cK] at e2
          refine ⟨true, q, p', tn', wk', rs', rv', s2, hq, e4, by rw [eC]; rfl, fun kx => ?_, fun _ => ⟨hsk, hw⟩⟩
          rw [e2, Option.bind_some]
          show B_X6_read_1 _ _ _ _ _ _ _ _ _ _ = _
          have hne : ¬ (if chr K C p' = 0 then (-1 : Int32) else nI (chr K C p')) = 59 := by
            split
            · decide
            · exact fun z => c ((nI_eq (a := chr K C p') (b := 59) (by omega) (by omega)).mp z)
          rw [B_X6_read_1, if_pos rfl, z_hereM T e4, Option.bind_some, if_neg hne]
        · rw [if_pos (by omega)] at eC
          rw [decide_eq_false cK] at e2
          refine ⟨false, q, p', tn', wk', rs', rv', s2, hq, e4, by rw [eC]; rfl, fun kx => ?_, (fun h => by cases h)⟩
          rw [e2, Option.bind_some]
          show B_X6_read_1 _ _ _ _ _ _ _ _ _ _ = _
          rw [B_X6_read_1, if_neg Bool.false_ne_true]
end OPR
