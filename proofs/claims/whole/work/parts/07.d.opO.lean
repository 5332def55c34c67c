/-! PURE PART: owen, the whole. -/
section OPO
variable {N : Nat} {n nd es : Int32} {wt un ed : Nat → Int32} {G : Nat → Nat → Int64} {g : Nat → Int64} {L U : Nat → Nat} {fa : Nat → Int64}
def owt (N : Nat) (L U : Nat → Nat) (a s : Nat) : Nat := ((fct (cnt (okC L a s) N) * fct (ctu N L - cnt (okC L a s) N - 1)) * fct (pcn (s &&& U a))) * fct (pcn (U a) - pcn (s &&& U a) - 1)
def ows (N : Nat) (L U : Nat → Nat) (V : Nat → Int64) (a : Nat) : Nat → Int64 × Bool
  | 0 => (0, false)
  | s + 1 => if s.testBit a = true then ows N L U V a s else if allF (fun p => !bdC L U a s p) 0 N = true then
      let x := gn V a s * lN (owt N L U a s)
      ((ows N L U V a s).1 + x, (((ows N L U V a s).2 || gno V a s) || ovt (gn V a s) (lN (owt N L U a s))) || ovp (ows N L U V a s).1 x)
    else ows N L U V a s
theorem pcn_in (H : LU N L U) (hN : N ≤ 9) {a s : Nat} (ha : a < N) (hs : s.testBit a = false) : pcn (s &&& U a) < pcn (U a) := by
  rw [pcn_cnt, pcn_cnt]
  refine cnt_strict (p := a) (by simp only [Nat.testBit_and, hs]; rfl) (by simp only [(H a ha).2.2.2]; simp [ha]) 9 (by omega) (fun i _ h => ?_)
  rw [Nat.testBit_and, Bool.and_eq_true] at h
  exact h.2
theorem o_owen (R : RG N n nd es wt un ed G g) (F : RF fa) (bey isB : Bool) (a1 a2 a3 : Int32) : ∃ r b1 b2, f_X5_owen n bey un G a1 a2 a3 = some (r, b1) ∧ f_X6_owen isB g fa a1 a2 a3 = some (r, b2) := by
  obtain ⟨h1, h2, h3, h4⟩ := id R.1
  subst h3
  have hpw := pw_le h2
  have hp1 := pw_pos N
  rw [f_X5_owen, f_X6_owen, z_isGame, z_isGameM, z_hasPartner h2, z_isPartnerM h4 h1 h2, z_isPart, z_isPartM]
  simp only [Option.bind_some, f_X1_begin, nm_eq]
  obtain ⟨fu, hfu⟩ : ∃ k, k = FU := ⟨_, rfl⟩
  have hfu2 : fu = 100000 := hfu.trans FU_eq
  rw [← hfu]
  by_cases c0 : inb a1 4 = true
  · rw [if_pos c0, if_pos c0]
    by_cases c1 : inb a2 N = true
    · rw [if_pos c1, if_pos c1]
      by_cases c2 : prt a3 = true
      · rw [if_pos c2, if_pos c2]
        obtain ⟨j, hj, hj2, rfl⟩ := inb_of c0
        obtain ⟨a, ha, ha2, rfl⟩ := inb_of c1
        have hRU := R.2.2.2.2.1
        obtain ⟨L, U, hU⟩ := id hRU
        have H : LU N L U := fun p hp => ⟨(hU p hp).1, (hU p hp).2.1, (hU p hp).2.2.2.2.1, (hU p hp).2.2.2.2.2⟩
        have HL : LB N g L := ⟨h4, fun p hp => ⟨(hU p hp).2.2.1, by have := (hU p hp).1; omega⟩⟩
        have hu : ∀ p, p < N → un p = nI (U p) := fun p hp => (hU p hp).2.2.2.1
        have hl : ∀ p, p < N → f_X5_leastOf (un p) = some (nI (L p)) := fun p hp => by
          obtain ⟨t, t1, t2, -⟩ := z_unionOf hRU h2 hp
          rw [z_label HL h2 hp] at t1
          rw [t2, ← t1]
        have hLa := H a ha
        have hUa := hLa.2.2.1
        obtain ⟨b1, b2, b3⟩ := ctu_b H h2 ha
        have hmem : f_X6_members g (nI (L a)) = some (nI (U a)) := by
          rw [z_members HL h2 (by omega), H.mskU (l := L a) (by omega) hLa.2.1, H.eq (p := L a) (q := a) (by omega) ha hLa.2.1]
        have hpm := pcn_N h2 hUa
        have hcu : ctu N L ≤ N := cnt_le _ _
        have hf1 := fct_10 (a := ctu N L) (b := pcn (U a)) (by omega) (by omega) (by omega)
        have hfp1 := (fct_b (k := ctu N L) (by omega)).1
        have hfp2 := (fct_b (k := pcn (U a)) (by omega)).1
        have hfp := Nat.mul_pos hfp1 hfp2
        have hw : ∀ s, s < 2 ^ N → s.testBit a = false → owt N L U a s < 2 ^ 31 := fun s hs hsa => by
          have g1 := b3 s
          have g2 := pcn_in H h2 ha hsa
          have g3 := fct_2 (a := cnt (okC L a s) N) (b := ctu N L - cnt (okC L a s) N - 1) (by omega)
          have g4 := fct_2 (a := pcn (s &&& U a)) (b := pcn (U a) - pcn (s &&& U a) - 1) (by omega)
          have g5 := Nat.mul_le_mul g3 g4
          unfold owt
          rw [Nat.mul_assoc (fct (cnt (okC L a s) N) * fct (ctu N L - cnt (okC L a s) N - 1))]
          omega
        have hneg : ∀ s, (whl N L U a s = -1) = (allF (fun p => !bdC L U a s p) 0 N = false) := fun s => by
          have := cnt_le (okC L a s) N
          unfold whl
          cases allF (fun p => !bdC L U a s p) 0 N
          · simp
          · rw [if_pos rfl]
            simp [nI_no (show cnt (okC L a s) N < 2 ^ 31 by omega)]
        obtain ⟨w, hwe⟩ : ∃ w, w = ows N L U (G j) a (2 ^ N) := ⟨_, rfl⟩
        have e1 : f_X5_owenAbove (nI N) false un (G j) (nI a) = some w := by
          rw [f_X5_owenAbove, ← hfu, ck_nI (show a < 9 by omega) (by omega), nI_clamp ha2, hu a ha]
          simp only [nm_eq]
          rw [z_bitCount (by omega), Option.bind_some, z_countU H h2 hl, Option.bind_some, hwe]
          refine lp_cf (L := fun m i => L_X5_owenAbove_1 (nI N) un (G j) (nI a) (nI (U a)) (nI (pcn (U a))) (nI (ctu N L)) m (ows N L U (G j) a i).1 (nI i) (ows N L U (G j) a i).2) (2 ^ N) (fun m => ?_) (fun m s hs => ?_) (2 ^ N) 0 fu (by omega) (by omega)
          · show B_X5_owenAbove_1 _ _ _ _ _ _ _ _ _ _ _ = _
            rw [B_X5_owenAbove_1, z_sets h2, Option.bind_some, if_neg (by rw [ltI (by omega) (by omega)]; omega)]
          · show B_X5_owenAbove_1 _ _ _ _ _ _ _ _ _ _ _ = _
            have hand : s &&& U a ≤ s := Nat.and_le_left
            rw [B_X5_owenAbove_1, z_sets h2, Option.bind_some, if_pos (by rw [ltI (by omega) (by omega)]; omega), z_has (by omega) (by omega), Option.bind_some, nI_dif, nI_and, z_wholeC H h2 hu hl ha hs]
            simp only [jn1_eq, jn2_eq, nm_eq, nI_1, Option.bind_some]
            cases hsa : s.testBit a
            · rw [if_neg (by decide)]
              simp only [hneg]
              cases hall : allF (fun p => !bdC L U a s p) 0 N
              · simp only [ows, hsa, hall, Bool.false_eq_true, if_false, if_true]
              · have g1 := b3 s
                have g2 := pcn_in H h2 ha hsa
                have g3 := hw s hs hsa
                have ewh : whl N L U a s = nI (cnt (okC L a s) N) := by rw [whl, if_pos hall]
                rw [if_neg (by decide), ewh, z_bitCount (by omega), Option.bind_some, z_fac (by omega), Option.bind_some, pk_sub (by omega), nI_m1 (by omega), z_fac (by omega), Option.bind_some, z_fac (by omega), Option.bind_some, pk_sub (by omega), nI_m1 (by omega), z_fac (by omega), Option.bind_some, pk_mul, pk_mul, pk_mul]
                change Option.bind (f_X5_addedBy _ _ _ _) (fun r22 => Option.bind (f_X1_product r22.2 r22.1 (nI (owt N L U a s)).toInt64) _) = _
                rw [z_addedBy h2 ha hs, Option.bind_some, nI_l (by omega), z_product, Option.bind_some, z_plus, Option.bind_some]
                simp only [ows, hsa, hall, Bool.false_eq_true, if_false, if_true]
            · simp only [ows, hsa, if_true]
        have e2 : ∀ kx : Int64 → Bool → Option (Int64 × Bool), L_X6_owen_1 g fa (nI j) (nI a) (nI (L a)) kx fu 0 0 false = kx w.1 w.2 := fun kx => by
          rw [hwe]
          refine lp_cf (L := fun m i => L_X6_owen_1 g fa (nI j) (nI a) (nI (L a)) kx m (ows N L U (G j) a i).1 (nI i) (ows N L U (G j) a i).2) (2 ^ N) (fun m => ?_) (fun m s hs => ?_) (2 ^ N) 0 fu (by omega) (by omega)
          · show B_X6_owen_1 _ _ _ _ _ _ _ _ _ _ = _
            rw [B_X6_owen_1, R.all, Option.bind_some, if_pos (by rw [ltI (by omega) (by omega)]; omega)]
          · show B_X6_owen_1 _ _ _ _ _ _ _ _ _ _ = _
            have hand : s &&& U a ≤ s := Nat.and_le_left
            rw [B_X6_owen_1, R.all, Option.bind_some, if_neg (by rw [ltI (by omega) (by omega)]; omega), z_hasM (by omega) (by omega), Option.bind_some, z_wholeM H HL h2 ha hs]
            simp only [jn2_eq, nm_eq, nI_1, Option.bind_some]
            cases hsa : s.testBit a
            · rw [if_neg (by decide)]
              cases hall : allF (fun p => !bdC L U a s p) 0 N
              · have ewh : whl N L U a s = -1 := by rw [whl, hall]; rfl
                rw [ewh, if_pos (by decide)]
                simp only [ows, hsa, hall, Bool.false_eq_true, if_false]
              · have g1 := b3 s
                have g2 := pcn_in H h2 ha hsa
                have ewh : whl N L U a s = nI (cnt (okC L a s) N) := by rw [whl, if_pos hall]
                have eof : f_X6_owenOf g fa (nI s) (nI (L a)) = some (lN (owt N L U a s)) := by
                  rw [f_X6_owenOf, z_wholeM H HL h2 ha hs, Option.bind_some, hmem, Option.bind_some, nI_and, z_size (by omega), Option.bind_some, z_unionsM H HL h2, Option.bind_some, Option.bind_some, z_size (by omega), Option.bind_some, ewh, ck_nI (by omega) (by omega), pk_sub (by omega), nI_m1 (by omega), ck_nI (by omega) (by omega), ck_nI (by omega) (by omega), pk_sub (by omega), nI_m1 (by omega), ck_nI (by omega) (by omega), nI_clamp (by omega), nI_clamp (by omega), nI_clamp (by omega), nI_clamp (by omega), F _ (by omega), F _ (by omega), F _ (by omega), F _ (by omega), lN_mul, lN_mul, lN_mul]
                  rfl
                rw [ewh, if_neg (nI_pos (by omega)), R.gain hj ha hs, Option.bind_some, eof, Option.bind_some, z_productM, Option.bind_some, z_plusM, Option.bind_some]
                simp only [ows, hsa, hall, Bool.false_eq_true, if_false, if_true]
            · rw [if_pos rfl]
              simp only [ows, hsa, if_true]
        rw [ck_nI hj (by omega), nI_clamp hj2, e1, Option.bind_some, ck_nI (show a < 9 by omega) (by omega), nI_clamp ha2, hu a ha, z_bitCount (by omega), Option.bind_some, z_countU H h2 hl, Option.bind_some, z_fac (by omega), Option.bind_some, z_fac (by omega), Option.bind_some, pk_mul, nI_l (by omega), z_lowest (by rw [lN_int (by omega)]; omega), Option.bind_some]
        rw [z_label HL h2 ha, Option.bind_some, e2, z_unionsM H HL h2, Option.bind_some, hmem, Option.bind_some, z_size (by omega), Option.bind_some, ck_nI (by omega) (by omega), ck_nI (by omega) (by omega), nI_clamp (by omega), nI_clamp (by omega), F _ (by omega), F _ (by omega), lN_mul, z_part (by rw [lN_int (by omega)]; omega), Option.bind_some]
        cases w.2
        · exact ⟨_, _, _, rfl, rfl⟩
        · exact ⟨_, _, _, rfl, rfl⟩
      · rw [if_neg c2, if_neg c2]
        exact ⟨_, _, _, rfl, rfl⟩
    · rw [if_neg c1, if_neg c1]
      exact ⟨_, _, _, rfl, rfl⟩
  · rw [if_neg c0, if_neg c0]
    exact ⟨_, _, _, rfl, rfl⟩
end OPO
