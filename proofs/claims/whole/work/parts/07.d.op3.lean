/-! PURE PART: partners, image, undo. -/
section OP3
variable {N : Nat} {n nd es kn knd kes : Int32} {img isK : Bool} {wt un ed kwt kun ked : Nat → Int32} {G K : Nat → Nat → Int64} {g kp : Nat → Int64}
theorem shl_pw {i : Nat} (h : i ≤ 9) : (1 : Int32) <<< (nI i &&& 31) = nI (2 ^ i) := Option.some.inj (z_sets h)
theorem z_begin1 {ρ : Type} (kx : (Nat → Int32) → Option (Int32 × Int32 × Int32 × (Nat → Int32) × (Nat → Int32) × (Nat → Int32) × (Nat → Nat → Int64))) (un : Nat → Int32) : L_X0_begin_1 kx FU 0 un = kx (fun p => if p < 9 then nI (2 ^ p) else un p) := by
  refine lp_cf (L := fun m i => L_X0_begin_1 kx m (nI i) (fun p => if p < i then nI (2 ^ p) else un p)) 9 (fun m => ?_) (fun m i hi => ?_) 9 0 FU (by omega) (by rw [FU_eq]; omega)
  · show B_X0_begin_1 _ _ _ _ = _
    rw [B_X0_begin_1, if_neg (by decide)]
  · show B_X0_begin_1 _ _ _ _ = _
    rw [B_X0_begin_1, show (9 : Int32) = nI 9 from rfl, if_pos (by rw [ltI (by omega) (by omega)]; exact hi), ck_nI hi (by omega), nI_clamp (by omega), shl_pw (by omega)]
    simp only [nm_eq, nI_1]
    congr 1
    funext j
    by_cases e : j = i
    · subst e; rw [pk_us, if_pos (by omega)]
    · rw [pk_un e]
      have : (j < i) = (j < i + 1) := propext (by omega)
      simp only [this]
theorem z_begin2 (n1 nd2 es3 : Int32) (wt4 ed5 un12 : Nat → Int32) (G : Nat → Nat → Int64) : L_X0_begin_2 n1 nd2 es3 wt4 ed5 un12 FU 0 G = some (n1, nd2, es3, wt4, un12, ed5, fun j s => if j < 4 ∧ s < 512 then 0 else G j s) := by
  refine (congrArg (L_X0_begin_2 n1 nd2 es3 wt4 ed5 un12 FU 0) (show G = (fun j s => if j < 0 ∧ s < 512 then 0 else G j s) from ?_)).trans (lp_cf (L := fun m i => L_X0_begin_2 n1 nd2 es3 wt4 ed5 un12 m (nI i) (fun j s => if j < i ∧ s < 512 then 0 else G j s)) 4 (fun m => ?_) (fun m i hi => ?_) 4 0 FU (by omega) (by rw [FU_eq]; omega))
  · funext j s
    rw [if_neg (by omega)]
  · show B_X0_begin_2 _ _ _ _ _ _ _ _ _ = _
    rw [B_X0_begin_2, if_neg (by decide)]
  · show B_X0_begin_2 _ _ _ _ _ _ _ _ _ = _
    rw [B_X0_begin_2, show (4 : Int32) = nI 4 from rfl, if_pos (by rw [ltI (by omega) (by omega)]; exact hi), ck_nI hi (by omega), nI_clamp (by omega), z_filll (by omega), Option.bind_some]
    simp only [nm_eq, nI_1]
    congr 1
    funext j s
    by_cases e : j = i
    · subst e
      rw [va_up_self]
      by_cases c : s < 512
      · rw [if_pos c, if_pos (by omega)]
      · rw [if_neg c, if_neg (by omega), if_neg (by omega)]
    · rw [va_up_ne _ _ e]
      have : (j < i ∧ s < 512) = (j < i + 1 ∧ s < 512) := propext (by omega)
      simp only [this]
theorem z_begins1 (kx : (Nat → Int64) → Option (Nat → Int64)) (g : Nat → Int64) : L_X6_begins_1 kx FU 0 g = kx (fun k => if k < 2231 then 0 else g k) := by
  refine lp_cf (L := fun m i => L_X6_begins_1 kx m (nI i) (fun k => if k < i then 0 else g k)) 2231 (fun m => ?_) (fun m i hi => ?_) 2231 0 FU (by omega) (by rw [FU_eq]; omega)
  · show B_X6_begins_1 _ _ _ _ = _
    rw [B_X6_begins_1, if_neg (by decide)]
  · show B_X6_begins_1 _ _ _ _ = _
    rw [B_X6_begins_1, show (2231 : Int32) = nI 2231 from rfl, if_pos (by rw [ltI (by omega) (by omega)]; exact hi), ck_nI hi (by omega), nI_clamp (by omega)]
    simp only [nm_eq, nI_1]
    congr 1
    funext j
    by_cases e : j = i
    · subst e; rw [pk_uLs, if_pos (by omega)]
    · rw [pk_uLn e]
      have : (j < i) = (j < i + 1) := propext (by omega)
      simp only [this]
theorem z_begins2 (g : Nat → Int64) : L_X6_begins_2 FU 0 g = some (fun k => if 12 ≤ k ∧ k < 12 + 9 then lN (k - 12) else g k) := by
  refine (congrArg (L_X6_begins_2 FU 0) (show g = (fun k => if 12 ≤ k ∧ k < 12 + 0 then lN (k - 12) else g k) from ?_)).trans (lp_cf (L := fun m i => L_X6_begins_2 m (nI i) (fun k => if 12 ≤ k ∧ k < 12 + i then lN (k - 12) else g k)) 9 (fun m => ?_) (fun m i hi => ?_) 9 0 FU (by omega) (by rw [FU_eq]; omega))
  · funext j
    rw [if_neg (by omega)]
  · show B_X6_begins_2 _ _ _ = _
    rw [B_X6_begins_2, if_neg (by decide)]
  · show B_X6_begins_2 _ _ _ = _
    rw [B_X6_begins_2, show (9 : Int32) = nI 9 from rfl, if_pos (by rw [ltI (by omega) (by omega)]; exact hi), show (12 : Int32) = nI 12 from rfl, nI_add, ck_nI (by omega) (by omega), nI_clamp (by omega), nI_l (by omega)]
    simp only [nm_eq, nI_1]
    congr 1
    funext j
    by_cases e : j = 12 + i
    · subst e
      rw [pk_uLs, if_pos (by omega), Nat.add_sub_cancel_left]
    · rw [pk_uLn e]
      have : (12 ≤ j ∧ j < 12 + i) = (12 ≤ j ∧ j < 12 + (i + 1)) := propext (by omega)
      simp only [this]
/-- the state at first, of N partners -/
theorem RG.first (hN1 : 1 ≤ N) (hN : N ≤ 9) {n' : Int32} (hn : n' = nI N) {wt' un' ed' : Nat → Int32} {G' : Nat → Nat → Int64} {g' : Nat → Int64} (h1 : ∀ p, p < 9 → wt' p = 0) (h2 : ∀ p, p < 9 → un' p = nI (2 ^ p)) (h3 : ∀ p, p < 81 → ed' p = 10000) (h4 : ∀ j, j < 4 → ∀ s, s < 512 → G' j s = 0) (h5 : g' 0 = lN N) (h6 : g' 1 = 1) (h7 : ∀ p, p < 9 → g' (12 + p) = lN p) (h8 : ∀ k, k < 2231 → k ≠ 0 → k ≠ 1 → (k < 12 ∨ 21 ≤ k) → g' k = 0) : RG N n' 1 0 wt' un' ed' G' g' := by
  have := pw_le hN
  refine ⟨⟨hN1, hN, hn, h5⟩, ⟨1, by omega, rfl, h6⟩, ⟨0, by omega, rfl, h8 2 (by omega) (by omega) (by omega) (by omega)⟩, ⟨fun _ => 0, fun p hp => ⟨Nat.zero_le _, h1 p hp, h8 _ (by omega) (by omega) (by omega) (by omega)⟩⟩, ⟨id, fun p => 2 ^ p, fun p hp => ⟨Nat.le_refl _, rfl, h7 p (by omega), h2 p (by omega), Nat.pow_lt_pow_right (by omega) hp, fun i => ?_⟩⟩, fun e he => Or.inl ⟨h3 e he, h8 _ (by omega) (by omega) (by omega) (by omega)⟩, fun j hj s hs => ?_, fun j hj => h4 j hj 0 (by omega)⟩
  · rw [Nat.testBit_two_pow]
    by_cases z : p = i
    · subst z; simp [hp]
    · have : ¬ i = p := fun y => z y.symm
      simp [z, this]
  · rw [h8 _ (by omega) (by omega) (by omega) (by omega), h4 j hj s (by omega)]
theorem z_rng19 {ρ : Type} (a : Int32) {x y : ρ} : (if a < 1 then x else if 9 < a then x else y) = if (decide (1 ≤ a.toInt64) && decide (a.toInt64 ≤ 9)) = true then y else x := by
  have e1 : (1 ≤ a.toInt64) = (1 ≤ a.toInt) := propext (by rw [Int64.le_iff_toInt_le, toI_toL]; rfl)
  have e2 : (a.toInt64 ≤ 9) = (a.toInt ≤ 9) := propext (by rw [Int64.le_iff_toInt_le, toI_toL]; rfl)
  have e3 : (a < 1) = (a.toInt < 1) := propext (by rw [Int32.lt_iff_toInt_lt]; rfl)
  have e4 : (9 < a) = (9 < a.toInt) := propext (by rw [Int32.lt_iff_toInt_lt]; rfl)
  simp only [e1, e2, e3, e4, Bool.and_eq_true, decide_eq_true_eq]
  by_cases c : a.toInt < 1
  · rw [if_pos c, if_neg (by omega)]
  · rw [if_neg c]
    by_cases d : 9 < a.toInt
    · rw [if_pos d, if_neg (by omega)]
    · rw [if_neg d, if_pos (by omega)]
set_option maxRecDepth 100000 in
theorem z_first (g : Nat → Int64) (M : Nat) (hM : M < 2 ^ 31) : f_X6_begins g (nI M) = some (fun k => if 12 ≤ k ∧ k < 12 + 9 then lN (k - 12) else vp_updL (vp_updL (fun k => if k < 2231 then 0 else g k) 0 (lN M)) 1 1 k) := by
  rw [f_X6_begins, z_begins1]
  simp only [nm_eq]
  rw [show inb (0 : Int32) 2231 = true from by decide, show inb (1 : Int32) 2231 = true from by decide, show (0 : Int32).toNatClampNeg = 0 from rfl, show (1 : Int32).toNatClampNeg = 1 from by decide, nI_l hM, ck_true, ck_true]
  exact z_begins2 _
theorem o_partners (R : RG N n nd es wt un ed G g) (a1 : Int32) : ∃ r N' n' nd' es' wt' un' ed' G' g', f_X5_partners n nd es wt un ed G a1 = some (r, n', nd', es', wt', un', ed', G') ∧ f_X6_partners g a1 = some (r, g') ∧ RG N' n' nd' es' wt' un' ed' G' g' := by
  simp only [f_X5_partners, f_X6_partners, z_isIn, Option.bind_some, z_rng19]
  by_cases c1 : (decide (1 ≤ a1.toInt64) && decide (a1.toInt64 ≤ 9)) = true
  · simp only [if_pos c1]
    have c1' : 1 ≤ a1.toInt ∧ a1.toInt ≤ 9 := by
      simp only [Bool.and_eq_true, decide_eq_true_eq, Int64.le_iff_toInt_le, toI_toL] at c1
      exact c1
    rcases i32_cases a1 with h | ⟨M, hM, rfl⟩
    · rw [Int32.lt_iff_toInt_lt, Int32.toInt_zero] at h
      omega
    rw [nI_toInt hM] at c1'
    simp only [f_X0_begin, nm_eq, z_filli (show 9 ≤ 99999 by omega), z_filli (show 81 ≤ 99999 by omega), Option.bind_some, z_begin1 (ρ := Unit), z_begin2, z_first g M hM]
    refine ⟨_, M, _, _, _, _, _, _, _, _, rfl, rfl, RG.first (by omega) (by omega) rfl (fun p hp => if_pos hp) (fun p hp => if_pos hp) (fun p hp => if_pos hp) (fun j hj s hs => if_pos ⟨hj, hs⟩) ?_ ?_ (fun p hp => ?_) (fun k hk k0 k1 k2 => ?_)⟩
    · rw [if_neg (by omega), pk_uLn (by omega), pk_uLs]
    · rw [if_neg (by omega), pk_uLs]
    · rw [if_pos (by omega), Nat.add_sub_cancel_left]
    · rw [if_neg (by omega), pk_uLn k1, pk_uLn k0, if_pos hk]
  · simp only [if_neg c1]
    exact ⟨_, N, _, _, _, _, _, _, _, _, rfl, rfl, R⟩
def RK (img isK : Bool) (kn knd kes : Int32) (kwt kun ked : Nat → Int32) (K : Nat → Nat → Int64) (kp : Nat → Int64) : Prop := isK = img ∧ (img = true → ∃ N, RG N kn knd kes kwt kun ked K kp)
theorem cpk_ok : cpk 0 0 9 9 9 = true ∧ cpk 0 0 81 81 81 = true ∧ cpk 0 0 512 512 512 = true := by decide
theorem cpy_lt {α : Type} {f h : Nat → α} {c j : Nat} (hj : j < c) : va_cpy f h 0 0 c j = f j := by
  simp [va_cpy, hj]
theorem z_becomeK (kn1 knd2 kes3 : Int32) (a b c : Nat → Int32) (G K : Nat → Nat → Int64) : L_X0_become_k_1 G kn1 knd2 kes3 a b c FU 0 K = some (kn1, knd2, kes3, a, b, c, fun j s => if j < 4 ∧ s < 512 then G j s else K j s) := by
  refine (congrArg (L_X0_become_k_1 G kn1 knd2 kes3 a b c FU 0) (show K = (fun j s => if j < 0 ∧ s < 512 then G j s else K j s) from ?_)).trans (lp_cf (L := fun m i => L_X0_become_k_1 G kn1 knd2 kes3 a b c m (nI i) (fun j s => if j < i ∧ s < 512 then G j s else K j s)) 4 (fun m => ?_) (fun m i hi => ?_) 4 0 FU (by omega) (by rw [FU_eq]; omega))
  · funext j s
    rw [if_neg (by omega)]
  · show B_X0_become_k_1 _ _ _ _ _ _ _ _ _ _ = _
    rw [B_X0_become_k_1, if_neg (by decide)]
  · show B_X0_become_k_1 _ _ _ _ _ _ _ _ _ _ = _
    rw [B_X0_become_k_1, show (4 : Int32) = nI 4 from rfl, if_pos (by rw [ltI (by omega) (by omega)]; exact hi), ck_nI hi (by omega), ck_nI hi (by omega), nI_clamp (by omega), cpk_ok.2.2]
    simp only [nm_eq, ck_true, nI_1]
    congr 1
    funext j s
    by_cases e : j = i
    · subst e
      rw [va_up_self, show (0 : Int32).toNatClampNeg = 0 from rfl, show (512 : Int32).toNatClampNeg = 512 from by decide]
      by_cases z : s < 512
      · rw [cpy_lt z, if_pos (by omega)]
      · rw [if_neg (by omega)]
        simp [va_cpy, z]
    · rw [va_up_ne _ _ e]
      have : (j < i ∧ s < 512) = (j < i + 1 ∧ s < 512) := propext (by omega)
      simp only [this]
theorem z_becomeN (kn1 knd2 kes3 : Int32) (a b c : Nat → Int32) (G K : Nat → Nat → Int64) : L_X0_become_n_1 K kn1 knd2 kes3 a b c FU 0 G = some (kn1, knd2, kes3, a, b, c, fun j s => if j < 4 ∧ s < 512 then K j s else G j s) := by
  refine (congrArg (L_X0_become_n_1 K kn1 knd2 kes3 a b c FU 0) (show G = (fun j s => if j < 0 ∧ s < 512 then K j s else G j s) from ?_)).trans (lp_cf (L := fun m i => L_X0_become_n_1 K kn1 knd2 kes3 a b c m (nI i) (fun j s => if j < i ∧ s < 512 then K j s else G j s)) 4 (fun m => ?_) (fun m i hi => ?_) 4 0 FU (by omega) (by rw [FU_eq]; omega))
  · funext j s
    rw [if_neg (by omega)]
  · show B_X0_become_n_1 _ _ _ _ _ _ _ _ _ _ = _
    rw [B_X0_become_n_1, if_neg (by decide)]
  · show B_X0_become_n_1 _ _ _ _ _ _ _ _ _ _ = _
    rw [B_X0_become_n_1, show (4 : Int32) = nI 4 from rfl, if_pos (by rw [ltI (by omega) (by omega)]; exact hi), ck_nI hi (by omega), ck_nI hi (by omega), nI_clamp (by omega), cpk_ok.2.2]
    simp only [nm_eq, ck_true, nI_1]
    congr 1
    funext j s
    by_cases e : j = i
    · subst e
      rw [va_up_self, show (0 : Int32).toNatClampNeg = 0 from rfl, show (512 : Int32).toNatClampNeg = 512 from by decide]
      by_cases z : s < 512
      · rw [cpy_lt z, if_pos (by omega)]
      · rw [if_neg (by omega)]
        simp [va_cpy, z]
    · rw [va_up_ne _ _ e]
      have : (j < i ∧ s < 512) = (j < i + 1 ∧ s < 512) := propext (by omega)
      simp only [this]
theorem z_imageM (hn : g 0 = lN N) (isK : Bool) (kp : Nat → Int64) : f_X6_image isK g kp = some (nI N, true, fun k => if k < 2231 then g k else kp k) := by
  refine lp_cf (L := fun m i => L_X6_image_1 g m (nI i) isK (fun k => if k < i then g k else kp k)) 2231 (fun m => ?_) (fun m i hi => ?_) 2231 0 FU (by omega) (by rw [FU_eq]; omega)
  · show B_X6_image_1 _ _ _ _ _ = _
    rw [B_X6_image_1, if_neg (by decide)]
    simp only [nm_eq, z_nM hn, Option.bind_some]
  · show B_X6_image_1 _ _ _ _ _ = _
    rw [B_X6_image_1, show (2231 : Int32) = nI 2231 from rfl, if_pos (by rw [ltI (by omega) (by omega)]; exact hi), ck_nI hi (by omega), ck_nI hi (by omega), nI_clamp (by omega)]
    simp only [nm_eq, nI_1]
    congr 1
    funext j
    by_cases e : j = i
    · subst e; rw [pk_uLs, if_pos (by omega)]
    · rw [pk_uLn e]
      have : (j < i) = (j < i + 1) := propext (by omega)
      simp only [this]
theorem o_image (R : RG N n nd es wt un ed G g) (isK : Bool) : ∃ r kn' knd' kes' kwt' kun' ked' K' kp', f_X5_image n nd es kn knd kes img wt un ed kwt kun ked G K = some (r, kn', knd', kes', true, kwt', kun', ked', K') ∧ f_X6_image isK g kp = some (r, true, kp') ∧ RK true true kn' knd' kes' kwt' kun' ked' K' kp' := by
  obtain ⟨h1, h2, h3, h4⟩ := R.1
  simp only [f_X5_image, f_X0_become_k, nm_eq, cpk_ok.1, cpk_ok.2.1, ck_true, z_becomeK, Option.bind_some, z_imageM h4]
  refine ⟨_, _, _, _, _, _, _, _, _, rfl, by rw [h3], rfl, fun _ => ⟨N, ?_⟩⟩
  rw [show (0 : Int32).toNatClampNeg = 0 from rfl, show (9 : Int32).toNatClampNeg = 9 from by decide, show (81 : Int32).toNatClampNeg = 81 from by decide]
  exact R.congr rfl rfl rfl (fun p hp => cpy_lt hp) (fun p hp => cpy_lt hp) (fun p hp => cpy_lt hp) (fun j hj s hs => if_pos ⟨hj, hs⟩) (fun k hk => if_pos hk)
theorem z_undoM {N' : Nat} (hn : kp 0 = lN N') (g : Nat → Int64) : L_X6_undo_1 kp FU 0 g = some (nI N', fun k => if k < 2231 then kp k else g k) := by
  refine lp_cf (L := fun m i => L_X6_undo_1 kp m (nI i) (fun k => if k < i then kp k else g k)) 2231 (fun m => ?_) (fun m i hi => ?_) 2231 0 FU (by omega) (by rw [FU_eq]; omega)
  · show B_X6_undo_1 _ _ _ _ = _
    rw [B_X6_undo_1, if_neg (by decide), z_nM (N := N') (by simp [hn]), Option.bind_some]
  · show B_X6_undo_1 _ _ _ _ = _
    rw [B_X6_undo_1, show (2231 : Int32) = nI 2231 from rfl, if_pos (by rw [ltI (by omega) (by omega)]; exact hi), ck_nI hi (by omega), ck_nI hi (by omega), nI_clamp (by omega)]
    simp only [nm_eq, nI_1]
    congr 1
    funext j
    by_cases e : j = i
    · subst e; rw [pk_uLs, if_pos (by omega)]
    · rw [pk_uLn e]
      have : (j < i) = (j < i + 1) := propext (by omega)
      simp only [this]
theorem o_undo (R : RG N n nd es wt un ed G g) (RKp : RK img isK kn knd kes kwt kun ked K kp) : ∃ r N' n' nd' es' wt' un' ed' G' g', f_X5_undo n nd es kn knd kes img wt un ed kwt kun ked G K = some (r, n', nd', es', wt', un', ed', G') ∧ f_X6_undo isK g kp = some (r, g') ∧ RG N' n' nd' es' wt' un' ed' G' g' := by
  obtain ⟨e1, e2⟩ := RKp
  subst e1
  cases isK with
  | false =>
    simp only [f_X5_undo, f_X6_undo, Bool.false_eq_true, if_false]
    exact ⟨_, N, _, _, _, _, _, _, _, _, rfl, rfl, R⟩
  | true =>
    obtain ⟨N', RN⟩ := e2 rfl
    obtain ⟨h1, h2, h3, h4⟩ := RN.1
    simp only [f_X5_undo, f_X6_undo, if_true, f_X0_become_n, nm_eq, cpk_ok.1, cpk_ok.2.1, ck_true, z_becomeN, Option.bind_some, z_undoM h4]
    refine ⟨_, N', _, _, _, _, _, _, _, _, rfl, by rw [h3], ?_⟩
    rw [show (0 : Int32).toNatClampNeg = 0 from rfl, show (9 : Int32).toNatClampNeg = 9 from by decide, show (81 : Int32).toNatClampNeg = 81 from by decide]
    exact RN.congr rfl rfl rfl (fun p hp => cpy_lt hp) (fun p hp => cpy_lt hp) (fun p hp => cpy_lt hp) (fun j hj s hs => if_pos ⟨hj, hs⟩) (fun k hk => if_pos hk)
end OP3
