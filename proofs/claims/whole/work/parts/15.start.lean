theorem nL_X5_init : NameIn yX5_init 0 := ⟨by decide +kernel, by decide +kernel, by decide +kernel⟩
theorem nL_X6_init : NameIn yX6_init 0 := ⟨by decide +kernel, by decide +kernel, by decide +kernel⟩
section EN
variable {X : CX} {cs : Nat → ClassId} {D : va_G} {tF tO tT e0 k0 e1 k1 e2 k2 b L : Nat} {x0 x1 x2 xs : Nat → Int32} {fv : Value}
set_option maxRecDepth 100000 in
set_option maxHeartbeats 4000000 in
theorem lw_entry (C : O2 X cL_law 4 (some .boolean) wsL_law RL room_1 D vwCl (xT cs) [] (lwN tF tO tT e0 k0 x0 e1 k1 x1 e2 k2 x2 fv b L xs)) (hL : L ≤ 2560) (hfv : isQ fv) (hk0 : sb_Fit x0) (hk1 : sb_Fit x1) (hk2 : sb_Fit x2) (ht1 : sb_Lat (fun _ => 32) 1 x1) (ht2 : sb_Lat (fun _ => 47) 1 x2) (hE : ∀ (c9 s9 : Nat) (w : va_W) (lv : List (Nat × Value)), c9 ≤ 600000 → s9 ≤ 7302249 → V2 X c9 s9 w 2097 lv [.int 1]) : V2 X 0 0 [] 0 [(0, .ref b)] [] := by
  obtain ⟨n', nd', es', wt', un', ed', G', g', f1, f2, R⟩ := o_first
  refine bv_new C (T := TX5) (n := 10) (C9 := RX5) inlX5 tyX5 tyX5_ok (List.mem_of_getElem? (i := 0) rfl) (List.mem_of_getElem? (i := 1) rfl) (List.mem_of_getElem? (i := 2) rfl) (ci := 7) rfl (fs := [.null, .null, .int 0, .null, .null, .null, .null, .null, .null, .null]) (by decide) (Nat.le_of_ble_eq_true rfl) (Nat.le_of_ble_eq_true rfl) dL_law_0 (fun qa => ?_)
  refine bv_dup C dL_law_3 rfl ?_
  refine bv_aI C (b := qa) (As := []) (st := [.ref qa]) (wc := [(qa, .inr (7, [.null, .null, .int 0, .null, .null, .null, .null, .null, .null, .null]))]) (wr := []) (isC := [0]) (isR := []) (fun l9 => aX5_init (tF := tF) f1) ⟨rfl, rfl, rfl, rfl, by decide⟩ rfl (fun _ h => h) (NTo.of (wc := [(qa, .inr (7, [.null, .null, .int 0, .null, .null, .null, .null, .null, .null, .null]))]) lwN_ok (fun _ _ h => h.1) [0] rfl rfl) xc_ok gL_law_X5_init (List.mem_of_getElem? (i := 2) rfl) (List.mem_of_getElem? (i := 7) rfl) (List.mem_of_getElem? (i := 8) rfl) rfl rfl nL_X5_init ⟨rfl, rfl, (Nat.le_of_ble_eq_true rfl), (Nat.le_of_ble_eq_true rfl), (Nat.le_of_ble_eq_true rfl), (Nat.le_of_ble_eq_true rfl)⟩ dL_law_4 (Nat.le_of_ble_eq_true rfl) rfl (fun rv w hp => ?_)
  obtain ⟨qx, rfl, rfl, rfl⟩ := hp
  refine bv_astore_n C (lv' := [(1, .ref (qx 0)), (0, .ref b)]) dL_law_7 rfl (by decide) rfl ?_
  refine bv_new C (T := TX6) (n := 16) (C9 := RX6) inlX6 tyX6 tyX6_ok (List.mem_of_getElem? (i := 3) rfl) (List.mem_of_getElem? (i := 4) rfl) (List.mem_of_getElem? (i := 5) rfl) (ci := 8) rfl (fs := [.null, .null, .null, .null, .int 0, .int 0, .null, .null, .null, .int 0, .int 0, .int 0, .long 0, .null, .null, .null]) (by decide) (Nat.le_of_ble_eq_true rfl) (Nat.le_of_ble_eq_true rfl) dL_law_8 (fun qb => ?_)
  refine bv_dup C dL_law_11 rfl ?_
  refine bv_swap ?_
  refine bv_aI C (b := qb) (As := []) (st := [.ref qb]) (fun l9 => aX6_init (ps := e0) f2) cut_left rfl (fun _ h => h.sub [0, 1, 2] rfl) (NTo.of lwN_ok (fun _ _ h => ⟨h.2.1.2.2.2.1, trivial⟩) (List.range _) rg_left rfl) mc6_ok gL_law_X6_init (List.mem_of_getElem? (i := 5) rfl) (List.mem_of_getElem? (i := 79) rfl) (List.mem_of_getElem? (i := 80) rfl) rfl rfl nL_X6_init ⟨rfl, rfl, (Nat.le_of_ble_eq_true rfl), (Nat.le_of_ble_eq_true rfl), (Nat.le_of_ble_eq_true rfl), (Nat.le_of_ble_eq_true rfl)⟩ dL_law_12 (Nat.le_of_ble_eq_true rfl) rfl (fun rv w hp => ?_)
  obtain ⟨qm, rfl, rfl, rfl⟩ := hp
  refine bv_astore_n C (lv' := [(2, .ref (qm 0)), (1, .ref (qx 0)), (0, .ref b)]) dL_law_15 rfl (by decide) rfl ?_
  refine bv_iconst C dL_law_16 (v := nI (5 * 0)) rfl ?_
  refine bv_istore_n C (lv' := LVJ 0 b (qx 0) (qm 0)) dL_law_17 rfl (by decide) rfl ?_
  refine bv_apart (fun hap => ?_)
  have hap2 : (xA qx ++ mA qm).Nodup := hap
  obtain ⟨hq, hm, -⟩ := List.nodup_append.mp hap2
  refine bv_eqc (cs1 := 44 + 140 * 0) (sl1 := 18765 + 12000 * 0) rfl rfl ?_
  refine bv_eqw (congrArg _ (List.append_nil _).symm) ?_
  refine lw_loop C hq hm hL hfv hk0 hk1 hk2 ht1 ht2 hE L 0 (by omega) (by omega) n' nd' es' 0 0 0 false 0 0 0 0 false wt' un' ed' (fun _ => 0) (fun _ => 0) (fun _ => 0) (fun _ => 0) (fun _ => 0) (upd (upd (upd (upd (fun _ => 0) 0 (-1)) 1 (-1)) 2 (-1)) 3 (-1)) (fun _ => 0) G' (fun _ _ => 0) (fun _ _ => 0) (fun _ => 0) (fun _ => 0) false false 0 0 0 0 e0 g' (fun _ => 0) (fun _ => 0) fa0 (fun _ => 0) (fun _ => 0) (fun _ => 0) (upd (upd (upd (upd (fun _ => 0) 0 (-1)) 1 (-1)) 2 (-1)) 3 (-1)) (fun _ => 0) [] 0 x0 ⟨⟨1, R⟩, ⟨rfl, fun h => by cases h⟩, ⟨0, Nat.zero_le _, rfl, rfl, fun j hj => absurd hj (Nat.not_lt_zero j)⟩, fun r hr => ?_, fun k hk => ?_, ⟨Nat.zero_le _, rfl, fun j hj => absurd hj (Nat.not_lt_zero j)⟩, Or.inl ⟨rfl, rfl, rfl, rfl⟩⟩
  · match r, hr with
    | 0, _ => exact ⟨rfl, Or.inl (by decide)⟩
    | 1, _ => exact ⟨rfl, Or.inl (by decide)⟩
    | 2, _ => exact ⟨rfl, Or.inl (by decide)⟩
    | 3, _ => exact ⟨rfl, Or.inl (by decide)⟩
  · match k, hk with
    | 0, _ => decide
    | 1, _ => decide
    | 2, _ => decide
    | 3, _ => decide
    | 4, _ => decide
    | 5, _ => decide
    | 6, _ => decide
    | 7, _ => decide
    | 8, _ => decide
    | 9, _ => decide
end EN
theorem sk_fit (v : Int32) (h : fits .byte (.int v) = true) : sb_Fit (fun j => [v].getD j 0) := fun j => by
  match j with
  | 0 => exact h
  | j + 1 => exact sb_fit0 j
set_option maxHeartbeats 4000000 in
theorem whole_start {p : Program} {e : Env} {s : State} {m : MethodId} {below : List Frame} {meth : Method} {c : Code} (l : Launch) (hflags : l.flags = flags0) {b L : Nat} {xs : Nat → Int32} (hL : L ≤ 2560) (C0 : lw_At p s m meth c b L xs) : W p l e room_1 s m #[Value.ref b] below meth c s.heap [] 0 0 (lw_Z below #[Value.ref b] s) (entryFrame m ([Value.ref b] : List Value).toArray 4) := by
  obtain ⟨hx, hb, hr, hml, hown, hts, hX, hbl, hlocks, hgv⟩ := id C0
  have hw : ∀ w ∈ wsL_law, w.before #[Value.ref b] s = true := fun w h => (List.forall_mem_append.mpr ⟨lw_x6_ok hts, hts⟩ : ∀ w ∈ lw_x6 ++ lw_tbl, w.before #[Value.ref b] s = true) w (wsL_law_in w h)
  obtain ⟨D, cs, hK⟩ := lw_kcl C0 hw
  obtain ⟨tF, tO, tT, e0, k0, e1, k1, e2, k2, fv, hN, hfv⟩ := lw_facts hL C0
  rw [lg_entry_eq]
  refine lw_entry (X := (p, l, e, room_1, s, m, #[Value.ref b], below, meth, c, D, vwCl, xT cs, [], lwN tF tO tT e0 k0 (fun j => (sKB.getD 0 []).getD j 0) e1 k1 (fun j => (sKB.getD 1 []).getD j 0) e2 k2 (fun j => (sKB.getD 2 []).getD j 0) fv b L xs, 4, lw_Z below #[Value.ref b] s)) ⟨hx, hb, hml, hown, hw, hr, hlocks, rfl, hK, hN, lwN_ok, rfl, rfl, rfl, rfl, rfl, rfl⟩ hL hfv (sb_fit0 : sb_Fit (fun _ => 0)) (sk_fit 32 (by decide)) (sk_fit 47 (by decide)) (fun j hj => ?_) (fun j hj => ?_) (fun c9 s9 w lv h1 h2 H locs ls hP hD hS hl => W.widen h1 h2 (va_forget (fun q hq => (hS.2.2 q hq).resolve_left List.not_mem_nil) (lw_ret hx hb hr hlocks dL_law_2097))) s.heap [] _ (fun k q h => by simp at h) ⟨fun i j p q h => by simp at h, fun k q h => by simp at h⟩ va_S.rf (lv_entry ([.ref b]) (n := 4) (Nat.le_of_ble_eq_true rfl))
  · obtain rfl : j = 0 := Nat.lt_one_iff.mp hj
    exact ⟨by decide, by decide⟩
  · obtain rfl : j = 0 := Nat.lt_one_iff.mp hj
    exact ⟨by decide, by decide⟩
set_option maxHeartbeats 4000000 in
theorem lw_walk (l : Launch) (hflags : l.flags = flags0) (b : Addr) (xs : List Int32) : MetFree l x (headSpec (Jvm.Cond.code x code maxLocals ret :: tables_1) room_1) (lw_P b xs) (fun _ _ _ _ _ => True) lw_Q := by
  refine MetFree.of_bodyS (code := code) (maxLocals := maxLocals) (ret := ret) (by decide) ?_ ?_
  · intro args s m h hn
    obtain ⟨meth, c, h1, h2, h3, h4, h5, h6, -, -⟩ := Cond.code_spec hn (atoms_spec (ws := Jvm.Cond.code x code maxLocals ret :: tables_1) h _ List.mem_cons_self)
    exact ⟨meth, c, h1, h2, h3, h4, h5, h6⟩
  · intro p e s m args below meth c s₁ B hml0 hP _
    obtain ⟨rfl, hx, hbd, hgv⟩ := hP
    obtain ⟨scr, harrAt, hlist, hof, hsmall⟩ := hx
    obtain ⟨hcb, hkn, -, -⟩ := State.arrayAt?_spec harrAt
    have hown : s.vm.findClass R_law = some m.cls := findClass_of_methodNamed B.named
    have hts0 : ∀ c ∈ (Jvm.Cond.code x code maxLocals ret :: tables_1), c.before #[Value.ref b] s = true := atoms_spec (ws := Jvm.Cond.code x code maxLocals ret :: tables_1) B.pre
    have hts : ∀ w ∈ lw_tbl, w.before #[Value.ref b] s = true := k2_hts_sels lw_privs (fun w hw => hts0 w (List.mem_cons_of_mem _ hw)) lw_privs_ok
    have hml : c.maxLocals = 4 := B.maxLocals_eq (hts0 _ List.mem_cons_self)
    have X₀ : Stand p l e room_1 s m #[Value.ref b] below meth c s₁ [] 0 0 := Stand.of_body B
    have hh0 : s₁.heap = s.heap := by rw [B.state]; rfl
    have hsz : scr.slots.size = xs.length := by rw [← Array.length_toList, hlist, List.length_map]
    have hval : ∀ j : Nat, j < xs.length → scr.slots[j]? = some (.int (xs.getD j 0)) := fun j hj => by
      rw [← Array.getElem?_toList, hlist]
      simp [hj]
    have hbl : b < s.heap.size := (Array.getElem?_eq_some_iff.mp hcb).1
    have hX : va_X b xs.length (fun j => xs.getD j 0) s s.heap := ⟨scr, hcb, hof, hkn, hsz, hval⟩
    have K : W p l e room_1 s m #[Value.ref b] below meth c s₁.heap [] 0 0 (lw_Z below #[Value.ref b] s) (entryFrame m ([Value.ref b] : List Value).toArray 4) := by
      rw [hh0]
      exact whole_start l hflags hbd ⟨B.exec, B.bytes, B.returns, hml, hown, hts, hX, hbl, B.notSynchronized, hgv⟩
    obtain ⟨t, a1, o, b1, b2, b3⟩ := K s₁ rfl X₀
    exact ⟨t, o, a1, b1, b2, b3⟩
theorem lw_pre_spec {args : Array Value} {s : State} (h : (Jvm.Cond.and given_1 narrow_1).before args s = true) (hr : rest_1_c.before args s = true) : ∃ (b : Addr) (xs : List Int32), lw_P b xs args s := by
  have hs := flat_of_before _ h
  have hq := flat_of_before _ hr
  have hc : (Cond.count 1).before args s = true := hs _ (by decide +kernel)
  have harr : (Cond.arrayOf (.arg 0) .int).before args s = true := hs _ (by decide +kernel)
  have hle : (Cond.le (.length (.arg 0)) (.int 2560)).before args s = true := hs _ (by decide +kernel)
  have hlen : (Cond.isInt (.length (.arg 0))).before args s = true := hq _ (by decide +kernel)
  have hall : (Cond.all (.arg 0) (.isInt (.elem (.arg 0) (.index 0)))).before args s = true := hq _ (by decide +kernel)
  obtain ⟨b, xs, hb, hx⟩ := State.ints_of_pre rfl harr hlen hall
  have hsm : xs.length < 2 ^ 31 := hx.choose_spec.2.2.2
  have hev : (Term.length (.arg 0)).eval args s none [] s = some (.int xs.length.toInt32) := hx.length_eval hb
  have hv := Cond.le_ints hev (show (Term.int 2560).eval args s none [] s = some (.int 2560) from rfl)
  have hd : xs.length.toInt32 ≤ 2560 := by
    simpa [Cond.before, Cond.holds, hv] using hle
  have hN : xs.length ≤ 2560 := (Int32.ofNat_le_ofNat hsm (by decide)).mp (show Int32.ofNat xs.length ≤ Int32.ofNat 2560 from hd)
  exact ⟨b, xs, Cond.one_arg hc (show args[0]? = some (.ref b) from hb), hx, hN, h⟩
theorem lw_comes (l : Launch) (hflags : l.flags = flags0) : Comes l x (Jvm.Cond.code x code maxLocals ret :: tables_1) room_1 (fun tb e args s => Calls_1 tb e args s ∧ rest_1 tb e args s ∧ Pre_1 tb e args s)
    (fun _ _ args s o t => lw_Q args s o t) := by
  intro p e ha hc hk s m args below hf hfit hheap happ hpre
  obtain ⟨b, xs, hP⟩ := lw_pre_spec hpre.2.2 hpre.2.1
  obtain ⟨k, o, h1, h2, h3, hQ⟩ := lw_walk l hflags b xs p e ha hc hk s m args below hf ((Spec.applies_iff_loose hf).mp happ).1 hP trivial
  exact ⟨k, o, h1, h2, h3, hQ⟩
theorem lw_frame {s t : State} {o : Outcome} {args : Array Value} (h : Framed s o t [] 600000 7302249) :
    Framed s o t (fieldLocs frame_1_writes args s ++ arrayLocs frame_1_arrays args s ++ staticLocs frame_1_statics s) 600000 7302249 := h
theorem lw_limb (L : Cond) (hL : ∀ (args : Array Value) (s t : State), L.after args s (.returned (some (.int 1))) t = true) :
    ArmFor flags0 classFile x code maxLocals ret World_1 tables_1 room_1 Calls_1 rest_1 Pre_1
      (fun tb e a s o t => postC L tb e a s o t ∧ Framed s o t (fieldLocs frame_1_writes a s ++ arrayLocs frame_1_arrays a s ++ staticLocs frame_1_statics s) 600000 7302249) := by
  intro l hflags _ _ p e ha hc hk s m args below hf hfit hheap happ hpre
  obtain ⟨k, o, h1, h2, h3, rfl, hF⟩ := lw_comes l hflags p e ha hc hk s m args below hf hfit hheap happ hpre
  exact ⟨k, _, h1, h2, h3, hL args s _, lw_frame hF⟩
theorem i_vc : Claimed_1_1 ∧ Claimed_1_2 := ⟨lw_limb limb_1_1 (fun args s t => by simp [limb_1_1, Cond.after, Cond.holds, Cond.value]), lw_limb limb_1_2 (fun args s t => Cond.after_iff.mpr (by
  first | (rw [show limb_1_2 = Cond.eq .result (.int 1) from rfl, Cond.eq_ints (x := 1) (y := 1) rfl rfl]; simp; done) | (simp [limb_1_2, Cond.value, Term.eval]; done)))⟩

