section LC
variable {X : CX} {cs : Nat → ClassId} {qx qm : Nat → Nat} {D : va_G} {tF tO tT e0 k0 e1 k1 e2 k2 b L j : Nat} {x0 x1 x2 xs : Nat → Int32} {fv : Value}
theorem nL_X5_partners : NameIn yX5_partners 1 := ⟨by decide +kernel, by decide +kernel, by decide +kernel⟩
theorem nL_X6_partners : NameIn yX6_partners 1 := ⟨by decide +kernel, by decide +kernel, by decide +kernel⟩
set_option maxRecDepth 100000 in
set_option maxHeartbeats 4000000 in
theorem lc_0 (C : O2 X cL_law 4 (some .boolean) wsL_law RL room_1 D vwCl (xT cs) [] (lwN tF tO tT e0 k0 x0 e1 k1 x1 e2 k2 x2 fv b L xs)) (hq : (xA qx).Nodup) (hm : (mA qm).Nodup) (hL : L ≤ 2560) (hj : 5 * j + 5 ≤ L) (nx_ : LI X cs qx qm e0 x0 b (j + 1) 18) : LI X cs qx qm e0 x0 b j 260 := by
  intro n nd es kn knd kes img tl ta tn sl bey wt un ed kwt kun ked tb sb sz sbs G K P wk wh isK isB fed at_ ltr ab ps g kp nx fa tp rs rv ct it ex pl pf h
  obtain ⟨⟨N, R⟩, RKp, TT, S, F, PP, PXp⟩ := h
  obtain ⟨r, u1, u2, u3, u4, u5, u6, u7, u8, u9, f1, f2, R1⟩ := o_partners R (xs (5 * j + 1))
  refine bv_aload_n C 2 dL_law_260 rfl ?_
  refine lw_arg C (fun _ _ h => h.2.2.2) hL hj 1 (by decide) rfl dL_law_261 dL_law_262 dL_law_263 dL_law_264 dL_law_265 ?_
  refine bv_kV C (As := [.int (xs (5 * j + 1))]) (st := []) (fun l9 => k_X5_partners hq f1) rfl cut_left rfl (fun _ h => h) (NTo.of lwN_ok (fun _ _ h => h.1.1) (List.range _) rg_left rfl) xN_ok gL_law_X5_partners 0 rfl rfl rfl rfl nL_X5_partners ⟨rfl, rfl, (Nat.le_of_ble_eq_true rfl), (Nat.le_of_ble_eq_true rfl), by show 44 + 140 * j + 0 ≤ 600000; omega, by show 18765 + 12000 * j + 0 ≤ 7302249; omega⟩ dL_law_266 (Nat.le_of_ble_eq_true rfl) rfl ?_
  refine bv_eqw (List.append_assoc _ _ _) ?_
  refine bv_aload_n C 1 dL_law_269 rfl ?_
  refine lw_arg C (fun _ _ h => h.2.2.2) hL hj 1 (by decide) rfl dL_law_270 dL_law_271 dL_law_272 dL_law_273 dL_law_274 ?_
  refine bv_kV C (As := [.int (xs (5 * j + 1))]) (st := [.int r]) (fun l9 => k_X6_partners (N := NT) hm NT_ok f2) rfl cut_left rfl (fun _ h => h.sub [0, 1] rfl) NTo.nt NT_ok gL_law_X6_partners 0 rfl rfl rfl rfl nL_X6_partners ⟨rfl, rfl, (Nat.le_of_ble_eq_true rfl), (Nat.le_of_ble_eq_true rfl), by show 44 + 140 * j + 0 ≤ 600000; omega, by show 18765 + 12000 * j + 0 ≤ 7302249; omega⟩ dL_law_275 (Nat.le_of_ble_eq_true rfl) rfl ?_
  refine bv_icmp_eq_t C dL_law_278 (tgt := 2090) (by decide) rfl ?_
  refine bv_rot ?_
  refine bv_widen (cs1 := 44 + 140 * (j + 1)) (sl1 := 18765 + 12000 * (j + 1)) (by omega) (by omega) ?_
  exact lw_tail C (by decide) dL_law_2090 dL_law_2093 (nx_ _ _ _ _ _ _ _ _ _ _ _ _ _ _ _ _ _ _ _ _ _ _ _ _ _ _ _ _ _ _ _ _ _ _ _ _ _ _ _ _ _ _ _ _ _ _ ⟨⟨_, R1⟩, RKp, TT, S, F, PP, PXp⟩)

theorem nL_X5_value : NameIn yX5_value 3 := ⟨by decide +kernel, by decide +kernel, by decide +kernel⟩
theorem nL_X6_value : NameIn yX6_value 3 := ⟨by decide +kernel, by decide +kernel, by decide +kernel⟩
set_option maxRecDepth 100000 in
set_option maxHeartbeats 4000000 in
theorem lc_1 (C : O2 X cL_law 4 (some .boolean) wsL_law RL room_1 D vwCl (xT cs) [] (lwN tF tO tT e0 k0 x0 e1 k1 x1 e2 k2 x2 fv b L xs)) (hq : (xA qx).Nodup) (hm : (mA qm).Nodup) (hL : L ≤ 2560) (hj : 5 * j + 5 ≤ L) (nx_ : LI X cs qx qm e0 x0 b (j + 1) 18) : LI X cs qx qm e0 x0 b j 283 := by
  intro n nd es kn knd kes img tl ta tn sl bey wt un ed kwt kun ked tb sb sz sbs G K P wk wh isK isB fed at_ ltr ab ps g kp nx fa tp rs rv ct it ex pl pf h
  obtain ⟨⟨N, R⟩, RKp, TT, S, F, PP, PXp⟩ := h
  have hc18 : Cond.constantLong RL 18 4294967295 ∈ wsL_law := lw_c18
  obtain ⟨r, u1, u2, f1, f2, R1⟩ := o_value R (xs (5 * j + 1)) (xs (5 * j + 2)) (((xs (5 * j + 3)).toInt64 <<< ((32 : Int32).toInt64 &&& 63)) ||| ((xs (5 * j + 4)).toInt64 &&& 4294967295))
  refine bv_aload_n C 2 dL_law_283 rfl ?_
  refine lw_arg C (fun _ _ h => h.2.2.2) hL hj 1 (by decide) rfl dL_law_284 dL_law_285 dL_law_286 dL_law_287 dL_law_288 ?_
  refine lw_arg C (fun _ _ h => h.2.2.2) hL hj 2 (by decide) rfl dL_law_289 dL_law_290 dL_law_291 dL_law_292 dL_law_293 ?_
  refine lw_arg C (fun _ _ h => h.2.2.2) hL hj 3 (by decide) rfl dL_law_294 dL_law_295 dL_law_296 dL_law_297 dL_law_298 ?_
  refine bv_i2l C dL_law_299 rfl ?_
  refine bv_bipush C dL_law_300 (v := 32) (by decide) ?_
  refine bv_lshl C dL_law_302 ?_
  refine lw_arg C (fun _ _ h => h.2.2.2) hL hj 4 (by decide) rfl dL_law_303 dL_law_304 dL_law_305 dL_law_306 dL_law_307 ?_
  refine bv_i2l C dL_law_308 rfl ?_
  refine bv_ldc2 C (v := 4294967295) hc18 dL_law_309 ?_
  refine bv_land C dL_law_312 ?_
  refine bv_lor C dL_law_313 ?_
  refine bv_kV C (As := [.int (xs (5 * j + 1)), .int (xs (5 * j + 2)), .long (((xs (5 * j + 3)).toInt64 <<< ((32 : Int32).toInt64 &&& 63)) ||| ((xs (5 * j + 4)).toInt64 &&& 4294967295))]) (st := []) (fun l9 => k_X5_value hq f1) rfl cut_left rfl (fun _ h => h) (NTo.of lwN_ok (fun _ _ h => h.1.1) (List.range _) rg_left rfl) xN_ok gL_law_X5_value 0 rfl rfl rfl rfl nL_X5_value ⟨rfl, rfl, (Nat.le_of_ble_eq_true rfl), (Nat.le_of_ble_eq_true rfl), by show 44 + 140 * j + 0 ≤ 600000; omega, by show 18765 + 12000 * j + 0 ≤ 7302249; omega⟩ dL_law_314 (Nat.le_of_ble_eq_true rfl) rfl ?_
  refine bv_eqw (List.append_assoc _ _ _) ?_
  refine bv_aload_n C 1 dL_law_317 rfl ?_
  refine lw_arg C (fun _ _ h => h.2.2.2) hL hj 1 (by decide) rfl dL_law_318 dL_law_319 dL_law_320 dL_law_321 dL_law_322 ?_
  refine lw_arg C (fun _ _ h => h.2.2.2) hL hj 2 (by decide) rfl dL_law_323 dL_law_324 dL_law_325 dL_law_326 dL_law_327 ?_
  refine lw_arg C (fun _ _ h => h.2.2.2) hL hj 3 (by decide) rfl dL_law_328 dL_law_329 dL_law_330 dL_law_331 dL_law_332 ?_
  refine bv_i2l C dL_law_333 rfl ?_
  refine bv_bipush C dL_law_334 (v := 32) (by decide) ?_
  refine bv_lshl C dL_law_336 ?_
  refine lw_arg C (fun _ _ h => h.2.2.2) hL hj 4 (by decide) rfl dL_law_337 dL_law_338 dL_law_339 dL_law_340 dL_law_341 ?_
  refine bv_i2l C dL_law_342 rfl ?_
  refine bv_ldc2 C (v := 4294967295) hc18 dL_law_343 ?_
  refine bv_land C dL_law_346 ?_
  refine bv_lor C dL_law_347 ?_
  refine bv_kV C (As := [.int (xs (5 * j + 1)), .int (xs (5 * j + 2)), .long (((xs (5 * j + 3)).toInt64 <<< ((32 : Int32).toInt64 &&& 63)) ||| ((xs (5 * j + 4)).toInt64 &&& 4294967295))]) (st := [.int r]) (fun l9 => k_X6_value (N := NT) hm NT_ok f2) rfl cut_left rfl (fun _ h => h.sub [0, 1] rfl) NTo.nt NT_ok gL_law_X6_value 0 rfl rfl rfl rfl nL_X6_value ⟨rfl, rfl, (Nat.le_of_ble_eq_true rfl), (Nat.le_of_ble_eq_true rfl), by show 44 + 140 * j + 0 ≤ 600000; omega, by show 18765 + 12000 * j + 0 ≤ 7302249; omega⟩ dL_law_348 (Nat.le_of_ble_eq_true rfl) rfl ?_
  refine bv_icmp_eq_t C dL_law_351 (tgt := 2090) (by decide) rfl ?_
  refine bv_rot ?_
  refine bv_widen (cs1 := 44 + 140 * (j + 1)) (sl1 := 18765 + 12000 * (j + 1)) (by omega) (by omega) ?_
  exact lw_tail C (by decide) dL_law_2090 dL_law_2093 (nx_ _ _ _ _ _ _ _ _ _ _ _ _ _ _ _ _ _ _ _ _ _ _ _ _ _ _ _ _ _ _ _ _ _ _ _ _ _ _ _ _ _ _ _ _ _ _ ⟨⟨_, R1⟩, RKp, TT, S, F, PP, PXp⟩)

theorem nL_X5_valueOf : NameIn yX5_valueOf 2 := ⟨by decide +kernel, by decide +kernel, by decide +kernel⟩
theorem nL_X6_valueOf : NameIn yX6_valueOf 2 := ⟨by decide +kernel, by decide +kernel, by decide +kernel⟩
set_option maxRecDepth 100000 in
set_option maxHeartbeats 4000000 in
theorem lc_2 (C : O2 X cL_law 4 (some .boolean) wsL_law RL room_1 D vwCl (xT cs) [] (lwN tF tO tT e0 k0 x0 e1 k1 x1 e2 k2 x2 fv b L xs)) (hq : (xA qx).Nodup) (hm : (mA qm).Nodup) (hL : L ≤ 2560) (hj : 5 * j + 5 ≤ L) (nx_ : LI X cs qx qm e0 x0 b (j + 1) 18) : LI X cs qx qm e0 x0 b j 356 := by
  intro n nd es kn knd kes img tl ta tn sl bey wt un ed kwt kun ked tb sb sz sbs G K P wk wh isK isB fed at_ ltr ab ps g kp nx fa tp rs rv ct it ex pl pf h
  obtain ⟨⟨N, R⟩, RKp, TT, S, F, PP, PXp⟩ := h
  obtain ⟨r, f1, f2⟩ := o_valueOf R (xs (5 * j + 1)) (xs (5 * j + 2))
  refine bv_aload_n C 2 dL_law_356 rfl ?_
  refine lw_arg C (fun _ _ h => h.2.2.2) hL hj 1 (by decide) rfl dL_law_357 dL_law_358 dL_law_359 dL_law_360 dL_law_361 ?_
  refine lw_arg C (fun _ _ h => h.2.2.2) hL hj 2 (by decide) rfl dL_law_362 dL_law_363 dL_law_364 dL_law_365 dL_law_366 ?_
  refine bv_kV C (As := [.int (xs (5 * j + 1)), .int (xs (5 * j + 2))]) (st := []) (fun l9 => k_X5_valueOf hq f1) rfl cut_left rfl (fun _ h => h) (NTo.of lwN_ok (fun _ _ h => h.1.1) (List.range _) rg_left rfl) xN_ok gL_law_X5_valueOf 0 rfl rfl rfl rfl nL_X5_valueOf ⟨rfl, rfl, (Nat.le_of_ble_eq_true rfl), (Nat.le_of_ble_eq_true rfl), by show 44 + 140 * j + 0 ≤ 600000; omega, by show 18765 + 12000 * j + 0 ≤ 7302249; omega⟩ dL_law_367 (Nat.le_of_ble_eq_true rfl) rfl ?_
  refine bv_eqw (List.append_assoc _ _ _) ?_
  refine bv_aload_n C 1 dL_law_370 rfl ?_
  refine lw_arg C (fun _ _ h => h.2.2.2) hL hj 1 (by decide) rfl dL_law_371 dL_law_372 dL_law_373 dL_law_374 dL_law_375 ?_
  refine lw_arg C (fun _ _ h => h.2.2.2) hL hj 2 (by decide) rfl dL_law_376 dL_law_377 dL_law_378 dL_law_379 dL_law_380 ?_
  refine bv_kV C (As := [.int (xs (5 * j + 1)), .int (xs (5 * j + 2))]) (st := [.long r]) (fun l9 => k_X6_valueOf (N := NT) hm NT_ok f2) rfl cut_left rfl (fun _ h => h.sub [0, 1] rfl) NTo.nt NT_ok gL_law_X6_valueOf 0 rfl rfl rfl rfl nL_X6_valueOf ⟨rfl, rfl, (Nat.le_of_ble_eq_true rfl), (Nat.le_of_ble_eq_true rfl), by show 44 + 140 * j + 0 ≤ 600000; omega, by show 18765 + 12000 * j + 0 ≤ 7302249; omega⟩ dL_law_381 (Nat.le_of_ble_eq_true rfl) rfl ?_
  refine bv_lcmp_eq C dL_law_384 dL_law_385 (tgt := 2090) (by decide) (fun _ => ?_) (fun z => absurd rfl z)
  refine bv_rot ?_
  refine bv_widen (cs1 := 44 + 140 * (j + 1)) (sl1 := 18765 + 12000 * (j + 1)) (by omega) (by omega) ?_
  exact lw_tail C (by decide) dL_law_2090 dL_law_2093 (nx_ _ _ _ _ _ _ _ _ _ _ _ _ _ _ _ _ _ _ _ _ _ _ _ _ _ _ _ _ _ _ _ _ _ _ _ _ _ _ _ _ _ _ _ _ _ _ ⟨⟨_, R⟩, RKp, TT, S, F, PP, PXp⟩)

theorem nL_X5_weight : NameIn yX5_weight 2 := ⟨by decide +kernel, by decide +kernel, by decide +kernel⟩
theorem nL_X6_weight : NameIn yX6_weight 2 := ⟨by decide +kernel, by decide +kernel, by decide +kernel⟩
set_option maxRecDepth 100000 in
set_option maxHeartbeats 4000000 in
theorem lc_3 (C : O2 X cL_law 4 (some .boolean) wsL_law RL room_1 D vwCl (xT cs) [] (lwN tF tO tT e0 k0 x0 e1 k1 x1 e2 k2 x2 fv b L xs)) (hq : (xA qx).Nodup) (hm : (mA qm).Nodup) (hL : L ≤ 2560) (hj : 5 * j + 5 ≤ L) (nx_ : LI X cs qx qm e0 x0 b (j + 1) 18) : LI X cs qx qm e0 x0 b j 390 := by
  intro n nd es kn knd kes img tl ta tn sl bey wt un ed kwt kun ked tb sb sz sbs G K P wk wh isK isB fed at_ ltr ab ps g kp nx fa tp rs rv ct it ex pl pf h
  obtain ⟨⟨N, R⟩, RKp, TT, S, F, PP, PXp⟩ := h
  obtain ⟨r, u1, u2, f1, f2, R1⟩ := o_weight R (xs (5 * j + 1)) (xs (5 * j + 2))
  refine bv_aload_n C 2 dL_law_390 rfl ?_
  refine lw_arg C (fun _ _ h => h.2.2.2) hL hj 1 (by decide) rfl dL_law_391 dL_law_392 dL_law_393 dL_law_394 dL_law_395 ?_
  refine lw_arg C (fun _ _ h => h.2.2.2) hL hj 2 (by decide) rfl dL_law_396 dL_law_397 dL_law_398 dL_law_399 dL_law_400 ?_
  refine bv_kV C (As := [.int (xs (5 * j + 1)), .int (xs (5 * j + 2))]) (st := []) (fun l9 => k_X5_weight hq f1) rfl cut_left rfl (fun _ h => h) (NTo.of lwN_ok (fun _ _ h => h.1.1) (List.range _) rg_left rfl) xN_ok gL_law_X5_weight 0 rfl rfl rfl rfl nL_X5_weight ⟨rfl, rfl, (Nat.le_of_ble_eq_true rfl), (Nat.le_of_ble_eq_true rfl), by show 44 + 140 * j + 0 ≤ 600000; omega, by show 18765 + 12000 * j + 0 ≤ 7302249; omega⟩ dL_law_401 (Nat.le_of_ble_eq_true rfl) rfl ?_
  refine bv_eqw (List.append_assoc _ _ _) ?_
  refine bv_aload_n C 1 dL_law_404 rfl ?_
  refine lw_arg C (fun _ _ h => h.2.2.2) hL hj 1 (by decide) rfl dL_law_405 dL_law_406 dL_law_407 dL_law_408 dL_law_409 ?_
  refine lw_arg C (fun _ _ h => h.2.2.2) hL hj 2 (by decide) rfl dL_law_410 dL_law_411 dL_law_412 dL_law_413 dL_law_414 ?_
  refine bv_kV C (As := [.int (xs (5 * j + 1)), .int (xs (5 * j + 2))]) (st := [.int r]) (fun l9 => k_X6_weight (N := NT) hm NT_ok f2) rfl cut_left rfl (fun _ h => h.sub [0, 1] rfl) NTo.nt NT_ok gL_law_X6_weight 0 rfl rfl rfl rfl nL_X6_weight ⟨rfl, rfl, (Nat.le_of_ble_eq_true rfl), (Nat.le_of_ble_eq_true rfl), by show 44 + 140 * j + 0 ≤ 600000; omega, by show 18765 + 12000 * j + 0 ≤ 7302249; omega⟩ dL_law_415 (Nat.le_of_ble_eq_true rfl) rfl ?_
  refine bv_icmp_eq_t C dL_law_418 (tgt := 2090) (by decide) rfl ?_
  refine bv_rot ?_
  refine bv_widen (cs1 := 44 + 140 * (j + 1)) (sl1 := 18765 + 12000 * (j + 1)) (by omega) (by omega) ?_
  exact lw_tail C (by decide) dL_law_2090 dL_law_2093 (nx_ _ _ _ _ _ _ _ _ _ _ _ _ _ _ _ _ _ _ _ _ _ _ _ _ _ _ _ _ _ _ _ _ _ _ _ _ _ _ _ _ _ _ _ _ _ _ ⟨⟨_, R1⟩, RKp, TT, S, F, PP, PXp⟩)

theorem nL_X5_quota : NameIn yX5_quota 2 := ⟨by decide +kernel, by decide +kernel, by decide +kernel⟩
theorem nL_X6_quota : NameIn yX6_quota 2 := ⟨by decide +kernel, by decide +kernel, by decide +kernel⟩
set_option maxRecDepth 100000 in
set_option maxHeartbeats 4000000 in
theorem lc_4 (C : O2 X cL_law 4 (some .boolean) wsL_law RL room_1 D vwCl (xT cs) [] (lwN tF tO tT e0 k0 x0 e1 k1 x1 e2 k2 x2 fv b L xs)) (hq : (xA qx).Nodup) (hm : (mA qm).Nodup) (hL : L ≤ 2560) (hj : 5 * j + 5 ≤ L) (nx_ : LI X cs qx qm e0 x0 b (j + 1) 18) : LI X cs qx qm e0 x0 b j 423 := by
  intro n nd es kn knd kes img tl ta tn sl bey wt un ed kwt kun ked tb sb sz sbs G K P wk wh isK isB fed at_ ltr ab ps g kp nx fa tp rs rv ct it ex pl pf h
  obtain ⟨⟨N, R⟩, RKp, TT, S, F, PP, PXp⟩ := h
  obtain ⟨r, u1, u2, u3, f1, f2, R1⟩ := o_quota R (xs (5 * j + 1)) (xs (5 * j + 2))
  refine bv_aload_n C 2 dL_law_423 rfl ?_
  refine lw_arg C (fun _ _ h => h.2.2.2) hL hj 1 (by decide) rfl dL_law_424 dL_law_425 dL_law_426 dL_law_427 dL_law_428 ?_
  refine lw_arg C (fun _ _ h => h.2.2.2) hL hj 2 (by decide) rfl dL_law_429 dL_law_430 dL_law_431 dL_law_432 dL_law_433 ?_
  refine bv_kV C (As := [.int (xs (5 * j + 1)), .int (xs (5 * j + 2))]) (st := []) (fun l9 => k_X5_quota hq f1) rfl cut_left rfl (fun _ h => h) (NTo.of lwN_ok (fun _ _ h => h.1.1) (List.range _) rg_left rfl) xN_ok gL_law_X5_quota 0 rfl rfl rfl rfl nL_X5_quota ⟨rfl, rfl, (Nat.le_of_ble_eq_true rfl), (Nat.le_of_ble_eq_true rfl), by show 44 + 140 * j + 0 ≤ 600000; omega, by show 18765 + 12000 * j + 0 ≤ 7302249; omega⟩ dL_law_434 (Nat.le_of_ble_eq_true rfl) rfl ?_
  refine bv_eqw (List.append_assoc _ _ _) ?_
  refine bv_aload_n C 1 dL_law_437 rfl ?_
  refine lw_arg C (fun _ _ h => h.2.2.2) hL hj 1 (by decide) rfl dL_law_438 dL_law_439 dL_law_440 dL_law_441 dL_law_442 ?_
  refine lw_arg C (fun _ _ h => h.2.2.2) hL hj 2 (by decide) rfl dL_law_443 dL_law_444 dL_law_445 dL_law_446 dL_law_447 ?_
  refine bv_kV C (As := [.int (xs (5 * j + 1)), .int (xs (5 * j + 2))]) (st := [.int r]) (fun l9 => k_X6_quota (N := NT) hm NT_ok f2) rfl cut_left rfl (fun _ h => h.sub [0, 1] rfl) NTo.nt NT_ok gL_law_X6_quota 0 rfl rfl rfl rfl nL_X6_quota ⟨rfl, rfl, (Nat.le_of_ble_eq_true rfl), (Nat.le_of_ble_eq_true rfl), by show 44 + 140 * j + 0 ≤ 600000; omega, by show 18765 + 12000 * j + 0 ≤ 7302249; omega⟩ dL_law_448 (Nat.le_of_ble_eq_true rfl) rfl ?_
  refine bv_icmp_eq_t C dL_law_451 (tgt := 2090) (by decide) rfl ?_
  refine bv_rot ?_
  refine bv_widen (cs1 := 44 + 140 * (j + 1)) (sl1 := 18765 + 12000 * (j + 1)) (by omega) (by omega) ?_
  exact lw_tail C (by decide) dL_law_2090 dL_law_2093 (nx_ _ _ _ _ _ _ _ _ _ _ _ _ _ _ _ _ _ _ _ _ _ _ _ _ _ _ _ _ _ _ _ _ _ _ _ _ _ _ _ _ _ _ _ _ _ _ ⟨⟨_, R1⟩, RKp, TT, S, F, PP, PXp⟩)

theorem nL_X5_edge : NameIn yX5_edge 3 := ⟨by decide +kernel, by decide +kernel, by decide +kernel⟩
theorem nL_X6_edge : NameIn yX6_edge 3 := ⟨by decide +kernel, by decide +kernel, by decide +kernel⟩
set_option maxRecDepth 100000 in
set_option maxHeartbeats 4000000 in
theorem lc_5 (C : O2 X cL_law 4 (some .boolean) wsL_law RL room_1 D vwCl (xT cs) [] (lwN tF tO tT e0 k0 x0 e1 k1 x1 e2 k2 x2 fv b L xs)) (hq : (xA qx).Nodup) (hm : (mA qm).Nodup) (hL : L ≤ 2560) (hj : 5 * j + 5 ≤ L) (nx_ : LI X cs qx qm e0 x0 b (j + 1) 18) : LI X cs qx qm e0 x0 b j 456 := by
  intro n nd es kn knd kes img tl ta tn sl bey wt un ed kwt kun ked tb sb sz sbs G K P wk wh isK isB fed at_ ltr ab ps g kp nx fa tp rs rv ct it ex pl pf h
  obtain ⟨⟨N, R⟩, RKp, TT, S, F, PP, PXp⟩ := h
  obtain ⟨r, u1, u2, f1, f2, R1⟩ := o_edge R (xs (5 * j + 1)) (xs (5 * j + 2)) (xs (5 * j + 3))
  refine bv_aload_n C 2 dL_law_456 rfl ?_
  refine lw_arg C (fun _ _ h => h.2.2.2) hL hj 1 (by decide) rfl dL_law_457 dL_law_458 dL_law_459 dL_law_460 dL_law_461 ?_
  refine lw_arg C (fun _ _ h => h.2.2.2) hL hj 2 (by decide) rfl dL_law_462 dL_law_463 dL_law_464 dL_law_465 dL_law_466 ?_
  refine lw_arg C (fun _ _ h => h.2.2.2) hL hj 3 (by decide) rfl dL_law_467 dL_law_468 dL_law_469 dL_law_470 dL_law_471 ?_
  refine bv_kV C (As := [.int (xs (5 * j + 1)), .int (xs (5 * j + 2)), .int (xs (5 * j + 3))]) (st := []) (fun l9 => k_X5_edge hq f1) rfl cut_left rfl (fun _ h => h) (NTo.of lwN_ok (fun _ _ h => h.1.1) (List.range _) rg_left rfl) xN_ok gL_law_X5_edge 0 rfl rfl rfl rfl nL_X5_edge ⟨rfl, rfl, (Nat.le_of_ble_eq_true rfl), (Nat.le_of_ble_eq_true rfl), by show 44 + 140 * j + 0 ≤ 600000; omega, by show 18765 + 12000 * j + 0 ≤ 7302249; omega⟩ dL_law_472 (Nat.le_of_ble_eq_true rfl) rfl ?_
  refine bv_eqw (List.append_assoc _ _ _) ?_
  refine bv_aload_n C 1 dL_law_475 rfl ?_
  refine lw_arg C (fun _ _ h => h.2.2.2) hL hj 1 (by decide) rfl dL_law_476 dL_law_477 dL_law_478 dL_law_479 dL_law_480 ?_
  refine lw_arg C (fun _ _ h => h.2.2.2) hL hj 2 (by decide) rfl dL_law_481 dL_law_482 dL_law_483 dL_law_484 dL_law_485 ?_
  refine lw_arg C (fun _ _ h => h.2.2.2) hL hj 3 (by decide) rfl dL_law_486 dL_law_487 dL_law_488 dL_law_489 dL_law_490 ?_
  refine bv_kV C (As := [.int (xs (5 * j + 1)), .int (xs (5 * j + 2)), .int (xs (5 * j + 3))]) (st := [.int r]) (fun l9 => k_X6_edge (N := NT) hm NT_ok f2) rfl cut_left rfl (fun _ h => h.sub [0, 1] rfl) NTo.nt NT_ok gL_law_X6_edge 0 rfl rfl rfl rfl nL_X6_edge ⟨rfl, rfl, (Nat.le_of_ble_eq_true rfl), (Nat.le_of_ble_eq_true rfl), by show 44 + 140 * j + 0 ≤ 600000; omega, by show 18765 + 12000 * j + 0 ≤ 7302249; omega⟩ dL_law_491 (Nat.le_of_ble_eq_true rfl) rfl ?_
  refine bv_icmp_eq_t C dL_law_494 (tgt := 2090) (by decide) rfl ?_
  refine bv_rot ?_
  refine bv_widen (cs1 := 44 + 140 * (j + 1)) (sl1 := 18765 + 12000 * (j + 1)) (by omega) (by omega) ?_
  exact lw_tail C (by decide) dL_law_2090 dL_law_2093 (nx_ _ _ _ _ _ _ _ _ _ _ _ _ _ _ _ _ _ _ _ _ _ _ _ _ _ _ _ _ _ _ _ _ _ _ _ _ _ _ _ _ _ _ _ _ _ _ ⟨⟨_, R1⟩, RKp, TT, S, F, PP, PXp⟩)

theorem nL_X5_cut : NameIn yX5_cut 2 := ⟨by decide +kernel, by decide +kernel, by decide +kernel⟩
theorem nL_X6_cut : NameIn yX6_cut 2 := ⟨by decide +kernel, by decide +kernel, by decide +kernel⟩
set_option maxRecDepth 100000 in
set_option maxHeartbeats 4000000 in
theorem lc_6 (C : O2 X cL_law 4 (some .boolean) wsL_law RL room_1 D vwCl (xT cs) [] (lwN tF tO tT e0 k0 x0 e1 k1 x1 e2 k2 x2 fv b L xs)) (hq : (xA qx).Nodup) (hm : (mA qm).Nodup) (hL : L ≤ 2560) (hj : 5 * j + 5 ≤ L) (nx_ : LI X cs qx qm e0 x0 b (j + 1) 18) : LI X cs qx qm e0 x0 b j 499 := by
  intro n nd es kn knd kes img tl ta tn sl bey wt un ed kwt kun ked tb sb sz sbs G K P wk wh isK isB fed at_ ltr ab ps g kp nx fa tp rs rv ct it ex pl pf h
  obtain ⟨⟨N, R⟩, RKp, TT, S, F, PP, PXp⟩ := h
  obtain ⟨r, u1, u2, f1, f2, R1⟩ := o_cut R (xs (5 * j + 1)) (xs (5 * j + 2))
  refine bv_aload_n C 2 dL_law_499 rfl ?_
  refine lw_arg C (fun _ _ h => h.2.2.2) hL hj 1 (by decide) rfl dL_law_500 dL_law_501 dL_law_502 dL_law_503 dL_law_504 ?_
  refine lw_arg C (fun _ _ h => h.2.2.2) hL hj 2 (by decide) rfl dL_law_505 dL_law_506 dL_law_507 dL_law_508 dL_law_509 ?_
  refine bv_kV C (As := [.int (xs (5 * j + 1)), .int (xs (5 * j + 2))]) (st := []) (fun l9 => k_X5_cut hq f1) rfl cut_left rfl (fun _ h => h) (NTo.of lwN_ok (fun _ _ h => h.1.1) (List.range _) rg_left rfl) xN_ok gL_law_X5_cut 0 rfl rfl rfl rfl nL_X5_cut ⟨rfl, rfl, (Nat.le_of_ble_eq_true rfl), (Nat.le_of_ble_eq_true rfl), by show 44 + 140 * j + 0 ≤ 600000; omega, by show 18765 + 12000 * j + 0 ≤ 7302249; omega⟩ dL_law_510 (Nat.le_of_ble_eq_true rfl) rfl ?_
  refine bv_eqw (List.append_assoc _ _ _) ?_
  refine bv_aload_n C 1 dL_law_513 rfl ?_
  refine lw_arg C (fun _ _ h => h.2.2.2) hL hj 1 (by decide) rfl dL_law_514 dL_law_515 dL_law_516 dL_law_517 dL_law_518 ?_
  refine lw_arg C (fun _ _ h => h.2.2.2) hL hj 2 (by decide) rfl dL_law_519 dL_law_520 dL_law_521 dL_law_522 dL_law_523 ?_
  refine bv_kV C (As := [.int (xs (5 * j + 1)), .int (xs (5 * j + 2))]) (st := [.int r]) (fun l9 => k_X6_cut (N := NT) hm NT_ok f2) rfl cut_left rfl (fun _ h => h.sub [0, 1] rfl) NTo.nt NT_ok gL_law_X6_cut 0 rfl rfl rfl rfl nL_X6_cut ⟨rfl, rfl, (Nat.le_of_ble_eq_true rfl), (Nat.le_of_ble_eq_true rfl), by show 44 + 140 * j + 0 ≤ 600000; omega, by show 18765 + 12000 * j + 0 ≤ 7302249; omega⟩ dL_law_524 (Nat.le_of_ble_eq_true rfl) rfl ?_
  refine bv_icmp_eq_t C dL_law_527 (tgt := 2090) (by decide) rfl ?_
  refine bv_rot ?_
  refine bv_widen (cs1 := 44 + 140 * (j + 1)) (sl1 := 18765 + 12000 * (j + 1)) (by omega) (by omega) ?_
  exact lw_tail C (by decide) dL_law_2090 dL_law_2093 (nx_ _ _ _ _ _ _ _ _ _ _ _ _ _ _ _ _ _ _ _ _ _ _ _ _ _ _ _ _ _ _ _ _ _ _ _ _ _ _ _ _ _ _ _ _ _ _ ⟨⟨_, R1⟩, RKp, TT, S, F, PP, PXp⟩)

theorem nL_X5_unite : NameIn yX5_unite 2 := ⟨by decide +kernel, by decide +kernel, by decide +kernel⟩
theorem nL_X6_unite : NameIn yX6_unite 2 := ⟨by decide +kernel, by decide +kernel, by decide +kernel⟩
set_option maxRecDepth 100000 in
set_option maxHeartbeats 4000000 in
theorem lc_7 (C : O2 X cL_law 4 (some .boolean) wsL_law RL room_1 D vwCl (xT cs) [] (lwN tF tO tT e0 k0 x0 e1 k1 x1 e2 k2 x2 fv b L xs)) (hq : (xA qx).Nodup) (hm : (mA qm).Nodup) (hL : L ≤ 2560) (hj : 5 * j + 5 ≤ L) (nx_ : LI X cs qx qm e0 x0 b (j + 1) 18) : LI X cs qx qm e0 x0 b j 532 := by
  intro n nd es kn knd kes img tl ta tn sl bey wt un ed kwt kun ked tb sb sz sbs G K P wk wh isK isB fed at_ ltr ab ps g kp nx fa tp rs rv ct it ex pl pf h
  obtain ⟨⟨N, R⟩, RKp, TT, S, F, PP, PXp⟩ := h
  obtain ⟨r, u1, u2, f1, f2, R1⟩ := o_unite R (xs (5 * j + 1)) (xs (5 * j + 2))
  refine bv_aload_n C 2 dL_law_532 rfl ?_
  refine lw_arg C (fun _ _ h => h.2.2.2) hL hj 1 (by decide) rfl dL_law_533 dL_law_534 dL_law_535 dL_law_536 dL_law_537 ?_
  refine lw_arg C (fun _ _ h => h.2.2.2) hL hj 2 (by decide) rfl dL_law_538 dL_law_539 dL_law_540 dL_law_541 dL_law_542 ?_
  refine bv_kV C (As := [.int (xs (5 * j + 1)), .int (xs (5 * j + 2))]) (st := []) (fun l9 => k_X5_unite hq f1) rfl cut_left rfl (fun _ h => h) (NTo.of lwN_ok (fun _ _ h => h.1.1) (List.range _) rg_left rfl) xN_ok gL_law_X5_unite 0 rfl rfl rfl rfl nL_X5_unite ⟨rfl, rfl, (Nat.le_of_ble_eq_true rfl), (Nat.le_of_ble_eq_true rfl), by show 44 + 140 * j + 0 ≤ 600000; omega, by show 18765 + 12000 * j + 0 ≤ 7302249; omega⟩ dL_law_543 (Nat.le_of_ble_eq_true rfl) rfl ?_
  refine bv_eqw (List.append_assoc _ _ _) ?_
  refine bv_aload_n C 1 dL_law_546 rfl ?_
  refine lw_arg C (fun _ _ h => h.2.2.2) hL hj 1 (by decide) rfl dL_law_547 dL_law_548 dL_law_549 dL_law_550 dL_law_551 ?_
  refine lw_arg C (fun _ _ h => h.2.2.2) hL hj 2 (by decide) rfl dL_law_552 dL_law_553 dL_law_554 dL_law_555 dL_law_556 ?_
  refine bv_kV C (As := [.int (xs (5 * j + 1)), .int (xs (5 * j + 2))]) (st := [.int r]) (fun l9 => k_X6_unite (N := NT) hm NT_ok f2) rfl cut_left rfl (fun _ h => h.sub [0, 1] rfl) NTo.nt NT_ok gL_law_X6_unite 0 rfl rfl rfl rfl nL_X6_unite ⟨rfl, rfl, (Nat.le_of_ble_eq_true rfl), (Nat.le_of_ble_eq_true rfl), by show 44 + 140 * j + 0 ≤ 600000; omega, by show 18765 + 12000 * j + 0 ≤ 7302249; omega⟩ dL_law_557 (Nat.le_of_ble_eq_true rfl) rfl ?_
  refine bv_icmp_eq_t C dL_law_560 (tgt := 2090) (by decide) rfl ?_
  refine bv_rot ?_
  refine bv_widen (cs1 := 44 + 140 * (j + 1)) (sl1 := 18765 + 12000 * (j + 1)) (by omega) (by omega) ?_
  exact lw_tail C (by decide) dL_law_2090 dL_law_2093 (nx_ _ _ _ _ _ _ _ _ _ _ _ _ _ _ _ _ _ _ _ _ _ _ _ _ _ _ _ _ _ _ _ _ _ _ _ _ _ _ _ _ _ _ _ _ _ _ ⟨⟨_, R1⟩, RKp, TT, S, F, PP, PXp⟩)

theorem nL_X5_feed : NameIn yX5_feed 1 := ⟨by decide +kernel, by decide +kernel, by decide +kernel⟩
theorem nL_X6_feed : NameIn yX6_feed 1 := ⟨by decide +kernel, by decide +kernel, by decide +kernel⟩
set_option maxRecDepth 100000 in
set_option maxHeartbeats 4000000 in
theorem lc_8 (C : O2 X cL_law 4 (some .boolean) wsL_law RL room_1 D vwCl (xT cs) [] (lwN tF tO tT e0 k0 x0 e1 k1 x1 e2 k2 x2 fv b L xs)) (hq : (xA qx).Nodup) (hm : (mA qm).Nodup) (hL : L ≤ 2560) (hj : 5 * j + 5 ≤ L) (nx_ : LI X cs qx qm e0 x0 b (j + 1) 18) : LI X cs qx qm e0 x0 b j 565 := by
  intro n nd es kn knd kes img tl ta tn sl bey wt un ed kwt kun ked tb sb sz sbs G K P wk wh isK isB fed at_ ltr ab ps g kp nx fa tp rs rv ct it ex pl pf h
  obtain ⟨⟨N, R⟩, RKp, TT, S, F, PP, PXp⟩ := h
  obtain ⟨r, u1, u2, u3, u4, f1, f2, T1⟩ := o_feed TT (xs (5 * j + 1))
  refine bv_aload_n C 2 dL_law_565 rfl ?_
  refine lw_arg C (fun _ _ h => h.2.2.2) hL hj 1 (by decide) rfl dL_law_566 dL_law_567 dL_law_568 dL_law_569 dL_law_570 ?_
  refine bv_kV C (As := [.int (xs (5 * j + 1))]) (st := []) (fun l9 => k_X5_feed hq f1) rfl cut_left rfl (fun _ h => h) (NTo.of lwN_ok (fun _ _ h => h.1.1) (List.range _) rg_left rfl) xN_ok gL_law_X5_feed 0 rfl rfl rfl rfl nL_X5_feed ⟨rfl, rfl, (Nat.le_of_ble_eq_true rfl), (Nat.le_of_ble_eq_true rfl), by show 44 + 140 * j + 0 ≤ 600000; omega, by show 18765 + 12000 * j + 0 ≤ 7302249; omega⟩ dL_law_571 (Nat.le_of_ble_eq_true rfl) rfl ?_
  refine bv_eqw (List.append_assoc _ _ _) ?_
  refine bv_aload_n C 1 dL_law_574 rfl ?_
  refine lw_arg C (fun _ _ h => h.2.2.2) hL hj 1 (by decide) rfl dL_law_575 dL_law_576 dL_law_577 dL_law_578 dL_law_579 ?_
  refine bv_kV C (As := [.int (xs (5 * j + 1))]) (st := [.int r]) (fun l9 => k_X6_feed (N := NT) hm NT_ok f2) rfl cut_left rfl (fun _ h => h.sub [0, 1] rfl) NTo.nt NT_ok gL_law_X6_feed 0 rfl rfl rfl rfl nL_X6_feed ⟨rfl, rfl, (Nat.le_of_ble_eq_true rfl), (Nat.le_of_ble_eq_true rfl), by show 44 + 140 * j + 0 ≤ 600000; omega, by show 18765 + 12000 * j + 0 ≤ 7302249; omega⟩ dL_law_580 (Nat.le_of_ble_eq_true rfl) rfl ?_
  refine bv_icmp_eq_t C dL_law_583 (tgt := 2090) (by decide) rfl ?_
  refine bv_rot ?_
  refine bv_widen (cs1 := 44 + 140 * (j + 1)) (sl1 := 18765 + 12000 * (j + 1)) (by omega) (by omega) ?_
  exact lw_tail C (by decide) dL_law_2090 dL_law_2093 (nx_ _ _ _ _ _ _ _ _ _ _ _ _ _ _ _ _ _ _ _ _ _ _ _ _ _ _ _ _ _ _ _ _ _ _ _ _ _ _ _ _ _ _ _ _ _ _ ⟨⟨_, R⟩, RKp, T1, S, F, PP, PXp⟩)

theorem nL_X5_clear : NameIn yX5_clear 0 := ⟨by decide +kernel, by decide +kernel, by decide +kernel⟩
theorem nL_X6_clear : NameIn yX6_clear 0 := ⟨by decide +kernel, by decide +kernel, by decide +kernel⟩
set_option maxRecDepth 100000 in
set_option maxHeartbeats 4000000 in
theorem lc_9 (C : O2 X cL_law 4 (some .boolean) wsL_law RL room_1 D vwCl (xT cs) [] (lwN tF tO tT e0 k0 x0 e1 k1 x1 e2 k2 x2 fv b L xs)) (hq : (xA qx).Nodup) (hm : (mA qm).Nodup) (hL : L ≤ 2560) (hj : 5 * j + 5 ≤ L) (nx_ : LI X cs qx qm e0 x0 b (j + 1) 18) : LI X cs qx qm e0 x0 b j 588 := by
  intro n nd es kn knd kes img tl ta tn sl bey wt un ed kwt kun ked tb sb sz sbs G K P wk wh isK isB fed at_ ltr ab ps g kp nx fa tp rs rv ct it ex pl pf h
  obtain ⟨⟨N, R⟩, RKp, TT, S, F, PP, PXp⟩ := h
  obtain ⟨r, u1, u2, f1, f2, T1⟩ := o_clear TT
  refine bv_aload_n C 2 dL_law_588 rfl ?_
  refine bv_kV C (As := []) (st := []) (fun l9 => k_X5_clear hq f1) rfl cut_left rfl (fun _ h => h) (NTo.of lwN_ok (fun _ _ h => h.1.1) (List.range _) rg_left rfl) xN_ok gL_law_X5_clear 0 rfl rfl rfl rfl nL_X5_clear ⟨rfl, rfl, (Nat.le_of_ble_eq_true rfl), (Nat.le_of_ble_eq_true rfl), by show 44 + 140 * j + 0 ≤ 600000; omega, by show 18765 + 12000 * j + 0 ≤ 7302249; omega⟩ dL_law_589 (Nat.le_of_ble_eq_true rfl) rfl ?_
  refine bv_eqw (List.append_assoc _ _ _) ?_
  refine bv_aload_n C 1 dL_law_592 rfl ?_
  refine bv_kV C (As := []) (st := [.int r]) (fun l9 => k_X6_clear (N := NT) hm NT_ok f2) rfl cut_left rfl (fun _ h => h.sub [0, 1] rfl) NTo.nt NT_ok gL_law_X6_clear 0 rfl rfl rfl rfl nL_X6_clear ⟨rfl, rfl, (Nat.le_of_ble_eq_true rfl), (Nat.le_of_ble_eq_true rfl), by show 44 + 140 * j + 0 ≤ 600000; omega, by show 18765 + 12000 * j + 0 ≤ 7302249; omega⟩ dL_law_593 (Nat.le_of_ble_eq_true rfl) rfl ?_
  refine bv_icmp_eq_t C dL_law_596 (tgt := 2090) (by decide) rfl ?_
  refine bv_rot ?_
  refine bv_widen (cs1 := 44 + 140 * (j + 1)) (sl1 := 18765 + 12000 * (j + 1)) (by omega) (by omega) ?_
  exact lw_tail C (by decide) dL_law_2090 dL_law_2093 (nx_ _ _ _ _ _ _ _ _ _ _ _ _ _ _ _ _ _ _ _ _ _ _ _ _ _ _ _ _ _ _ _ _ _ _ _ _ _ _ _ _ _ _ _ _ _ _ ⟨⟨_, R⟩, RKp, T1, S, F, PP, PXp⟩)

theorem nL_X5_read : NameIn yX5_read 1 := ⟨by decide +kernel, by decide +kernel, by decide +kernel⟩
theorem nL_X6_read : NameIn yX6_read 1 := ⟨by decide +kernel, by decide +kernel, by decide +kernel⟩
set_option maxRecDepth 100000 in
set_option maxHeartbeats 4000000 in
theorem lc_10 (C : O2 X cL_law 4 (some .boolean) wsL_law RL room_1 D vwCl (xT cs) [] (lwN tF tO tT e0 k0 x0 e1 k1 x1 e2 k2 x2 fv b L xs)) (hq : (xA qx).Nodup) (hm : (mA qm).Nodup) (hL : L ≤ 2560) (hj : 5 * j + 5 ≤ L) (nx_ : LI X cs qx qm e0 x0 b (j + 1) 18) : LI X cs qx qm e0 x0 b j 601 := by
  intro n nd es kn knd kes img tl ta tn sl bey wt un ed kwt kun ked tb sb sz sbs G K P wk wh isK isB fed at_ ltr ab ps g kp nx fa tp rs rv ct it ex pl pf h
  obtain ⟨⟨N, R⟩, RKp, TT, S, F, PP, PXp⟩ := h
  obtain ⟨r, u1, u2, u3, u4, u5, u6, u7, u8, u9, u10, f1, f2, R1, T1⟩ := o_read R TT ta tn wk at_ rs rv (xs (5 * j + 1))
  refine bv_aload_n C 2 dL_law_601 rfl ?_
  refine lw_arg C (fun _ _ h => h.2.2.2) hL hj 1 (by decide) rfl dL_law_602 dL_law_603 dL_law_604 dL_law_605 dL_law_606 ?_
  refine bv_kV C (As := [.int (xs (5 * j + 1))]) (st := []) (fun l9 => k_X5_read hq f1) rfl cut_left rfl (fun _ h => h) (NTo.of lwN_ok (fun _ _ h => h.1.1) (List.range _) rg_left rfl) xN_ok gL_law_X5_read 0 rfl rfl rfl rfl nL_X5_read ⟨rfl, rfl, (Nat.le_of_ble_eq_true rfl), (Nat.le_of_ble_eq_true rfl), by show 44 + 140 * j + 0 ≤ 600000; omega, by show 18765 + 12000 * j + 0 ≤ 7302249; omega⟩ dL_law_607 (Nat.le_of_ble_eq_true rfl) rfl ?_
  refine bv_eqw (List.append_assoc _ _ _) ?_
  refine bv_aload_n C 1 dL_law_610 rfl ?_
  refine lw_arg C (fun _ _ h => h.2.2.2) hL hj 1 (by decide) rfl dL_law_611 dL_law_612 dL_law_613 dL_law_614 dL_law_615 ?_
  refine bv_kV C (As := [.int (xs (5 * j + 1))]) (st := [.int r]) (fun l9 => k_X6_read (N := NT) hm NT_ok f2) rfl cut_left rfl (fun _ h => h.sub [0, 1] rfl) NTo.nt NT_ok gL_law_X6_read 0 rfl rfl rfl rfl nL_X6_read ⟨rfl, rfl, (Nat.le_of_ble_eq_true rfl), (Nat.le_of_ble_eq_true rfl), by show 44 + 140 * j + 0 ≤ 600000; omega, by show 18765 + 12000 * j + 0 ≤ 7302249; omega⟩ dL_law_616 (Nat.le_of_ble_eq_true rfl) rfl ?_
  refine bv_icmp_eq_t C dL_law_619 (tgt := 2090) (by decide) rfl ?_
  refine bv_rot ?_
  refine bv_widen (cs1 := 44 + 140 * (j + 1)) (sl1 := 18765 + 12000 * (j + 1)) (by omega) (by omega) ?_
  exact lw_tail C (by decide) dL_law_2090 dL_law_2093 (nx_ _ _ _ _ _ _ _ _ _ _ _ _ _ _ _ _ _ _ _ _ _ _ _ _ _ _ _ _ _ _ _ _ _ _ _ _ _ _ _ _ _ _ _ _ _ _ ⟨⟨_, R1⟩, RKp, T1, S, F, PP, PXp⟩)

theorem nL_X5_make : NameIn yX5_make 2 := ⟨by decide +kernel, by decide +kernel, by decide +kernel⟩
theorem nL_X6_make : NameIn yX6_make 2 := ⟨by decide +kernel, by decide +kernel, by decide +kernel⟩
set_option maxRecDepth 100000 in
set_option maxHeartbeats 4000000 in
theorem lc_11 (C : O2 X cL_law 4 (some .boolean) wsL_law RL room_1 D vwCl (xT cs) [] (lwN tF tO tT e0 k0 x0 e1 k1 x1 e2 k2 x2 fv b L xs)) (hq : (xA qx).Nodup) (hm : (mA qm).Nodup) (hL : L ≤ 2560) (hj : 5 * j + 5 ≤ L) (nx_ : LI X cs qx qm e0 x0 b (j + 1) 18) : LI X cs qx qm e0 x0 b j 624 := by
  intro n nd es kn knd kes img tl ta tn sl bey wt un ed kwt kun ked tb sb sz sbs G K P wk wh isK isB fed at_ ltr ab ps g kp nx fa tp rs rv ct it ex pl pf h
  obtain ⟨⟨N, R⟩, RKp, TT, S, F, PP, PXp⟩ := h
  obtain ⟨r, u1, u2, u3, f1, f2, R1⟩ := o_make R wk (xs (5 * j + 1)) (xs (5 * j + 2))
  refine bv_aload_n C 2 dL_law_624 rfl ?_
  refine lw_arg C (fun _ _ h => h.2.2.2) hL hj 1 (by decide) rfl dL_law_625 dL_law_626 dL_law_627 dL_law_628 dL_law_629 ?_
  refine lw_arg C (fun _ _ h => h.2.2.2) hL hj 2 (by decide) rfl dL_law_630 dL_law_631 dL_law_632 dL_law_633 dL_law_634 ?_
  refine bv_kV C (As := [.int (xs (5 * j + 1)), .int (xs (5 * j + 2))]) (st := []) (fun l9 => k_X5_make hq f1) rfl cut_left rfl (fun _ h => h) (NTo.of lwN_ok (fun _ _ h => h.1.1) (List.range _) rg_left rfl) xN_ok gL_law_X5_make 0 rfl rfl rfl rfl nL_X5_make ⟨rfl, rfl, (Nat.le_of_ble_eq_true rfl), (Nat.le_of_ble_eq_true rfl), by show 44 + 140 * j + 0 ≤ 600000; omega, by show 18765 + 12000 * j + 0 ≤ 7302249; omega⟩ dL_law_635 (Nat.le_of_ble_eq_true rfl) rfl ?_
  refine bv_eqw (List.append_assoc _ _ _) ?_
  refine bv_aload_n C 1 dL_law_638 rfl ?_
  refine lw_arg C (fun _ _ h => h.2.2.2) hL hj 1 (by decide) rfl dL_law_639 dL_law_640 dL_law_641 dL_law_642 dL_law_643 ?_
  refine lw_arg C (fun _ _ h => h.2.2.2) hL hj 2 (by decide) rfl dL_law_644 dL_law_645 dL_law_646 dL_law_647 dL_law_648 ?_
  refine bv_kV C (As := [.int (xs (5 * j + 1)), .int (xs (5 * j + 2))]) (st := [.int r]) (fun l9 => k_X6_make (N := NT) hm NT_ok f2) rfl cut_left rfl (fun _ h => h.sub [0, 1] rfl) NTo.nt NT_ok gL_law_X6_make 0 rfl rfl rfl rfl nL_X6_make ⟨rfl, rfl, (Nat.le_of_ble_eq_true rfl), (Nat.le_of_ble_eq_true rfl), by show 44 + 140 * j + 0 ≤ 600000; omega, by show 18765 + 12000 * j + 0 ≤ 7302249; omega⟩ dL_law_649 (Nat.le_of_ble_eq_true rfl) rfl ?_
  refine bv_icmp_eq_t C dL_law_652 (tgt := 2090) (by decide) rfl ?_
  refine bv_rot ?_
  refine bv_widen (cs1 := 44 + 140 * (j + 1)) (sl1 := 18765 + 12000 * (j + 1)) (by omega) (by omega) ?_
  exact lw_tail C (by decide) dL_law_2090 dL_law_2093 (nx_ _ _ _ _ _ _ _ _ _ _ _ _ _ _ _ _ _ _ _ _ _ _ _ _ _ _ _ _ _ _ _ _ _ _ _ _ _ _ _ _ _ _ _ _ _ _ ⟨⟨_, R1⟩, RKp, TT, S, F, PP, PXp⟩)

theorem nL_X5_pairs : NameIn yX5_pairs 3 := ⟨by decide +kernel, by decide +kernel, by decide +kernel⟩
theorem nL_X6_pairs : NameIn yX6_pairs 3 := ⟨by decide +kernel, by decide +kernel, by decide +kernel⟩
set_option maxRecDepth 100000 in
set_option maxHeartbeats 4000000 in
theorem lc_12 (C : O2 X cL_law 4 (some .boolean) wsL_law RL room_1 D vwCl (xT cs) [] (lwN tF tO tT e0 k0 x0 e1 k1 x1 e2 k2 x2 fv b L xs)) (hq : (xA qx).Nodup) (hm : (mA qm).Nodup) (hL : L ≤ 2560) (hj : 5 * j + 5 ≤ L) (nx_ : LI X cs qx qm e0 x0 b (j + 1) 18) : LI X cs qx qm e0 x0 b j 657 := by
  intro n nd es kn knd kes img tl ta tn sl bey wt un ed kwt kun ked tb sb sz sbs G K P wk wh isK isB fed at_ ltr ab ps g kp nx fa tp rs rv ct it ex pl pf h
  obtain ⟨⟨N, R⟩, RKp, TT, S, F, PP, PXp⟩ := h
  obtain ⟨r, u1, u2, u3, f1, f2, R1⟩ := o_pairs R wk (xs (5 * j + 1)) (xs (5 * j + 2)) (xs (5 * j + 3))
  refine bv_aload_n C 2 dL_law_657 rfl ?_
  refine lw_arg C (fun _ _ h => h.2.2.2) hL hj 1 (by decide) rfl dL_law_658 dL_law_659 dL_law_660 dL_law_661 dL_law_662 ?_
  refine lw_arg C (fun _ _ h => h.2.2.2) hL hj 2 (by decide) rfl dL_law_663 dL_law_664 dL_law_665 dL_law_666 dL_law_667 ?_
  refine lw_arg C (fun _ _ h => h.2.2.2) hL hj 3 (by decide) rfl dL_law_668 dL_law_669 dL_law_670 dL_law_671 dL_law_672 ?_
  refine bv_kV C (As := [.int (xs (5 * j + 1)), .int (xs (5 * j + 2)), .int (xs (5 * j + 3))]) (st := []) (fun l9 => k_X5_pairs hq f1) rfl cut_left rfl (fun _ h => h) (NTo.of lwN_ok (fun _ _ h => h.1.1) (List.range _) rg_left rfl) xN_ok gL_law_X5_pairs 0 rfl rfl rfl rfl nL_X5_pairs ⟨rfl, rfl, (Nat.le_of_ble_eq_true rfl), (Nat.le_of_ble_eq_true rfl), by show 44 + 140 * j + 0 ≤ 600000; omega, by show 18765 + 12000 * j + 0 ≤ 7302249; omega⟩ dL_law_673 (Nat.le_of_ble_eq_true rfl) rfl ?_
  refine bv_eqw (List.append_assoc _ _ _) ?_
  refine bv_aload_n C 1 dL_law_676 rfl ?_
  refine lw_arg C (fun _ _ h => h.2.2.2) hL hj 1 (by decide) rfl dL_law_677 dL_law_678 dL_law_679 dL_law_680 dL_law_681 ?_
  refine lw_arg C (fun _ _ h => h.2.2.2) hL hj 2 (by decide) rfl dL_law_682 dL_law_683 dL_law_684 dL_law_685 dL_law_686 ?_
  refine lw_arg C (fun _ _ h => h.2.2.2) hL hj 3 (by decide) rfl dL_law_687 dL_law_688 dL_law_689 dL_law_690 dL_law_691 ?_
  refine bv_kV C (As := [.int (xs (5 * j + 1)), .int (xs (5 * j + 2)), .int (xs (5 * j + 3))]) (st := [.int r]) (fun l9 => k_X6_pairs (N := NT) hm NT_ok f2) rfl cut_left rfl (fun _ h => h.sub [0, 1] rfl) NTo.nt NT_ok gL_law_X6_pairs 0 rfl rfl rfl rfl nL_X6_pairs ⟨rfl, rfl, (Nat.le_of_ble_eq_true rfl), (Nat.le_of_ble_eq_true rfl), by show 44 + 140 * j + 0 ≤ 600000; omega, by show 18765 + 12000 * j + 0 ≤ 7302249; omega⟩ dL_law_692 (Nat.le_of_ble_eq_true rfl) rfl ?_
  refine bv_icmp_eq_t C dL_law_695 (tgt := 2090) (by decide) rfl ?_
  refine bv_rot ?_
  refine bv_widen (cs1 := 44 + 140 * (j + 1)) (sl1 := 18765 + 12000 * (j + 1)) (by omega) (by omega) ?_
  exact lw_tail C (by decide) dL_law_2090 dL_law_2093 (nx_ _ _ _ _ _ _ _ _ _ _ _ _ _ _ _ _ _ _ _ _ _ _ _ _ _ _ _ _ _ _ _ _ _ _ _ _ _ _ _ _ _ _ _ _ _ _ ⟨⟨_, R1⟩, RKp, TT, S, F, PP, PXp⟩)

theorem nL_X5_copy : NameIn yX5_copy 2 := ⟨by decide +kernel, by decide +kernel, by decide +kernel⟩
theorem nL_X6_copy : NameIn yX6_copy 2 := ⟨by decide +kernel, by decide +kernel, by decide +kernel⟩
set_option maxRecDepth 100000 in
set_option maxHeartbeats 4000000 in
theorem lc_13 (C : O2 X cL_law 4 (some .boolean) wsL_law RL room_1 D vwCl (xT cs) [] (lwN tF tO tT e0 k0 x0 e1 k1 x1 e2 k2 x2 fv b L xs)) (hq : (xA qx).Nodup) (hm : (mA qm).Nodup) (hL : L ≤ 2560) (hj : 5 * j + 5 ≤ L) (nx_ : LI X cs qx qm e0 x0 b (j + 1) 18) : LI X cs qx qm e0 x0 b j 700 := by
  intro n nd es kn knd kes img tl ta tn sl bey wt un ed kwt kun ked tb sb sz sbs G K P wk wh isK isB fed at_ ltr ab ps g kp nx fa tp rs rv ct it ex pl pf h
  obtain ⟨⟨N, R⟩, RKp, TT, S, F, PP, PXp⟩ := h
  obtain ⟨r, u1, u2, u3, f1, f2, R1⟩ := o_copy R wk (xs (5 * j + 1)) (xs (5 * j + 2))
  refine bv_aload_n C 2 dL_law_700 rfl ?_
  refine lw_arg C (fun _ _ h => h.2.2.2) hL hj 1 (by decide) rfl dL_law_701 dL_law_702 dL_law_703 dL_law_704 dL_law_705 ?_
  refine lw_arg C (fun _ _ h => h.2.2.2) hL hj 2 (by decide) rfl dL_law_706 dL_law_707 dL_law_708 dL_law_709 dL_law_710 ?_
  refine bv_kV C (As := [.int (xs (5 * j + 1)), .int (xs (5 * j + 2))]) (st := []) (fun l9 => k_X5_copy hq f1) rfl cut_left rfl (fun _ h => h) (NTo.of lwN_ok (fun _ _ h => h.1.1) (List.range _) rg_left rfl) xN_ok gL_law_X5_copy 0 rfl rfl rfl rfl nL_X5_copy ⟨rfl, rfl, (Nat.le_of_ble_eq_true rfl), (Nat.le_of_ble_eq_true rfl), by show 44 + 140 * j + 0 ≤ 600000; omega, by show 18765 + 12000 * j + 0 ≤ 7302249; omega⟩ dL_law_711 (Nat.le_of_ble_eq_true rfl) rfl ?_
  refine bv_eqw (List.append_assoc _ _ _) ?_
  refine bv_aload_n C 1 dL_law_714 rfl ?_
  refine lw_arg C (fun _ _ h => h.2.2.2) hL hj 1 (by decide) rfl dL_law_715 dL_law_716 dL_law_717 dL_law_718 dL_law_719 ?_
  refine lw_arg C (fun _ _ h => h.2.2.2) hL hj 2 (by decide) rfl dL_law_720 dL_law_721 dL_law_722 dL_law_723 dL_law_724 ?_
  refine bv_kV C (As := [.int (xs (5 * j + 1)), .int (xs (5 * j + 2))]) (st := [.int r]) (fun l9 => k_X6_copy (N := NT) hm NT_ok f2) rfl cut_left rfl (fun _ h => h.sub [0, 1] rfl) NTo.nt NT_ok gL_law_X6_copy 0 rfl rfl rfl rfl nL_X6_copy ⟨rfl, rfl, (Nat.le_of_ble_eq_true rfl), (Nat.le_of_ble_eq_true rfl), by show 44 + 140 * j + 0 ≤ 600000; omega, by show 18765 + 12000 * j + 0 ≤ 7302249; omega⟩ dL_law_725 (Nat.le_of_ble_eq_true rfl) rfl ?_
  refine bv_icmp_eq_t C dL_law_728 (tgt := 2090) (by decide) rfl ?_
  refine bv_rot ?_
  refine bv_widen (cs1 := 44 + 140 * (j + 1)) (sl1 := 18765 + 12000 * (j + 1)) (by omega) (by omega) ?_
  exact lw_tail C (by decide) dL_law_2090 dL_law_2093 (nx_ _ _ _ _ _ _ _ _ _ _ _ _ _ _ _ _ _ _ _ _ _ _ _ _ _ _ _ _ _ _ _ _ _ _ _ _ _ _ _ _ _ _ _ _ _ _ ⟨⟨_, R1⟩, RKp, TT, S, F, PP, PXp⟩)
end LC
