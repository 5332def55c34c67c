section LC
variable {X : CX} {cs : Nat → ClassId} {qx qm : Nat → Nat} {D : va_G} {tF tO tT e0 k0 e1 k1 e2 k2 b L j : Nat} {x0 x1 x2 xs : Nat → Int32} {fv : Value}
theorem nL_X5_power : NameIn yX5_power 2 := ⟨by decide +kernel, by decide +kernel, by decide +kernel⟩
theorem nL_X6_power : NameIn yX6_power 2 := ⟨by decide +kernel, by decide +kernel, by decide +kernel⟩
set_option maxRecDepth 100000 in
set_option maxHeartbeats 4000000 in
theorem lc_28 (C : O2 X cL_law 4 (some .boolean) wsL_law RL room_1 D vwCl (xT cs) [] (lwN tF tO tT e0 k0 x0 e1 k1 x1 e2 k2 x2 fv b L xs)) (hq : (xA qx).Nodup) (hm : (mA qm).Nodup) (hL : L ≤ 2560) (hj : 5 * j + 5 ≤ L) (nx_ : LI X cs qx qm e0 x0 b (j + 1) 18) : LI X cs qx qm e0 x0 b j 1257 := by
  intro n nd es kn knd kes img tl ta tn sl bey wt un ed kwt kun ked tb sb sz sbs G K P wk wh isK isB fed at_ ltr ab ps g kp nx fa tp rs rv ct it ex pl pf h
  obtain ⟨⟨N, R⟩, RKp, TT, S, F, PP, PXp⟩ := h
  obtain ⟨r, u1, u2, f1, f2⟩ := o_power R bey isB (xs (5 * j + 1)) (xs (5 * j + 2))
  refine bv_aload_n C 2 dL_law_1257 rfl ?_
  refine lw_arg C (fun _ _ h => h.2.2.2) hL hj 1 (by decide) rfl dL_law_1258 dL_law_1259 dL_law_1260 dL_law_1261 dL_law_1262 ?_
  refine lw_arg C (fun _ _ h => h.2.2.2) hL hj 2 (by decide) rfl dL_law_1263 dL_law_1264 dL_law_1265 dL_law_1266 dL_law_1267 ?_
  refine bv_kV C (As := [.int (xs (5 * j + 1)), .int (xs (5 * j + 2))]) (st := []) (fun l9 => k_X5_power hq f1) rfl cut_left rfl (fun _ h => h) (NTo.of lwN_ok (fun _ _ h => h.1.1) (List.range _) rg_left rfl) xN_ok gL_law_X5_power 0 rfl rfl rfl rfl nL_X5_power ⟨rfl, rfl, (Nat.le_of_ble_eq_true rfl), (Nat.le_of_ble_eq_true rfl), by show 44 + 140 * j + 0 ≤ 600000; omega, by show 18765 + 12000 * j + 0 ≤ 7302249; omega⟩ dL_law_1268 (Nat.le_of_ble_eq_true rfl) rfl ?_
  refine bv_eqw (List.append_assoc _ _ _) ?_
  refine bv_aload_n C 1 dL_law_1271 rfl ?_
  refine lw_arg C (fun _ _ h => h.2.2.2) hL hj 1 (by decide) rfl dL_law_1272 dL_law_1273 dL_law_1274 dL_law_1275 dL_law_1276 ?_
  refine lw_arg C (fun _ _ h => h.2.2.2) hL hj 2 (by decide) rfl dL_law_1277 dL_law_1278 dL_law_1279 dL_law_1280 dL_law_1281 ?_
  refine bv_kV C (As := [.int (xs (5 * j + 1)), .int (xs (5 * j + 2))]) (st := [.long r]) (fun l9 => k_X6_power (N := NT) hm NT_ok f2) rfl cut_left rfl (fun _ h => h.sub [0, 1] rfl) NTo.nt NT_ok gL_law_X6_power 0 rfl rfl rfl rfl nL_X6_power ⟨rfl, rfl, (Nat.le_of_ble_eq_true rfl), (Nat.le_of_ble_eq_true rfl), by show 44 + 140 * j + 0 ≤ 600000; omega, by show 18765 + 12000 * j + 0 ≤ 7302249; omega⟩ dL_law_1282 (Nat.le_of_ble_eq_true rfl) rfl ?_
  refine bv_lcmp_eq C dL_law_1285 dL_law_1286 (tgt := 2090) (by decide) (fun _ => ?_) (fun z => absurd rfl z)
  refine bv_rot ?_
  refine bv_widen (cs1 := 44 + 140 * (j + 1)) (sl1 := 18765 + 12000 * (j + 1)) (by omega) (by omega) ?_
  exact lw_tail C (by decide) dL_law_2090 dL_law_2093 (nx_ _ _ _ _ _ _ _ _ _ _ _ _ _ _ _ _ _ _ _ _ _ _ _ _ _ _ _ _ _ _ _ _ _ _ _ _ _ _ _ _ _ _ _ _ _ _ ⟨⟨_, R⟩, RKp, TT, S, F, PP, PXp⟩)

theorem nL_X5_owen : NameIn yX5_owen 3 := ⟨by decide +kernel, by decide +kernel, by decide +kernel⟩
theorem nL_X6_owen : NameIn yX6_owen 3 := ⟨by decide +kernel, by decide +kernel, by decide +kernel⟩
set_option maxRecDepth 100000 in
set_option maxHeartbeats 4000000 in
theorem lc_29 (C : O2 X cL_law 4 (some .boolean) wsL_law RL room_1 D vwCl (xT cs) [] (lwN tF tO tT e0 k0 x0 e1 k1 x1 e2 k2 x2 fv b L xs)) (hq : (xA qx).Nodup) (hm : (mA qm).Nodup) (hL : L ≤ 2560) (hj : 5 * j + 5 ≤ L) (nx_ : LI X cs qx qm e0 x0 b (j + 1) 18) : LI X cs qx qm e0 x0 b j 1291 := by
  intro n nd es kn knd kes img tl ta tn sl bey wt un ed kwt kun ked tb sb sz sbs G K P wk wh isK isB fed at_ ltr ab ps g kp nx fa tp rs rv ct it ex pl pf h
  obtain ⟨⟨N, R⟩, RKp, TT, S, F, PP, PXp⟩ := h
  obtain ⟨r, u1, u2, f1, f2⟩ := o_owen R F bey isB (xs (5 * j + 1)) (xs (5 * j + 2)) (xs (5 * j + 3))
  refine bv_aload_n C 2 dL_law_1291 rfl ?_
  refine lw_arg C (fun _ _ h => h.2.2.2) hL hj 1 (by decide) rfl dL_law_1292 dL_law_1293 dL_law_1294 dL_law_1295 dL_law_1296 ?_
  refine lw_arg C (fun _ _ h => h.2.2.2) hL hj 2 (by decide) rfl dL_law_1297 dL_law_1298 dL_law_1299 dL_law_1300 dL_law_1301 ?_
  refine lw_arg C (fun _ _ h => h.2.2.2) hL hj 3 (by decide) rfl dL_law_1302 dL_law_1303 dL_law_1304 dL_law_1305 dL_law_1306 ?_
  refine bv_kV C (As := [.int (xs (5 * j + 1)), .int (xs (5 * j + 2)), .int (xs (5 * j + 3))]) (st := []) (fun l9 => k_X5_owen hq f1) rfl cut_left rfl (fun _ h => h) (NTo.of lwN_ok (fun _ _ h => h.1.1) (List.range _) rg_left rfl) xN_ok gL_law_X5_owen 0 rfl rfl rfl rfl nL_X5_owen ⟨rfl, rfl, (Nat.le_of_ble_eq_true rfl), (Nat.le_of_ble_eq_true rfl), by show 44 + 140 * j + 0 ≤ 600000; omega, by show 18765 + 12000 * j + 0 ≤ 7302249; omega⟩ dL_law_1307 (Nat.le_of_ble_eq_true rfl) rfl ?_
  refine bv_eqw (List.append_assoc _ _ _) ?_
  refine bv_aload_n C 1 dL_law_1310 rfl ?_
  refine lw_arg C (fun _ _ h => h.2.2.2) hL hj 1 (by decide) rfl dL_law_1311 dL_law_1312 dL_law_1313 dL_law_1314 dL_law_1315 ?_
  refine lw_arg C (fun _ _ h => h.2.2.2) hL hj 2 (by decide) rfl dL_law_1316 dL_law_1317 dL_law_1318 dL_law_1319 dL_law_1320 ?_
  refine lw_arg C (fun _ _ h => h.2.2.2) hL hj 3 (by decide) rfl dL_law_1321 dL_law_1322 dL_law_1323 dL_law_1324 dL_law_1325 ?_
  refine bv_kV C (As := [.int (xs (5 * j + 1)), .int (xs (5 * j + 2)), .int (xs (5 * j + 3))]) (st := [.long r]) (fun l9 => k_X6_owen (N := NT) hm NT_ok f2) rfl cut_left rfl (fun _ h => h.sub [0, 1] rfl) NTo.nt NT_ok gL_law_X6_owen 0 rfl rfl rfl rfl nL_X6_owen ⟨rfl, rfl, (Nat.le_of_ble_eq_true rfl), (Nat.le_of_ble_eq_true rfl), by show 44 + 140 * j + 0 ≤ 600000; omega, by show 18765 + 12000 * j + 0 ≤ 7302249; omega⟩ dL_law_1326 (Nat.le_of_ble_eq_true rfl) rfl ?_
  refine bv_lcmp_eq C dL_law_1329 dL_law_1330 (tgt := 2090) (by decide) (fun _ => ?_) (fun z => absurd rfl z)
  refine bv_rot ?_
  refine bv_widen (cs1 := 44 + 140 * (j + 1)) (sl1 := 18765 + 12000 * (j + 1)) (by omega) (by omega) ?_
  exact lw_tail C (by decide) dL_law_2090 dL_law_2093 (nx_ _ _ _ _ _ _ _ _ _ _ _ _ _ _ _ _ _ _ _ _ _ _ _ _ _ _ _ _ _ _ _ _ _ _ _ _ _ _ _ _ _ _ _ _ _ _ ⟨⟨_, R⟩, RKp, TT, S, F, PP, PXp⟩)

theorem nL_X5_dividend : NameIn yX5_dividend 2 := ⟨by decide +kernel, by decide +kernel, by decide +kernel⟩
theorem nL_X6_dividend : NameIn yX6_dividend 2 := ⟨by decide +kernel, by decide +kernel, by decide +kernel⟩
set_option maxRecDepth 100000 in
set_option maxHeartbeats 4000000 in
theorem lc_30 (C : O2 X cL_law 4 (some .boolean) wsL_law RL room_1 D vwCl (xT cs) [] (lwN tF tO tT e0 k0 x0 e1 k1 x1 e2 k2 x2 fv b L xs)) (hq : (xA qx).Nodup) (hm : (mA qm).Nodup) (hL : L ≤ 2560) (hj : 5 * j + 5 ≤ L) (nx_ : LI X cs qx qm e0 x0 b (j + 1) 18) : LI X cs qx qm e0 x0 b j 1335 := by
  intro n nd es kn knd kes img tl ta tn sl bey wt un ed kwt kun ked tb sb sz sbs G K P wk wh isK isB fed at_ ltr ab ps g kp nx fa tp rs rv ct it ex pl pf h
  obtain ⟨⟨N, R⟩, RKp, TT, S, F, PP, PXp⟩ := h
  obtain ⟨r, u1, u2, u3, u4, f1, f2⟩ := o_dividend R bey isB wk nx (xs (5 * j + 1)) (xs (5 * j + 2))
  refine bv_aload_n C 2 dL_law_1335 rfl ?_
  refine lw_arg C (fun _ _ h => h.2.2.2) hL hj 1 (by decide) rfl dL_law_1336 dL_law_1337 dL_law_1338 dL_law_1339 dL_law_1340 ?_
  refine lw_arg C (fun _ _ h => h.2.2.2) hL hj 2 (by decide) rfl dL_law_1341 dL_law_1342 dL_law_1343 dL_law_1344 dL_law_1345 ?_
  refine bv_kV C (As := [.int (xs (5 * j + 1)), .int (xs (5 * j + 2))]) (st := []) (fun l9 => k_X5_dividend hq f1) rfl cut_left rfl (fun _ h => h) (NTo.of lwN_ok (fun _ _ h => h.1.1) (List.range _) rg_left rfl) xN_ok gL_law_X5_dividend 0 rfl rfl rfl rfl nL_X5_dividend ⟨rfl, rfl, (Nat.le_of_ble_eq_true rfl), (Nat.le_of_ble_eq_true rfl), by show 44 + 140 * j + 0 ≤ 600000; omega, by show 18765 + 12000 * j + 0 ≤ 7302249; omega⟩ dL_law_1346 (Nat.le_of_ble_eq_true rfl) rfl ?_
  refine bv_eqw (List.append_assoc _ _ _) ?_
  refine bv_aload_n C 1 dL_law_1349 rfl ?_
  refine lw_arg C (fun _ _ h => h.2.2.2) hL hj 1 (by decide) rfl dL_law_1350 dL_law_1351 dL_law_1352 dL_law_1353 dL_law_1354 ?_
  refine lw_arg C (fun _ _ h => h.2.2.2) hL hj 2 (by decide) rfl dL_law_1355 dL_law_1356 dL_law_1357 dL_law_1358 dL_law_1359 ?_
  refine bv_kV C (As := [.int (xs (5 * j + 1)), .int (xs (5 * j + 2))]) (st := [.long r]) (fun l9 => k_X6_dividend (N := NT) hm NT_ok f2) rfl cut_left rfl (fun _ h => h.sub [0, 1] rfl) NTo.nt NT_ok gL_law_X6_dividend 0 rfl rfl rfl rfl nL_X6_dividend ⟨rfl, rfl, (Nat.le_of_ble_eq_true rfl), (Nat.le_of_ble_eq_true rfl), by show 44 + 140 * j + 0 ≤ 600000; omega, by show 18765 + 12000 * j + 0 ≤ 7302249; omega⟩ dL_law_1360 (Nat.le_of_ble_eq_true rfl) rfl ?_
  refine bv_lcmp_eq C dL_law_1363 dL_law_1364 (tgt := 2090) (by decide) (fun _ => ?_) (fun z => absurd rfl z)
  refine bv_rot ?_
  refine bv_widen (cs1 := 44 + 140 * (j + 1)) (sl1 := 18765 + 12000 * (j + 1)) (by omega) (by omega) ?_
  exact lw_tail C (by decide) dL_law_2090 dL_law_2093 (nx_ _ _ _ _ _ _ _ _ _ _ _ _ _ _ _ _ _ _ _ _ _ _ _ _ _ _ _ _ _ _ _ _ _ _ _ _ _ _ _ _ _ _ _ _ _ _ ⟨⟨_, R⟩, RKp, TT, S, F, PP, PXp⟩)

theorem nL_X5_swings : NameIn yX5_swings 2 := ⟨by decide +kernel, by decide +kernel, by decide +kernel⟩
theorem nL_X6_swings : NameIn yX6_swings 2 := ⟨by decide +kernel, by decide +kernel, by decide +kernel⟩
set_option maxRecDepth 100000 in
set_option maxHeartbeats 4000000 in
theorem lc_31 (C : O2 X cL_law 4 (some .boolean) wsL_law RL room_1 D vwCl (xT cs) [] (lwN tF tO tT e0 k0 x0 e1 k1 x1 e2 k2 x2 fv b L xs)) (hq : (xA qx).Nodup) (hm : (mA qm).Nodup) (hL : L ≤ 2560) (hj : 5 * j + 5 ≤ L) (nx_ : LI X cs qx qm e0 x0 b (j + 1) 18) : LI X cs qx qm e0 x0 b j 1369 := by
  intro n nd es kn knd kes img tl ta tn sl bey wt un ed kwt kun ked tb sb sz sbs G K P wk wh isK isB fed at_ ltr ab ps g kp nx fa tp rs rv ct it ex pl pf h
  obtain ⟨⟨N, R⟩, RKp, TT, S, F, PP, PXp⟩ := h
  obtain ⟨r, u1, f1, f2⟩ := o_swings R sbs (xs (5 * j + 1)) (xs (5 * j + 2))
  refine bv_aload_n C 2 dL_law_1369 rfl ?_
  refine lw_arg C (fun _ _ h => h.2.2.2) hL hj 1 (by decide) rfl dL_law_1370 dL_law_1371 dL_law_1372 dL_law_1373 dL_law_1374 ?_
  refine lw_arg C (fun _ _ h => h.2.2.2) hL hj 2 (by decide) rfl dL_law_1375 dL_law_1376 dL_law_1377 dL_law_1378 dL_law_1379 ?_
  refine bv_kV C (As := [.int (xs (5 * j + 1)), .int (xs (5 * j + 2))]) (st := []) (fun l9 => k_X5_swings hq f1) rfl cut_left rfl (fun _ h => h) (NTo.of lwN_ok (fun _ _ h => h.1.1) (List.range _) rg_left rfl) xN_ok gL_law_X5_swings 0 rfl rfl rfl rfl nL_X5_swings ⟨rfl, rfl, (Nat.le_of_ble_eq_true rfl), (Nat.le_of_ble_eq_true rfl), by show 44 + 140 * j + 0 ≤ 600000; omega, by show 18765 + 12000 * j + 0 ≤ 7302249; omega⟩ dL_law_1380 (Nat.le_of_ble_eq_true rfl) rfl ?_
  refine bv_eqw (List.append_assoc _ _ _) ?_
  refine bv_aload_n C 1 dL_law_1383 rfl ?_
  refine lw_arg C (fun _ _ h => h.2.2.2) hL hj 1 (by decide) rfl dL_law_1384 dL_law_1385 dL_law_1386 dL_law_1387 dL_law_1388 ?_
  refine lw_arg C (fun _ _ h => h.2.2.2) hL hj 2 (by decide) rfl dL_law_1389 dL_law_1390 dL_law_1391 dL_law_1392 dL_law_1393 ?_
  refine bv_kV C (As := [.int (xs (5 * j + 1)), .int (xs (5 * j + 2))]) (st := [.int r]) (fun l9 => k_X6_swings (N := NT) hm NT_ok f2) rfl cut_left rfl (fun _ h => h.sub [0, 1] rfl) NTo.nt NT_ok gL_law_X6_swings 0 rfl rfl rfl rfl nL_X6_swings ⟨rfl, rfl, (Nat.le_of_ble_eq_true rfl), (Nat.le_of_ble_eq_true rfl), by show 44 + 140 * j + 0 ≤ 600000; omega, by show 18765 + 12000 * j + 0 ≤ 7302249; omega⟩ dL_law_1394 (Nat.le_of_ble_eq_true rfl) rfl ?_
  refine bv_icmp_eq_t C dL_law_1397 (tgt := 2090) (by decide) rfl ?_
  refine bv_rot ?_
  refine bv_widen (cs1 := 44 + 140 * (j + 1)) (sl1 := 18765 + 12000 * (j + 1)) (by omega) (by omega) ?_
  exact lw_tail C (by decide) dL_law_2090 dL_law_2093 (nx_ _ _ _ _ _ _ _ _ _ _ _ _ _ _ _ _ _ _ _ _ _ _ _ _ _ _ _ _ _ _ _ _ _ _ _ _ _ _ _ _ _ _ _ _ _ _ ⟨⟨_, R⟩, RKp, TT, S, F, PP, PXp⟩)

theorem nL_X5_pivots : NameIn yX5_pivots 2 := ⟨by decide +kernel, by decide +kernel, by decide +kernel⟩
theorem nL_X6_pivots : NameIn yX6_pivots 2 := ⟨by decide +kernel, by decide +kernel, by decide +kernel⟩
set_option maxRecDepth 100000 in
set_option maxHeartbeats 4000000 in
theorem lc_32 (C : O2 X cL_law 4 (some .boolean) wsL_law RL room_1 D vwCl (xT cs) [] (lwN tF tO tT e0 k0 x0 e1 k1 x1 e2 k2 x2 fv b L xs)) (hq : (xA qx).Nodup) (hm : (mA qm).Nodup) (hL : L ≤ 2560) (hj : 5 * j + 5 ≤ L) (nx_ : LI X cs qx qm e0 x0 b (j + 1) 18) : LI X cs qx qm e0 x0 b j 1402 := by
  intro n nd es kn knd kes img tl ta tn sl bey wt un ed kwt kun ked tb sb sz sbs G K P wk wh isK isB fed at_ ltr ab ps g kp nx fa tp rs rv ct it ex pl pf h
  obtain ⟨⟨N, R⟩, RKp, TT, S, F, PP, PXp⟩ := h
  obtain ⟨r, f1, f2⟩ := o_pivots R F (xs (5 * j + 1)) (xs (5 * j + 2))
  refine bv_aload_n C 2 dL_law_1402 rfl ?_
  refine lw_arg C (fun _ _ h => h.2.2.2) hL hj 1 (by decide) rfl dL_law_1403 dL_law_1404 dL_law_1405 dL_law_1406 dL_law_1407 ?_
  refine lw_arg C (fun _ _ h => h.2.2.2) hL hj 2 (by decide) rfl dL_law_1408 dL_law_1409 dL_law_1410 dL_law_1411 dL_law_1412 ?_
  refine bv_kV C (As := [.int (xs (5 * j + 1)), .int (xs (5 * j + 2))]) (st := []) (fun l9 => k_X5_pivots hq f1) rfl cut_left rfl (fun _ h => h) (NTo.of lwN_ok (fun _ _ h => h.1.1) (List.range _) rg_left rfl) xN_ok gL_law_X5_pivots 0 rfl rfl rfl rfl nL_X5_pivots ⟨rfl, rfl, (Nat.le_of_ble_eq_true rfl), (Nat.le_of_ble_eq_true rfl), by show 44 + 140 * j + 0 ≤ 600000; omega, by show 18765 + 12000 * j + 0 ≤ 7302249; omega⟩ dL_law_1413 (Nat.le_of_ble_eq_true rfl) rfl ?_
  refine bv_eqw (List.append_assoc _ _ _) ?_
  refine bv_aload_n C 1 dL_law_1416 rfl ?_
  refine lw_arg C (fun _ _ h => h.2.2.2) hL hj 1 (by decide) rfl dL_law_1417 dL_law_1418 dL_law_1419 dL_law_1420 dL_law_1421 ?_
  refine lw_arg C (fun _ _ h => h.2.2.2) hL hj 2 (by decide) rfl dL_law_1422 dL_law_1423 dL_law_1424 dL_law_1425 dL_law_1426 ?_
  refine bv_kV C (As := [.int (xs (5 * j + 1)), .int (xs (5 * j + 2))]) (st := [.long r]) (fun l9 => k_X6_pivots (N := NT) hm NT_ok f2) rfl cut_left rfl (fun _ h => h.sub [0, 1] rfl) NTo.nt NT_ok gL_law_X6_pivots 0 rfl rfl rfl rfl nL_X6_pivots ⟨rfl, rfl, (Nat.le_of_ble_eq_true rfl), (Nat.le_of_ble_eq_true rfl), by show 44 + 140 * j + 0 ≤ 600000; omega, by show 18765 + 12000 * j + 0 ≤ 7302249; omega⟩ dL_law_1427 (Nat.le_of_ble_eq_true rfl) rfl ?_
  refine bv_lcmp_eq C dL_law_1430 dL_law_1431 (tgt := 2090) (by decide) (fun _ => ?_) (fun z => absurd rfl z)
  refine bv_rot ?_
  refine bv_widen (cs1 := 44 + 140 * (j + 1)) (sl1 := 18765 + 12000 * (j + 1)) (by omega) (by omega) ?_
  exact lw_tail C (by decide) dL_law_2090 dL_law_2093 (nx_ _ _ _ _ _ _ _ _ _ _ _ _ _ _ _ _ _ _ _ _ _ _ _ _ _ _ _ _ _ _ _ _ _ _ _ _ _ _ _ _ _ _ _ _ _ _ ⟨⟨_, R⟩, RKp, TT, S, F, PP, PXp⟩)

theorem nL_X5_holder : NameIn yX5_holder 2 := ⟨by decide +kernel, by decide +kernel, by decide +kernel⟩
theorem nL_X6_holder : NameIn yX6_holder 2 := ⟨by decide +kernel, by decide +kernel, by decide +kernel⟩
set_option maxRecDepth 100000 in
set_option maxHeartbeats 4000000 in
theorem lc_33 (C : O2 X cL_law 4 (some .boolean) wsL_law RL room_1 D vwCl (xT cs) [] (lwN tF tO tT e0 k0 x0 e1 k1 x1 e2 k2 x2 fv b L xs)) (hq : (xA qx).Nodup) (hm : (mA qm).Nodup) (hL : L ≤ 2560) (hj : 5 * j + 5 ≤ L) (nx_ : LI X cs qx qm e0 x0 b (j + 1) 18) : LI X cs qx qm e0 x0 b j 1436 := by
  intro n nd es kn knd kes img tl ta tn sl bey wt un ed kwt kun ked tb sb sz sbs G K P wk wh isK isB fed at_ ltr ab ps g kp nx fa tp rs rv ct it ex pl pf h
  obtain ⟨⟨N, R⟩, RKp, TT, S, F, PP, PXp⟩ := h
  obtain ⟨r, f1, f2⟩ := o_holder R F (xs (5 * j + 1)) (xs (5 * j + 2))
  refine bv_aload_n C 2 dL_law_1436 rfl ?_
  refine lw_arg C (fun _ _ h => h.2.2.2) hL hj 1 (by decide) rfl dL_law_1437 dL_law_1438 dL_law_1439 dL_law_1440 dL_law_1441 ?_
  refine lw_arg C (fun _ _ h => h.2.2.2) hL hj 2 (by decide) rfl dL_law_1442 dL_law_1443 dL_law_1444 dL_law_1445 dL_law_1446 ?_
  refine bv_kV C (As := [.int (xs (5 * j + 1)), .int (xs (5 * j + 2))]) (st := []) (fun l9 => k_X5_holder hq f1) rfl cut_left rfl (fun _ h => h) (NTo.of lwN_ok (fun _ _ h => h.1.1) (List.range _) rg_left rfl) xN_ok gL_law_X5_holder 0 rfl rfl rfl rfl nL_X5_holder ⟨rfl, rfl, (Nat.le_of_ble_eq_true rfl), (Nat.le_of_ble_eq_true rfl), by show 44 + 140 * j + 0 ≤ 600000; omega, by show 18765 + 12000 * j + 0 ≤ 7302249; omega⟩ dL_law_1447 (Nat.le_of_ble_eq_true rfl) rfl ?_
  refine bv_eqw (List.append_assoc _ _ _) ?_
  refine bv_aload_n C 1 dL_law_1450 rfl ?_
  refine lw_arg C (fun _ _ h => h.2.2.2) hL hj 1 (by decide) rfl dL_law_1451 dL_law_1452 dL_law_1453 dL_law_1454 dL_law_1455 ?_
  refine lw_arg C (fun _ _ h => h.2.2.2) hL hj 2 (by decide) rfl dL_law_1456 dL_law_1457 dL_law_1458 dL_law_1459 dL_law_1460 ?_
  refine bv_kV C (As := [.int (xs (5 * j + 1)), .int (xs (5 * j + 2))]) (st := [.long r]) (fun l9 => k_X6_holder (N := NT) hm NT_ok f2) rfl cut_left rfl (fun _ h => h.sub [0, 1] rfl) NTo.nt NT_ok gL_law_X6_holder 0 rfl rfl rfl rfl nL_X6_holder ⟨rfl, rfl, (Nat.le_of_ble_eq_true rfl), (Nat.le_of_ble_eq_true rfl), by show 44 + 140 * j + 0 ≤ 600000; omega, by show 18765 + 12000 * j + 0 ≤ 7302249; omega⟩ dL_law_1461 (Nat.le_of_ble_eq_true rfl) rfl ?_
  refine bv_lcmp_eq C dL_law_1464 dL_law_1465 (tgt := 2090) (by decide) (fun _ => ?_) (fun z => absurd rfl z)
  refine bv_rot ?_
  refine bv_widen (cs1 := 44 + 140 * (j + 1)) (sl1 := 18765 + 12000 * (j + 1)) (by omega) (by omega) ?_
  exact lw_tail C (by decide) dL_law_2090 dL_law_2093 (nx_ _ _ _ _ _ _ _ _ _ _ _ _ _ _ _ _ _ _ _ _ _ _ _ _ _ _ _ _ _ _ _ _ _ _ _ _ _ _ _ _ _ _ _ _ _ _ ⟨⟨_, R⟩, RKp, TT, S, F, PP, PXp⟩)

theorem nL_X5_votes : NameIn yX5_votes 1 := ⟨by decide +kernel, by decide +kernel, by decide +kernel⟩
theorem nL_X6_votes : NameIn yX6_votes 1 := ⟨by decide +kernel, by decide +kernel, by decide +kernel⟩
set_option maxRecDepth 100000 in
set_option maxHeartbeats 4000000 in
theorem lc_34 (C : O2 X cL_law 4 (some .boolean) wsL_law RL room_1 D vwCl (xT cs) [] (lwN tF tO tT e0 k0 x0 e1 k1 x1 e2 k2 x2 fv b L xs)) (hq : (xA qx).Nodup) (hm : (mA qm).Nodup) (hL : L ≤ 2560) (hj : 5 * j + 5 ≤ L) (nx_ : LI X cs qx qm e0 x0 b (j + 1) 18) : LI X cs qx qm e0 x0 b j 1470 := by
  intro n nd es kn knd kes img tl ta tn sl bey wt un ed kwt kun ked tb sb sz sbs G K P wk wh isK isB fed at_ ltr ab ps g kp nx fa tp rs rv ct it ex pl pf h
  obtain ⟨⟨N, R⟩, RKp, TT, S, F, PP, PXp⟩ := h
  obtain ⟨r, f1, f2⟩ := o_votes R (xs (5 * j + 1))
  refine bv_aload_n C 2 dL_law_1470 rfl ?_
  refine lw_arg C (fun _ _ h => h.2.2.2) hL hj 1 (by decide) rfl dL_law_1471 dL_law_1472 dL_law_1473 dL_law_1474 dL_law_1475 ?_
  refine bv_kV C (As := [.int (xs (5 * j + 1))]) (st := []) (fun l9 => k_X5_votes hq f1) rfl cut_left rfl (fun _ h => h) (NTo.of lwN_ok (fun _ _ h => h.1.1) (List.range _) rg_left rfl) xN_ok gL_law_X5_votes 0 rfl rfl rfl rfl nL_X5_votes ⟨rfl, rfl, (Nat.le_of_ble_eq_true rfl), (Nat.le_of_ble_eq_true rfl), by show 44 + 140 * j + 0 ≤ 600000; omega, by show 18765 + 12000 * j + 0 ≤ 7302249; omega⟩ dL_law_1476 (Nat.le_of_ble_eq_true rfl) rfl ?_
  refine bv_eqw (List.append_assoc _ _ _) ?_
  refine bv_aload_n C 1 dL_law_1479 rfl ?_
  refine lw_arg C (fun _ _ h => h.2.2.2) hL hj 1 (by decide) rfl dL_law_1480 dL_law_1481 dL_law_1482 dL_law_1483 dL_law_1484 ?_
  refine bv_kV C (As := [.int (xs (5 * j + 1))]) (st := [.int r]) (fun l9 => k_X6_votes (N := NT) hm NT_ok f2) rfl cut_left rfl (fun _ h => h.sub [0, 1] rfl) NTo.nt NT_ok gL_law_X6_votes 0 rfl rfl rfl rfl nL_X6_votes ⟨rfl, rfl, (Nat.le_of_ble_eq_true rfl), (Nat.le_of_ble_eq_true rfl), by show 44 + 140 * j + 0 ≤ 600000; omega, by show 18765 + 12000 * j + 0 ≤ 7302249; omega⟩ dL_law_1485 (Nat.le_of_ble_eq_true rfl) rfl ?_
  refine bv_icmp_eq_t C dL_law_1488 (tgt := 2090) (by decide) rfl ?_
  refine bv_rot ?_
  refine bv_widen (cs1 := 44 + 140 * (j + 1)) (sl1 := 18765 + 12000 * (j + 1)) (by omega) (by omega) ?_
  exact lw_tail C (by decide) dL_law_2090 dL_law_2093 (nx_ _ _ _ _ _ _ _ _ _ _ _ _ _ _ _ _ _ _ _ _ _ _ _ _ _ _ _ _ _ _ _ _ _ _ _ _ _ _ _ _ _ _ _ _ _ _ ⟨⟨_, R⟩, RKp, TT, S, F, PP, PXp⟩)

theorem nL_X5_kind : NameIn yX5_kind 2 := ⟨by decide +kernel, by decide +kernel, by decide +kernel⟩
theorem nL_X6_kind : NameIn yX6_kind 2 := ⟨by decide +kernel, by decide +kernel, by decide +kernel⟩
set_option maxRecDepth 100000 in
set_option maxHeartbeats 4000000 in
theorem lc_35 (C : O2 X cL_law 4 (some .boolean) wsL_law RL room_1 D vwCl (xT cs) [] (lwN tF tO tT e0 k0 x0 e1 k1 x1 e2 k2 x2 fv b L xs)) (hq : (xA qx).Nodup) (hm : (mA qm).Nodup) (hL : L ≤ 2560) (hj : 5 * j + 5 ≤ L) (nx_ : LI X cs qx qm e0 x0 b (j + 1) 18) : LI X cs qx qm e0 x0 b j 1493 := by
  intro n nd es kn knd kes img tl ta tn sl bey wt un ed kwt kun ked tb sb sz sbs G K P wk wh isK isB fed at_ ltr ab ps g kp nx fa tp rs rv ct it ex pl pf h
  obtain ⟨⟨N, R⟩, RKp, TT, S, F, PP, PXp⟩ := h
  obtain ⟨r, u1, u2, f1, f2⟩ := o_kind R bey isB (xs (5 * j + 1)) (xs (5 * j + 2))
  refine bv_aload_n C 2 dL_law_1493 rfl ?_
  refine lw_arg C (fun _ _ h => h.2.2.2) hL hj 1 (by decide) rfl dL_law_1494 dL_law_1495 dL_law_1496 dL_law_1497 dL_law_1498 ?_
  refine lw_arg C (fun _ _ h => h.2.2.2) hL hj 2 (by decide) rfl dL_law_1499 dL_law_1500 dL_law_1501 dL_law_1502 dL_law_1503 ?_
  refine bv_kV C (As := [.int (xs (5 * j + 1)), .int (xs (5 * j + 2))]) (st := []) (fun l9 => k_X5_kind hq f1) rfl cut_left rfl (fun _ h => h) (NTo.of lwN_ok (fun _ _ h => h.1.1) (List.range _) rg_left rfl) xN_ok gL_law_X5_kind 0 rfl rfl rfl rfl nL_X5_kind ⟨rfl, rfl, (Nat.le_of_ble_eq_true rfl), (Nat.le_of_ble_eq_true rfl), by show 44 + 140 * j + 0 ≤ 600000; omega, by show 18765 + 12000 * j + 0 ≤ 7302249; omega⟩ dL_law_1504 (Nat.le_of_ble_eq_true rfl) rfl ?_
  refine bv_eqw (List.append_assoc _ _ _) ?_
  refine bv_aload_n C 1 dL_law_1507 rfl ?_
  refine lw_arg C (fun _ _ h => h.2.2.2) hL hj 1 (by decide) rfl dL_law_1508 dL_law_1509 dL_law_1510 dL_law_1511 dL_law_1512 ?_
  refine lw_arg C (fun _ _ h => h.2.2.2) hL hj 2 (by decide) rfl dL_law_1513 dL_law_1514 dL_law_1515 dL_law_1516 dL_law_1517 ?_
  refine bv_kV C (As := [.int (xs (5 * j + 1)), .int (xs (5 * j + 2))]) (st := [.int r]) (fun l9 => k_X6_kind (N := NT) hm NT_ok f2) rfl cut_left rfl (fun _ h => h.sub [0, 1] rfl) NTo.nt NT_ok gL_law_X6_kind 0 rfl rfl rfl rfl nL_X6_kind ⟨rfl, rfl, (Nat.le_of_ble_eq_true rfl), (Nat.le_of_ble_eq_true rfl), by show 44 + 140 * j + 0 ≤ 600000; omega, by show 18765 + 12000 * j + 0 ≤ 7302249; omega⟩ dL_law_1518 (Nat.le_of_ble_eq_true rfl) rfl ?_
  refine bv_icmp_eq_t C dL_law_1521 (tgt := 2090) (by decide) rfl ?_
  refine bv_rot ?_
  refine bv_widen (cs1 := 44 + 140 * (j + 1)) (sl1 := 18765 + 12000 * (j + 1)) (by omega) (by omega) ?_
  exact lw_tail C (by decide) dL_law_2090 dL_law_2093 (nx_ _ _ _ _ _ _ _ _ _ _ _ _ _ _ _ _ _ _ _ _ _ _ _ _ _ _ _ _ _ _ _ _ _ _ _ _ _ _ _ _ _ _ _ _ _ _ ⟨⟨_, R⟩, RKp, TT, S, F, PP, PXp⟩)

theorem nL_X5_alike : NameIn yX5_alike 2 := ⟨by decide +kernel, by decide +kernel, by decide +kernel⟩
theorem nL_X6_alike : NameIn yX6_alike 2 := ⟨by decide +kernel, by decide +kernel, by decide +kernel⟩
set_option maxRecDepth 100000 in
set_option maxHeartbeats 4000000 in
theorem lc_36 (C : O2 X cL_law 4 (some .boolean) wsL_law RL room_1 D vwCl (xT cs) [] (lwN tF tO tT e0 k0 x0 e1 k1 x1 e2 k2 x2 fv b L xs)) (hq : (xA qx).Nodup) (hm : (mA qm).Nodup) (hL : L ≤ 2560) (hj : 5 * j + 5 ≤ L) (nx_ : LI X cs qx qm e0 x0 b (j + 1) 18) : LI X cs qx qm e0 x0 b j 1526 := by
  intro n nd es kn knd kes img tl ta tn sl bey wt un ed kwt kun ked tb sb sz sbs G K P wk wh isK isB fed at_ ltr ab ps g kp nx fa tp rs rv ct it ex pl pf h
  obtain ⟨⟨N, R⟩, RKp, TT, S, F, PP, PXp⟩ := h
  obtain ⟨r, f1, f2⟩ := o_alike R (xs (5 * j + 1)) (xs (5 * j + 2))
  refine bv_aload_n C 2 dL_law_1526 rfl ?_
  refine lw_arg C (fun _ _ h => h.2.2.2) hL hj 1 (by decide) rfl dL_law_1527 dL_law_1528 dL_law_1529 dL_law_1530 dL_law_1531 ?_
  refine lw_arg C (fun _ _ h => h.2.2.2) hL hj 2 (by decide) rfl dL_law_1532 dL_law_1533 dL_law_1534 dL_law_1535 dL_law_1536 ?_
  refine bv_kV C (As := [.int (xs (5 * j + 1)), .int (xs (5 * j + 2))]) (st := []) (fun l9 => k_X5_alike hq f1) rfl cut_left rfl (fun _ h => h) (NTo.of lwN_ok (fun _ _ h => h.1.1) (List.range _) rg_left rfl) xN_ok gL_law_X5_alike 0 rfl rfl rfl rfl nL_X5_alike ⟨rfl, rfl, (Nat.le_of_ble_eq_true rfl), (Nat.le_of_ble_eq_true rfl), by show 44 + 140 * j + 0 ≤ 600000; omega, by show 18765 + 12000 * j + 0 ≤ 7302249; omega⟩ dL_law_1537 (Nat.le_of_ble_eq_true rfl) rfl ?_
  refine bv_eqw (List.append_assoc _ _ _) ?_
  refine bv_aload_n C 1 dL_law_1540 rfl ?_
  refine lw_arg C (fun _ _ h => h.2.2.2) hL hj 1 (by decide) rfl dL_law_1541 dL_law_1542 dL_law_1543 dL_law_1544 dL_law_1545 ?_
  refine lw_arg C (fun _ _ h => h.2.2.2) hL hj 2 (by decide) rfl dL_law_1546 dL_law_1547 dL_law_1548 dL_law_1549 dL_law_1550 ?_
  refine bv_kV C (As := [.int (xs (5 * j + 1)), .int (xs (5 * j + 2))]) (st := [.int r]) (fun l9 => k_X6_alike (N := NT) hm NT_ok f2) rfl cut_left rfl (fun _ h => h.sub [0, 1] rfl) NTo.nt NT_ok gL_law_X6_alike 0 rfl rfl rfl rfl nL_X6_alike ⟨rfl, rfl, (Nat.le_of_ble_eq_true rfl), (Nat.le_of_ble_eq_true rfl), by show 44 + 140 * j + 0 ≤ 600000; omega, by show 18765 + 12000 * j + 0 ≤ 7302249; omega⟩ dL_law_1551 (Nat.le_of_ble_eq_true rfl) rfl ?_
  refine bv_icmp_eq_t C dL_law_1554 (tgt := 2090) (by decide) rfl ?_
  refine bv_rot ?_
  refine bv_widen (cs1 := 44 + 140 * (j + 1)) (sl1 := 18765 + 12000 * (j + 1)) (by omega) (by omega) ?_
  exact lw_tail C (by decide) dL_law_2090 dL_law_2093 (nx_ _ _ _ _ _ _ _ _ _ _ _ _ _ _ _ _ _ _ _ _ _ _ _ _ _ _ _ _ _ _ _ _ _ _ _ _ _ _ _ _ _ _ _ _ _ _ ⟨⟨_, R⟩, RKp, TT, S, F, PP, PXp⟩)

theorem nL_X5_carrier : NameIn yX5_carrier 1 := ⟨by decide +kernel, by decide +kernel, by decide +kernel⟩
theorem nL_X6_carrier : NameIn yX6_carrier 1 := ⟨by decide +kernel, by decide +kernel, by decide +kernel⟩
set_option maxRecDepth 100000 in
set_option maxHeartbeats 4000000 in
theorem lc_37 (C : O2 X cL_law 4 (some .boolean) wsL_law RL room_1 D vwCl (xT cs) [] (lwN tF tO tT e0 k0 x0 e1 k1 x1 e2 k2 x2 fv b L xs)) (hq : (xA qx).Nodup) (hm : (mA qm).Nodup) (hL : L ≤ 2560) (hj : 5 * j + 5 ≤ L) (nx_ : LI X cs qx qm e0 x0 b (j + 1) 18) : LI X cs qx qm e0 x0 b j 1559 := by
  intro n nd es kn knd kes img tl ta tn sl bey wt un ed kwt kun ked tb sb sz sbs G K P wk wh isK isB fed at_ ltr ab ps g kp nx fa tp rs rv ct it ex pl pf h
  obtain ⟨⟨N, R⟩, RKp, TT, S, F, PP, PXp⟩ := h
  obtain ⟨r, u1, u2, f1, f2⟩ := o_carrier R bey isB (xs (5 * j + 1))
  refine bv_aload_n C 2 dL_law_1559 rfl ?_
  refine lw_arg C (fun _ _ h => h.2.2.2) hL hj 1 (by decide) rfl dL_law_1560 dL_law_1561 dL_law_1562 dL_law_1563 dL_law_1564 ?_
  refine bv_kV C (As := [.int (xs (5 * j + 1))]) (st := []) (fun l9 => k_X5_carrier hq f1) rfl cut_left rfl (fun _ h => h) (NTo.of lwN_ok (fun _ _ h => h.1.1) (List.range _) rg_left rfl) xN_ok gL_law_X5_carrier 0 rfl rfl rfl rfl nL_X5_carrier ⟨rfl, rfl, (Nat.le_of_ble_eq_true rfl), (Nat.le_of_ble_eq_true rfl), by show 44 + 140 * j + 0 ≤ 600000; omega, by show 18765 + 12000 * j + 0 ≤ 7302249; omega⟩ dL_law_1565 (Nat.le_of_ble_eq_true rfl) rfl ?_
  refine bv_eqw (List.append_assoc _ _ _) ?_
  refine bv_aload_n C 1 dL_law_1568 rfl ?_
  refine lw_arg C (fun _ _ h => h.2.2.2) hL hj 1 (by decide) rfl dL_law_1569 dL_law_1570 dL_law_1571 dL_law_1572 dL_law_1573 ?_
  refine bv_kV C (As := [.int (xs (5 * j + 1))]) (st := [.int r]) (fun l9 => k_X6_carrier (N := NT) hm NT_ok f2) rfl cut_left rfl (fun _ h => h.sub [0, 1] rfl) NTo.nt NT_ok gL_law_X6_carrier 0 rfl rfl rfl rfl nL_X6_carrier ⟨rfl, rfl, (Nat.le_of_ble_eq_true rfl), (Nat.le_of_ble_eq_true rfl), by show 44 + 140 * j + 0 ≤ 600000; omega, by show 18765 + 12000 * j + 0 ≤ 7302249; omega⟩ dL_law_1574 (Nat.le_of_ble_eq_true rfl) rfl ?_
  refine bv_icmp_eq_t C dL_law_1577 (tgt := 2090) (by decide) rfl ?_
  refine bv_rot ?_
  refine bv_widen (cs1 := 44 + 140 * (j + 1)) (sl1 := 18765 + 12000 * (j + 1)) (by omega) (by omega) ?_
  exact lw_tail C (by decide) dL_law_2090 dL_law_2093 (nx_ _ _ _ _ _ _ _ _ _ _ _ _ _ _ _ _ _ _ _ _ _ _ _ _ _ _ _ _ _ _ _ _ _ _ _ _ _ _ _ _ _ _ _ _ _ _ ⟨⟨_, R⟩, RKp, TT, S, F, PP, PXp⟩)

theorem nL_X5_is : NameIn yX5_is 2 := ⟨by decide +kernel, by decide +kernel, by decide +kernel⟩
theorem nL_X6_is : NameIn yX6_is 2 := ⟨by decide +kernel, by decide +kernel, by decide +kernel⟩
set_option maxRecDepth 100000 in
set_option maxHeartbeats 4000000 in
theorem lc_38 (C : O2 X cL_law 4 (some .boolean) wsL_law RL room_1 D vwCl (xT cs) [] (lwN tF tO tT e0 k0 x0 e1 k1 x1 e2 k2 x2 fv b L xs)) (hq : (xA qx).Nodup) (hm : (mA qm).Nodup) (hL : L ≤ 2560) (hj : 5 * j + 5 ≤ L) (nx_ : LI X cs qx qm e0 x0 b (j + 1) 18) : LI X cs qx qm e0 x0 b j 1582 := by
  intro n nd es kn knd kes img tl ta tn sl bey wt un ed kwt kun ked tb sb sz sbs G K P wk wh isK isB fed at_ ltr ab ps g kp nx fa tp rs rv ct it ex pl pf h
  obtain ⟨⟨N, R⟩, RKp, TT, S, F, PP, PXp⟩ := h
  obtain ⟨r, u1, u2, f1, f2⟩ := o_is R bey isB (xs (5 * j + 1)) (xs (5 * j + 2))
  refine bv_aload_n C 2 dL_law_1582 rfl ?_
  refine lw_arg C (fun _ _ h => h.2.2.2) hL hj 1 (by decide) rfl dL_law_1583 dL_law_1584 dL_law_1585 dL_law_1586 dL_law_1587 ?_
  refine lw_arg C (fun _ _ h => h.2.2.2) hL hj 2 (by decide) rfl dL_law_1588 dL_law_1589 dL_law_1590 dL_law_1591 dL_law_1592 ?_
  refine bv_kV C (As := [.int (xs (5 * j + 1)), .int (xs (5 * j + 2))]) (st := []) (fun l9 => k_X5_is hq f1) rfl cut_left rfl (fun _ h => h) (NTo.of lwN_ok (fun _ _ h => h.1.1) (List.range _) rg_left rfl) xN_ok gL_law_X5_is 0 rfl rfl rfl rfl nL_X5_is ⟨rfl, rfl, (Nat.le_of_ble_eq_true rfl), (Nat.le_of_ble_eq_true rfl), by show 44 + 140 * j + 0 ≤ 600000; omega, by show 18765 + 12000 * j + 0 ≤ 7302249; omega⟩ dL_law_1593 (Nat.le_of_ble_eq_true rfl) rfl ?_
  refine bv_eqw (List.append_assoc _ _ _) ?_
  refine bv_aload_n C 1 dL_law_1596 rfl ?_
  refine lw_arg C (fun _ _ h => h.2.2.2) hL hj 1 (by decide) rfl dL_law_1597 dL_law_1598 dL_law_1599 dL_law_1600 dL_law_1601 ?_
  refine lw_arg C (fun _ _ h => h.2.2.2) hL hj 2 (by decide) rfl dL_law_1602 dL_law_1603 dL_law_1604 dL_law_1605 dL_law_1606 ?_
  refine bv_kV C (As := [.int (xs (5 * j + 1)), .int (xs (5 * j + 2))]) (st := [.int r]) (fun l9 => k_X6_is (N := NT) hm NT_ok f2) rfl cut_left rfl (fun _ h => h.sub [0, 1] rfl) NTo.nt NT_ok gL_law_X6_is 0 rfl rfl rfl rfl nL_X6_is ⟨rfl, rfl, (Nat.le_of_ble_eq_true rfl), (Nat.le_of_ble_eq_true rfl), by show 44 + 140 * j + 0 ≤ 600000; omega, by show 18765 + 12000 * j + 0 ≤ 7302249; omega⟩ dL_law_1607 (Nat.le_of_ble_eq_true rfl) rfl ?_
  refine bv_icmp_eq_t C dL_law_1610 (tgt := 2090) (by decide) rfl ?_
  refine bv_rot ?_
  refine bv_widen (cs1 := 44 + 140 * (j + 1)) (sl1 := 18765 + 12000 * (j + 1)) (by omega) (by omega) ?_
  exact lw_tail C (by decide) dL_law_2090 dL_law_2093 (nx_ _ _ _ _ _ _ _ _ _ _ _ _ _ _ _ _ _ _ _ _ _ _ _ _ _ _ _ _ _ _ _ _ _ _ _ _ _ _ _ _ _ _ _ _ _ _ ⟨⟨_, R⟩, RKp, TT, S, F, PP, PXp⟩)

theorem nL_X5_union : NameIn yX5_union 1 := ⟨by decide +kernel, by decide +kernel, by decide +kernel⟩
theorem nL_X6_union : NameIn yX6_union 1 := ⟨by decide +kernel, by decide +kernel, by decide +kernel⟩
set_option maxRecDepth 100000 in
set_option maxHeartbeats 4000000 in
theorem lc_39 (C : O2 X cL_law 4 (some .boolean) wsL_law RL room_1 D vwCl (xT cs) [] (lwN tF tO tT e0 k0 x0 e1 k1 x1 e2 k2 x2 fv b L xs)) (hq : (xA qx).Nodup) (hm : (mA qm).Nodup) (hL : L ≤ 2560) (hj : 5 * j + 5 ≤ L) (nx_ : LI X cs qx qm e0 x0 b (j + 1) 18) : LI X cs qx qm e0 x0 b j 1615 := by
  intro n nd es kn knd kes img tl ta tn sl bey wt un ed kwt kun ked tb sb sz sbs G K P wk wh isK isB fed at_ ltr ab ps g kp nx fa tp rs rv ct it ex pl pf h
  obtain ⟨⟨N, R⟩, RKp, TT, S, F, PP, PXp⟩ := h
  obtain ⟨r, f1, f2⟩ := o_union R (xs (5 * j + 1))
  refine bv_aload_n C 2 dL_law_1615 rfl ?_
  refine lw_arg C (fun _ _ h => h.2.2.2) hL hj 1 (by decide) rfl dL_law_1616 dL_law_1617 dL_law_1618 dL_law_1619 dL_law_1620 ?_
  refine bv_kV C (As := [.int (xs (5 * j + 1))]) (st := []) (fun l9 => k_X5_union hq f1) rfl cut_left rfl (fun _ h => h) (NTo.of lwN_ok (fun _ _ h => h.1.1) (List.range _) rg_left rfl) xN_ok gL_law_X5_union 0 rfl rfl rfl rfl nL_X5_union ⟨rfl, rfl, (Nat.le_of_ble_eq_true rfl), (Nat.le_of_ble_eq_true rfl), by show 44 + 140 * j + 0 ≤ 600000; omega, by show 18765 + 12000 * j + 0 ≤ 7302249; omega⟩ dL_law_1621 (Nat.le_of_ble_eq_true rfl) rfl ?_
  refine bv_eqw (List.append_assoc _ _ _) ?_
  refine bv_aload_n C 1 dL_law_1624 rfl ?_
  refine lw_arg C (fun _ _ h => h.2.2.2) hL hj 1 (by decide) rfl dL_law_1625 dL_law_1626 dL_law_1627 dL_law_1628 dL_law_1629 ?_
  refine bv_kV C (As := [.int (xs (5 * j + 1))]) (st := [.int r]) (fun l9 => k_X6_union (N := NT) hm NT_ok f2) rfl cut_left rfl (fun _ h => h.sub [0, 1] rfl) NTo.nt NT_ok gL_law_X6_union 0 rfl rfl rfl rfl nL_X6_union ⟨rfl, rfl, (Nat.le_of_ble_eq_true rfl), (Nat.le_of_ble_eq_true rfl), by show 44 + 140 * j + 0 ≤ 600000; omega, by show 18765 + 12000 * j + 0 ≤ 7302249; omega⟩ dL_law_1630 (Nat.le_of_ble_eq_true rfl) rfl ?_
  refine bv_icmp_eq_t C dL_law_1633 (tgt := 2090) (by decide) rfl ?_
  refine bv_rot ?_
  refine bv_widen (cs1 := 44 + 140 * (j + 1)) (sl1 := 18765 + 12000 * (j + 1)) (by omega) (by omega) ?_
  exact lw_tail C (by decide) dL_law_2090 dL_law_2093 (nx_ _ _ _ _ _ _ _ _ _ _ _ _ _ _ _ _ _ _ _ _ _ _ _ _ _ _ _ _ _ _ _ _ _ _ _ _ _ _ _ _ _ _ _ _ _ _ ⟨⟨_, R⟩, RKp, TT, S, F, PP, PXp⟩)

theorem nL_X5_stable : NameIn yX5_stable 3 := ⟨by decide +kernel, by decide +kernel, by decide +kernel⟩
theorem nL_X6_stable : NameIn yX6_stable 3 := ⟨by decide +kernel, by decide +kernel, by decide +kernel⟩
set_option maxRecDepth 100000 in
set_option maxHeartbeats 4000000 in
theorem lc_40 (C : O2 X cL_law 4 (some .boolean) wsL_law RL room_1 D vwCl (xT cs) [] (lwN tF tO tT e0 k0 x0 e1 k1 x1 e2 k2 x2 fv b L xs)) (hq : (xA qx).Nodup) (hm : (mA qm).Nodup) (hL : L ≤ 2560) (hj : 5 * j + 5 ≤ L) (nx_ : LI X cs qx qm e0 x0 b (j + 1) 18) : LI X cs qx qm e0 x0 b j 1638 := by
  intro n nd es kn knd kes img tl ta tn sl bey wt un ed kwt kun ked tb sb sz sbs G K P wk wh isK isB fed at_ ltr ab ps g kp nx fa tp rs rv ct it ex pl pf h
  obtain ⟨⟨N, R⟩, RKp, TT, S, F, PP, PXp⟩ := h
  obtain ⟨r, u1, u2, f1, f2⟩ := o_stable R S bey isB (xs (5 * j + 1)) (xs (5 * j + 2)) (xs (5 * j + 3))
  refine bv_aload_n C 2 dL_law_1638 rfl ?_
  refine lw_arg C (fun _ _ h => h.2.2.2) hL hj 1 (by decide) rfl dL_law_1639 dL_law_1640 dL_law_1641 dL_law_1642 dL_law_1643 ?_
  refine lw_arg C (fun _ _ h => h.2.2.2) hL hj 2 (by decide) rfl dL_law_1644 dL_law_1645 dL_law_1646 dL_law_1647 dL_law_1648 ?_
  refine lw_arg C (fun _ _ h => h.2.2.2) hL hj 3 (by decide) rfl dL_law_1649 dL_law_1650 dL_law_1651 dL_law_1652 dL_law_1653 ?_
  refine bv_kV C (As := [.int (xs (5 * j + 1)), .int (xs (5 * j + 2)), .int (xs (5 * j + 3))]) (st := []) (fun l9 => k_X5_stable hq f1) rfl cut_left rfl (fun _ h => h) (NTo.of lwN_ok (fun _ _ h => h.1.1) (List.range _) rg_left rfl) xN_ok gL_law_X5_stable 0 rfl rfl rfl rfl nL_X5_stable ⟨rfl, rfl, (Nat.le_of_ble_eq_true rfl), (Nat.le_of_ble_eq_true rfl), by show 44 + 140 * j + 0 ≤ 600000; omega, by show 18765 + 12000 * j + 0 ≤ 7302249; omega⟩ dL_law_1654 (Nat.le_of_ble_eq_true rfl) rfl ?_
  refine bv_eqw (List.append_assoc _ _ _) ?_
  refine bv_aload_n C 1 dL_law_1657 rfl ?_
  refine lw_arg C (fun _ _ h => h.2.2.2) hL hj 1 (by decide) rfl dL_law_1658 dL_law_1659 dL_law_1660 dL_law_1661 dL_law_1662 ?_
  refine lw_arg C (fun _ _ h => h.2.2.2) hL hj 2 (by decide) rfl dL_law_1663 dL_law_1664 dL_law_1665 dL_law_1666 dL_law_1667 ?_
  refine lw_arg C (fun _ _ h => h.2.2.2) hL hj 3 (by decide) rfl dL_law_1668 dL_law_1669 dL_law_1670 dL_law_1671 dL_law_1672 ?_
  refine bv_kV C (As := [.int (xs (5 * j + 1)), .int (xs (5 * j + 2)), .int (xs (5 * j + 3))]) (st := [.int r]) (fun l9 => k_X6_stable (N := NT) hm NT_ok f2) rfl cut_left rfl (fun _ h => h.sub [0, 1] rfl) NTo.nt NT_ok gL_law_X6_stable 0 rfl rfl rfl rfl nL_X6_stable ⟨rfl, rfl, (Nat.le_of_ble_eq_true rfl), (Nat.le_of_ble_eq_true rfl), by show 44 + 140 * j + 0 ≤ 600000; omega, by show 18765 + 12000 * j + 0 ≤ 7302249; omega⟩ dL_law_1673 (Nat.le_of_ble_eq_true rfl) rfl ?_
  refine bv_icmp_eq_t C dL_law_1676 (tgt := 2090) (by decide) rfl ?_
  refine bv_rot ?_
  refine bv_widen (cs1 := 44 + 140 * (j + 1)) (sl1 := 18765 + 12000 * (j + 1)) (by omega) (by omega) ?_
  exact lw_tail C (by decide) dL_law_2090 dL_law_2093 (nx_ _ _ _ _ _ _ _ _ _ _ _ _ _ _ _ _ _ _ _ _ _ _ _ _ _ _ _ _ _ _ _ _ _ _ _ _ _ _ _ _ _ _ _ _ _ _ ⟨⟨_, R⟩, RKp, TT, S, F, PP, PXp⟩)

theorem nL_X5_worst : NameIn yX5_worst 3 := ⟨by decide +kernel, by decide +kernel, by decide +kernel⟩
theorem nL_X6_worst : NameIn yX6_worst 3 := ⟨by decide +kernel, by decide +kernel, by decide +kernel⟩
set_option maxRecDepth 100000 in
set_option maxHeartbeats 4000000 in
theorem lc_41 (C : O2 X cL_law 4 (some .boolean) wsL_law RL room_1 D vwCl (xT cs) [] (lwN tF tO tT e0 k0 x0 e1 k1 x1 e2 k2 x2 fv b L xs)) (hq : (xA qx).Nodup) (hm : (mA qm).Nodup) (hL : L ≤ 2560) (hj : 5 * j + 5 ≤ L) (nx_ : LI X cs qx qm e0 x0 b (j + 1) 18) : LI X cs qx qm e0 x0 b j 1681 := by
  intro n nd es kn knd kes img tl ta tn sl bey wt un ed kwt kun ked tb sb sz sbs G K P wk wh isK isB fed at_ ltr ab ps g kp nx fa tp rs rv ct it ex pl pf h
  obtain ⟨⟨N, R⟩, RKp, TT, S, F, PP, PXp⟩ := h
  obtain ⟨r, u1, u2, f1, f2⟩ := o_worst R S bey isB (xs (5 * j + 1)) (xs (5 * j + 2)) (xs (5 * j + 3))
  refine bv_aload_n C 2 dL_law_1681 rfl ?_
  refine lw_arg C (fun _ _ h => h.2.2.2) hL hj 1 (by decide) rfl dL_law_1682 dL_law_1683 dL_law_1684 dL_law_1685 dL_law_1686 ?_
  refine lw_arg C (fun _ _ h => h.2.2.2) hL hj 2 (by decide) rfl dL_law_1687 dL_law_1688 dL_law_1689 dL_law_1690 dL_law_1691 ?_
  refine lw_arg C (fun _ _ h => h.2.2.2) hL hj 3 (by decide) rfl dL_law_1692 dL_law_1693 dL_law_1694 dL_law_1695 dL_law_1696 ?_
  refine bv_kV C (As := [.int (xs (5 * j + 1)), .int (xs (5 * j + 2)), .int (xs (5 * j + 3))]) (st := []) (fun l9 => k_X5_worst hq f1) rfl cut_left rfl (fun _ h => h) (NTo.of lwN_ok (fun _ _ h => h.1.1) (List.range _) rg_left rfl) xN_ok gL_law_X5_worst 0 rfl rfl rfl rfl nL_X5_worst ⟨rfl, rfl, (Nat.le_of_ble_eq_true rfl), (Nat.le_of_ble_eq_true rfl), by show 44 + 140 * j + 0 ≤ 600000; omega, by show 18765 + 12000 * j + 0 ≤ 7302249; omega⟩ dL_law_1697 (Nat.le_of_ble_eq_true rfl) rfl ?_
  refine bv_eqw (List.append_assoc _ _ _) ?_
  refine bv_aload_n C 1 dL_law_1700 rfl ?_
  refine lw_arg C (fun _ _ h => h.2.2.2) hL hj 1 (by decide) rfl dL_law_1701 dL_law_1702 dL_law_1703 dL_law_1704 dL_law_1705 ?_
  refine lw_arg C (fun _ _ h => h.2.2.2) hL hj 2 (by decide) rfl dL_law_1706 dL_law_1707 dL_law_1708 dL_law_1709 dL_law_1710 ?_
  refine lw_arg C (fun _ _ h => h.2.2.2) hL hj 3 (by decide) rfl dL_law_1711 dL_law_1712 dL_law_1713 dL_law_1714 dL_law_1715 ?_
  refine bv_kV C (As := [.int (xs (5 * j + 1)), .int (xs (5 * j + 2)), .int (xs (5 * j + 3))]) (st := [.int r]) (fun l9 => k_X6_worst (N := NT) hm NT_ok f2) rfl cut_left rfl (fun _ h => h.sub [0, 1] rfl) NTo.nt NT_ok gL_law_X6_worst 0 rfl rfl rfl rfl nL_X6_worst ⟨rfl, rfl, (Nat.le_of_ble_eq_true rfl), (Nat.le_of_ble_eq_true rfl), by show 44 + 140 * j + 0 ≤ 600000; omega, by show 18765 + 12000 * j + 0 ≤ 7302249; omega⟩ dL_law_1716 (Nat.le_of_ble_eq_true rfl) rfl ?_
  refine bv_icmp_eq_t C dL_law_1719 (tgt := 2090) (by decide) rfl ?_
  refine bv_rot ?_
  refine bv_widen (cs1 := 44 + 140 * (j + 1)) (sl1 := 18765 + 12000 * (j + 1)) (by omega) (by omega) ?_
  exact lw_tail C (by decide) dL_law_2090 dL_law_2093 (nx_ _ _ _ _ _ _ _ _ _ _ _ _ _ _ _ _ _ _ _ _ _ _ _ _ _ _ _ _ _ _ _ _ _ _ _ _ _ _ _ _ _ _ _ _ _ _ ⟨⟨_, R⟩, RKp, TT, S, F, PP, PXp⟩)
end LC
