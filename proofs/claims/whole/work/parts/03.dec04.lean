theorem dX5_lessItsDividends_0 : decode cX5_lessItsDividends 0 = .ok (.lload_n 1, 1) := by decide +kernel
theorem dX5_lessItsDividends_1 : decode cX5_lessItsDividends 1 = .ok (.lstore 4, 2) := by decide +kernel
theorem dX5_lessItsDividends_3 : decode cX5_lessItsDividends 3 = .ok (.iconst 0, 1) := by decide +kernel
theorem dX5_lessItsDividends_4 : decode cX5_lessItsDividends 4 = .ok (.istore 6, 2) := by decide +kernel
theorem dX5_lessItsDividends_6 : decode cX5_lessItsDividends 6 = .ok (.iconst 1, 1) := by decide +kernel
theorem dX5_lessItsDividends_7 : decode cX5_lessItsDividends 7 = .ok (.istore 7, 2) := by decide +kernel
theorem dX5_lessItsDividends_9 : decode cX5_lessItsDividends 9 = .ok (.iload 7, 2) := by decide +kernel
theorem dX5_lessItsDividends_11 : decode cX5_lessItsDividends 11 = .ok (.iconst 1, 1) := by decide +kernel
theorem dX5_lessItsDividends_12 : decode cX5_lessItsDividends 12 = .ok (.iload_n 3, 1) := by decide +kernel
theorem dX5_lessItsDividends_13 : decode cX5_lessItsDividends 13 = .ok (.invokestatic 153, 3) := by decide +kernel
theorem dX5_lessItsDividends_16 : decode cX5_lessItsDividends 16 = .ok (.ishl, 1) := by decide +kernel
theorem dX5_lessItsDividends_17 : decode cX5_lessItsDividends 17 = .ok (.iconst 1, 1) := by decide +kernel
theorem dX5_lessItsDividends_18 : decode cX5_lessItsDividends 18 = .ok (.isub, 1) := by decide +kernel
theorem dX5_lessItsDividends_19 : decode cX5_lessItsDividends 19 = .ok (.if_icmp .ge 35, 3) := by decide +kernel
theorem dX5_lessItsDividends_22 : decode cX5_lessItsDividends 22 = .ok (.iload 6, 2) := by decide +kernel
theorem dX5_lessItsDividends_24 : decode cX5_lessItsDividends 24 = .ok (.iload_n 3, 1) := by decide +kernel
theorem dX5_lessItsDividends_25 : decode cX5_lessItsDividends 25 = .ok (.invokestatic 234, 3) := by decide +kernel
theorem dX5_lessItsDividends_28 : decode cX5_lessItsDividends 28 = .ok (.istore 6, 2) := by decide +kernel
theorem dX5_lessItsDividends_30 : decode cX5_lessItsDividends 30 = .ok (.aload_n 0, 1) := by decide +kernel
theorem dX5_lessItsDividends_31 : decode cX5_lessItsDividends 31 = .ok (.getfield 45, 3) := by decide +kernel
theorem dX5_lessItsDividends_34 : decode cX5_lessItsDividends 34 = .ok (.lload 4, 2) := by decide +kernel
theorem dX5_lessItsDividends_36 : decode cX5_lessItsDividends 36 = .ok (.aload_n 0, 1) := by decide +kernel
theorem dX5_lessItsDividends_37 : decode cX5_lessItsDividends 37 = .ok (.getfield 49, 3) := by decide +kernel
theorem dX5_lessItsDividends_40 : decode cX5_lessItsDividends 40 = .ok (.iload 6, 2) := by decide +kernel
theorem dX5_lessItsDividends_42 : decode cX5_lessItsDividends 42 = .ok (.laload, 1) := by decide +kernel
theorem dX5_lessItsDividends_43 : decode cX5_lessItsDividends 43 = .ok (.invokevirtual 178, 3) := by decide +kernel
theorem dX5_lessItsDividends_46 : decode cX5_lessItsDividends 46 = .ok (.lstore 4, 2) := by decide +kernel
theorem dX5_lessItsDividends_48 : decode cX5_lessItsDividends 48 = .ok (.iinc 7 1, 3) := by decide +kernel
theorem dX5_lessItsDividends_51 : decode cX5_lessItsDividends 51 = .ok (.goto (-42), 3) := by decide +kernel
theorem dX5_lessItsDividends_54 : decode cX5_lessItsDividends 54 = .ok (.lload 4, 2) := by decide +kernel
theorem dX5_lessItsDividends_56 : decode cX5_lessItsDividends 56 = .ok (.lreturn, 1) := by decide +kernel
set_option maxRecDepth 20000 in
theorem ggX5_lowest_X5_commonDivisor : GoodIn wsX5_lowest wsX5_commonDivisor := goodIn_r _ [5, 6, 7, 8, 9] (by decide +kernel) (by decide +kernel)
set_option maxRecDepth 20000 in
theorem gX5_lowest_X5_commonDivisor : GoodIn wsX5_lowest (va_wsS RX5 347 yX5_commonDivisor wsX5_commonDivisor) := goodIn_app (goodIn_of _ (by decide +kernel)) ggX5_lowest_X5_commonDivisor
theorem dX5_lowest_0 : decode cX5_lowest 0 = .ok (.lload_n 0, 1) := by decide +kernel
theorem dX5_lowest_1 : decode cX5_lowest 1 = .ok (.lload_n 2, 1) := by decide +kernel
theorem dX5_lowest_2 : decode cX5_lowest 2 = .ok (.invokestatic 347, 3) := by decide +kernel
theorem dX5_lowest_5 : decode cX5_lowest 5 = .ok (.lstore 5, 2) := by decide +kernel
theorem dX5_lowest_7 : decode cX5_lowest 7 = .ok (.lload 5, 2) := by decide +kernel
theorem dX5_lowest_9 : decode cX5_lowest 9 = .ok (.lconst 1, 1) := by decide +kernel
theorem dX5_lowest_10 : decode cX5_lowest 10 = .ok (.lcmp, 1) := by decide +kernel
theorem dX5_lowest_11 : decode cX5_lowest 11 = .ok (.ifCond .ge 7, 3) := by decide +kernel
theorem dX5_lowest_14 : decode cX5_lowest 14 = .ok (.ldc2_w 79, 3) := by decide +kernel
theorem dX5_lowest_17 : decode cX5_lowest 17 = .ok (.lreturn, 1) := by decide +kernel
theorem dX5_lowest_18 : decode cX5_lowest 18 = .ok (.iload 4, 2) := by decide +kernel
theorem dX5_lowest_20 : decode cX5_lowest 20 = .ok (.ifCond .ne 10, 3) := by decide +kernel
theorem dX5_lowest_23 : decode cX5_lowest 23 = .ok (.lload_n 0, 1) := by decide +kernel
theorem dX5_lowest_24 : decode cX5_lowest 24 = .ok (.lload 5, 2) := by decide +kernel
theorem dX5_lowest_26 : decode cX5_lowest 26 = .ok (.ldiv, 1) := by decide +kernel
theorem dX5_lowest_27 : decode cX5_lowest 27 = .ok (.goto 7, 3) := by decide +kernel
theorem dX5_lowest_30 : decode cX5_lowest 30 = .ok (.lload_n 2, 1) := by decide +kernel
theorem dX5_lowest_31 : decode cX5_lowest 31 = .ok (.lload 5, 2) := by decide +kernel
theorem dX5_lowest_33 : decode cX5_lowest 33 = .ok (.ldiv, 1) := by decide +kernel
theorem dX5_lowest_34 : decode cX5_lowest 34 = .ok (.lreturn, 1) := by decide +kernel
theorem dX5_commonDivisor_0 : decode cX5_commonDivisor 0 = .ok (.lload_n 2, 1) := by decide +kernel
theorem dX5_commonDivisor_1 : decode cX5_commonDivisor 1 = .ok (.lconst 1, 1) := by decide +kernel
theorem dX5_commonDivisor_2 : decode cX5_commonDivisor 2 = .ok (.lcmp, 1) := by decide +kernel
theorem dX5_commonDivisor_3 : decode cX5_commonDivisor 3 = .ok (.ifCond .ge 5, 3) := by decide +kernel
theorem dX5_commonDivisor_6 : decode cX5_commonDivisor 6 = .ok (.lconst 1, 1) := by decide +kernel
theorem dX5_commonDivisor_7 : decode cX5_commonDivisor 7 = .ok (.lreturn, 1) := by decide +kernel
theorem dX5_commonDivisor_8 : decode cX5_commonDivisor 8 = .ok (.lload_n 2, 1) := by decide +kernel
theorem dX5_commonDivisor_9 : decode cX5_commonDivisor 9 = .ok (.lstore 4, 2) := by decide +kernel
theorem dX5_commonDivisor_11 : decode cX5_commonDivisor 11 = .ok (.lload_n 0, 1) := by decide +kernel
theorem dX5_commonDivisor_12 : decode cX5_commonDivisor 12 = .ok (.lload_n 2, 1) := by decide +kernel
theorem dX5_commonDivisor_13 : decode cX5_commonDivisor 13 = .ok (.lrem, 1) := by decide +kernel
theorem dX5_commonDivisor_14 : decode cX5_commonDivisor 14 = .ok (.invokestatic 350, 3) := by decide +kernel
theorem dX5_commonDivisor_17 : decode cX5_commonDivisor 17 = .ok (.lstore 6, 2) := by decide +kernel
theorem dX5_commonDivisor_19 : decode cX5_commonDivisor 19 = .ok (.iconst 0, 1) := by decide +kernel
theorem dX5_commonDivisor_20 : decode cX5_commonDivisor 20 = .ok (.istore 8, 2) := by decide +kernel
theorem dX5_commonDivisor_22 : decode cX5_commonDivisor 22 = .ok (.iload 8, 2) := by decide +kernel
theorem dX5_commonDivisor_24 : decode cX5_commonDivisor 24 = .ok (.sipush 1000, 3) := by decide +kernel
theorem dX5_commonDivisor_27 : decode cX5_commonDivisor 27 = .ok (.if_icmp .ge 31, 3) := by decide +kernel
theorem dX5_commonDivisor_30 : decode cX5_commonDivisor 30 = .ok (.lload 6, 2) := by decide +kernel
theorem dX5_commonDivisor_32 : decode cX5_commonDivisor 32 = .ok (.lconst 0, 1) := by decide +kernel
theorem dX5_commonDivisor_33 : decode cX5_commonDivisor 33 = .ok (.lcmp, 1) := by decide +kernel
theorem dX5_commonDivisor_34 : decode cX5_commonDivisor 34 = .ok (.ifCond .eq 24, 3) := by decide +kernel
theorem dX5_commonDivisor_37 : decode cX5_commonDivisor 37 = .ok (.lload 4, 2) := by decide +kernel
theorem dX5_commonDivisor_39 : decode cX5_commonDivisor 39 = .ok (.lload 6, 2) := by decide +kernel
theorem dX5_commonDivisor_41 : decode cX5_commonDivisor 41 = .ok (.lrem, 1) := by decide +kernel
theorem dX5_commonDivisor_42 : decode cX5_commonDivisor 42 = .ok (.lstore 9, 2) := by decide +kernel
theorem dX5_commonDivisor_44 : decode cX5_commonDivisor 44 = .ok (.lload 6, 2) := by decide +kernel
theorem dX5_commonDivisor_46 : decode cX5_commonDivisor 46 = .ok (.lstore 4, 2) := by decide +kernel
theorem dX5_commonDivisor_48 : decode cX5_commonDivisor 48 = .ok (.lload 9, 2) := by decide +kernel
theorem dX5_commonDivisor_50 : decode cX5_commonDivisor 50 = .ok (.lstore 6, 2) := by decide +kernel
theorem dX5_commonDivisor_52 : decode cX5_commonDivisor 52 = .ok (.iinc 8 1, 3) := by decide +kernel
theorem dX5_commonDivisor_55 : decode cX5_commonDivisor 55 = .ok (.goto (-33), 3) := by decide +kernel
theorem dX5_commonDivisor_58 : decode cX5_commonDivisor 58 = .ok (.lload 4, 2) := by decide +kernel
theorem dX5_commonDivisor_60 : decode cX5_commonDivisor 60 = .ok (.lreturn, 1) := by decide +kernel
theorem dX5_cutToWhole_0 : decode cX5_cutToWhole 0 = .ok (.iload_n 2, 1) := by decide +kernel
theorem dX5_cutToWhole_1 : decode cX5_cutToWhole 1 = .ok (.iconst 1, 1) := by decide +kernel
theorem dX5_cutToWhole_2 : decode cX5_cutToWhole 2 = .ok (.if_icmp .ge 7, 3) := by decide +kernel
theorem dX5_cutToWhole_5 : decode cX5_cutToWhole 5 = .ok (.lconst 0, 1) := by decide +kernel
theorem dX5_cutToWhole_6 : decode cX5_cutToWhole 6 = .ok (.goto 7, 3) := by decide +kernel
theorem dX5_cutToWhole_9 : decode cX5_cutToWhole 9 = .ok (.lload_n 0, 1) := by decide +kernel
theorem dX5_cutToWhole_10 : decode cX5_cutToWhole 10 = .ok (.iload_n 2, 1) := by decide +kernel
theorem dX5_cutToWhole_11 : decode cX5_cutToWhole 11 = .ok (.i2l, 1) := by decide +kernel
theorem dX5_cutToWhole_12 : decode cX5_cutToWhole 12 = .ok (.ldiv, 1) := by decide +kernel
theorem dX5_cutToWhole_13 : decode cX5_cutToWhole 13 = .ok (.lreturn, 1) := by decide +kernel
set_option maxRecDepth 20000 in
theorem ggX5_swingsBySets_X0_sets : GoodIn wsX5_swingsBySets wsX0_sets := goodIn_r _ [6, 7, 35, 36, 37, 38, 39, 40, 41] (by decide +kernel) (by decide +kernel)
set_option maxRecDepth 20000 in
theorem gX5_swingsBySets_X0_sets : GoodIn wsX5_swingsBySets (wsV RX5 126 RX0 yX0_sets wsX0_sets) := goodIn_app (goodIn_of _ (by decide +kernel)) ggX5_swingsBySets_X0_sets
set_option maxRecDepth 20000 in
theorem ggX5_swingsBySets_X0_isSwing : GoodIn wsX5_swingsBySets wsX0_isSwing := goodIn_r _ [11, 12, 13, 14, 15, 16, 17, 5, 18, 19, 20, 21, 22, 23, 7, 24, 35, 36, 37, 38, 39, 40, 41] (by decide +kernel) (by decide +kernel)
set_option maxRecDepth 20000 in
theorem gX5_swingsBySets_X0_isSwing : GoodIn wsX5_swingsBySets (wsV RX5 208 RX0 yX0_isSwing wsX0_isSwing) := goodIn_app (goodIn_of _ (by decide +kernel)) ggX5_swingsBySets_X0_isSwing
theorem dX5_swingsBySets_0 : decode cX5_swingsBySets 0 = .ok (.iconst 0, 1) := by decide +kernel
theorem dX5_swingsBySets_1 : decode cX5_swingsBySets 1 = .ok (.istore_n 2, 1) := by decide +kernel
theorem dX5_swingsBySets_2 : decode cX5_swingsBySets 2 = .ok (.iconst 0, 1) := by decide +kernel
theorem dX5_swingsBySets_3 : decode cX5_swingsBySets 3 = .ok (.istore_n 3, 1) := by decide +kernel
theorem dX5_swingsBySets_4 : decode cX5_swingsBySets 4 = .ok (.iload_n 3, 1) := by decide +kernel
theorem dX5_swingsBySets_5 : decode cX5_swingsBySets 5 = .ok (.aload_n 0, 1) := by decide +kernel
theorem dX5_swingsBySets_6 : decode cX5_swingsBySets 6 = .ok (.getfield 14, 3) := by decide +kernel
theorem dX5_swingsBySets_9 : decode cX5_swingsBySets 9 = .ok (.invokevirtual 126, 3) := by decide +kernel
theorem dX5_swingsBySets_12 : decode cX5_swingsBySets 12 = .ok (.if_icmp .ge 24, 3) := by decide +kernel
theorem dX5_swingsBySets_15 : decode cX5_swingsBySets 15 = .ok (.aload_n 0, 1) := by decide +kernel
theorem dX5_swingsBySets_16 : decode cX5_swingsBySets 16 = .ok (.getfield 14, 3) := by decide +kernel
theorem dX5_swingsBySets_19 : decode cX5_swingsBySets 19 = .ok (.iload_n 3, 1) := by decide +kernel
theorem dX5_swingsBySets_20 : decode cX5_swingsBySets 20 = .ok (.iload_n 1, 1) := by decide +kernel
theorem dX5_swingsBySets_21 : decode cX5_swingsBySets 21 = .ok (.invokevirtual 208, 3) := by decide +kernel
theorem dX5_swingsBySets_24 : decode cX5_swingsBySets 24 = .ok (.ifCond .eq 6, 3) := by decide +kernel
theorem dX5_swingsBySets_27 : decode cX5_swingsBySets 27 = .ok (.iinc 2 1, 3) := by decide +kernel
theorem dX5_swingsBySets_30 : decode cX5_swingsBySets 30 = .ok (.iinc 3 1, 3) := by decide +kernel
theorem dX5_swingsBySets_33 : decode cX5_swingsBySets 33 = .ok (.goto (-29), 3) := by decide +kernel
theorem dX5_swingsBySets_36 : decode cX5_swingsBySets 36 = .ok (.iload_n 2, 1) := by decide +kernel
theorem dX5_swingsBySets_37 : decode cX5_swingsBySets 37 = .ok (.ireturn, 1) := by decide +kernel
set_option maxRecDepth 20000 in
theorem ggX5_swingsBySums_X5_countSetsBySum : GoodIn wsX5_swingsBySums wsX5_countSetsBySum := goodIn_r _ [9, 4, 1, 10, 2, 11, 12, 13, 14, 15, 16, 17, 18, 19, 20, 21, 22, 23, 24, 25, 26, 27, 28, 29, 30, 31] (by decide +kernel) (by decide +kernel)
set_option maxRecDepth 20000 in
theorem gX5_swingsBySums_X5_countSetsBySum : GoodIn wsX5_swingsBySums (wsV RX5 354 RX5 yX5_countSetsBySum wsX5_countSetsBySum) := goodIn_app (goodIn_of _ (by decide +kernel)) ggX5_swingsBySums_X5_countSetsBySum
theorem dX5_swingsBySums_0 : decode cX5_swingsBySums 0 = .ok (.aload_n 0, 1) := by decide +kernel
theorem dX5_swingsBySums_1 : decode cX5_swingsBySums 1 = .ok (.iload_n 1, 1) := by decide +kernel
theorem dX5_swingsBySums_2 : decode cX5_swingsBySums 2 = .ok (.invokevirtual 354, 3) := by decide +kernel
theorem dX5_swingsBySums_5 : decode cX5_swingsBySums 5 = .ok (.istore_n 2, 1) := by decide +kernel
theorem dX5_swingsBySums_6 : decode cX5_swingsBySums 6 = .ok (.aload_n 0, 1) := by decide +kernel
theorem dX5_swingsBySums_7 : decode cX5_swingsBySums 7 = .ok (.getfield 14, 3) := by decide +kernel
theorem dX5_swingsBySums_10 : decode cX5_swingsBySums 10 = .ok (.getfield 84, 3) := by decide +kernel
theorem dX5_swingsBySums_13 : decode cX5_swingsBySums 13 = .ok (.iload_n 1, 1) := by decide +kernel
theorem dX5_swingsBySums_14 : decode cX5_swingsBySums 14 = .ok (.iaload, 1) := by decide +kernel
theorem dX5_swingsBySums_15 : decode cX5_swingsBySums 15 = .ok (.istore_n 3, 1) := by decide +kernel
theorem dX5_swingsBySums_16 : decode cX5_swingsBySums 16 = .ok (.iconst 0, 1) := by decide +kernel
theorem dX5_swingsBySums_17 : decode cX5_swingsBySums 17 = .ok (.istore 4, 2) := by decide +kernel
theorem dX5_swingsBySums_19 : decode cX5_swingsBySums 19 = .ok (.iconst 0, 1) := by decide +kernel
theorem dX5_swingsBySums_20 : decode cX5_swingsBySums 20 = .ok (.istore 5, 2) := by decide +kernel
theorem dX5_swingsBySums_22 : decode cX5_swingsBySums 22 = .ok (.iload 5, 2) := by decide +kernel
theorem dX5_swingsBySums_24 : decode cX5_swingsBySums 24 = .ok (.iload_n 2, 1) := by decide +kernel
theorem dX5_swingsBySums_25 : decode cX5_swingsBySums 25 = .ok (.if_icmp .gt 47, 3) := by decide +kernel
theorem dX5_swingsBySums_28 : decode cX5_swingsBySums 28 = .ok (.iload 5, 2) := by decide +kernel
theorem dX5_swingsBySums_30 : decode cX5_swingsBySums 30 = .ok (.aload_n 0, 1) := by decide +kernel
theorem dX5_swingsBySums_31 : decode cX5_swingsBySums 31 = .ok (.getfield 14, 3) := by decide +kernel
theorem dX5_swingsBySums_34 : decode cX5_swingsBySums 34 = .ok (.getfield 87, 3) := by decide +kernel
theorem dX5_swingsBySums_37 : decode cX5_swingsBySums 37 = .ok (.if_icmp .ge 29, 3) := by decide +kernel
theorem dX5_swingsBySums_40 : decode cX5_swingsBySums 40 = .ok (.iload 5, 2) := by decide +kernel
theorem dX5_swingsBySums_42 : decode cX5_swingsBySums 42 = .ok (.iload_n 3, 1) := by decide +kernel
theorem dX5_swingsBySums_43 : decode cX5_swingsBySums 43 = .ok (.iadd, 1) := by decide +kernel
theorem dX5_swingsBySums_44 : decode cX5_swingsBySums 44 = .ok (.aload_n 0, 1) := by decide +kernel
theorem dX5_swingsBySums_45 : decode cX5_swingsBySums 45 = .ok (.getfield 14, 3) := by decide +kernel
theorem dX5_swingsBySums_48 : decode cX5_swingsBySums 48 = .ok (.getfield 87, 3) := by decide +kernel
theorem dX5_swingsBySums_51 : decode cX5_swingsBySums 51 = .ok (.if_icmp .lt 15, 3) := by decide +kernel
theorem dX5_swingsBySums_54 : decode cX5_swingsBySums 54 = .ok (.iload 4, 2) := by decide +kernel
theorem dX5_swingsBySums_56 : decode cX5_swingsBySums 56 = .ok (.aload_n 0, 1) := by decide +kernel
theorem dX5_swingsBySums_57 : decode cX5_swingsBySums 57 = .ok (.getfield 56, 3) := by decide +kernel
theorem dX5_swingsBySums_60 : decode cX5_swingsBySums 60 = .ok (.iload 5, 2) := by decide +kernel
theorem dX5_swingsBySums_62 : decode cX5_swingsBySums 62 = .ok (.iaload, 1) := by decide +kernel
theorem dX5_swingsBySums_63 : decode cX5_swingsBySums 63 = .ok (.iadd, 1) := by decide +kernel
theorem dX5_swingsBySums_64 : decode cX5_swingsBySums 64 = .ok (.istore 4, 2) := by decide +kernel
theorem dX5_swingsBySums_66 : decode cX5_swingsBySums 66 = .ok (.iinc 5 1, 3) := by decide +kernel
theorem dX5_swingsBySums_69 : decode cX5_swingsBySums 69 = .ok (.goto (-47), 3) := by decide +kernel
theorem dX5_swingsBySums_72 : decode cX5_swingsBySums 72 = .ok (.iload 4, 2) := by decide +kernel
theorem dX5_swingsBySums_74 : decode cX5_swingsBySums 74 = .ok (.ireturn, 1) := by decide +kernel
set_option maxRecDepth 20000 in
theorem ggX5_countSetsBySum_J7_fill_53178 : GoodIn wsX5_countSetsBySum wsJ7_fill_53178 := goodIn_r _ [8] (by decide +kernel) (by decide +kernel)
set_option maxRecDepth 20000 in
theorem gX5_countSetsBySum_J7_fill_53178 : GoodIn wsX5_countSetsBySum (va_wsS RX5 357 yJ7_fill_53178 wsJ7_fill_53178) := goodIn_app (goodIn_of _ (by decide +kernel)) ggX5_countSetsBySum_J7_fill_53178
theorem dX5_countSetsBySum_0 : decode cX5_countSetsBySum 0 = .ok (.aload_n 0, 1) := by decide +kernel
theorem dX5_countSetsBySum_1 : decode cX5_countSetsBySum 1 = .ok (.getfield 56, 3) := by decide +kernel
theorem dX5_countSetsBySum_4 : decode cX5_countSetsBySum 4 = .ok (.iconst 0, 1) := by decide +kernel
theorem dX5_countSetsBySum_5 : decode cX5_countSetsBySum 5 = .ok (.invokestatic 357, 3) := by decide +kernel
theorem dX5_countSetsBySum_8 : decode cX5_countSetsBySum 8 = .ok (.aload_n 0, 1) := by decide +kernel
theorem dX5_countSetsBySum_9 : decode cX5_countSetsBySum 9 = .ok (.getfield 56, 3) := by decide +kernel
theorem dX5_countSetsBySum_12 : decode cX5_countSetsBySum 12 = .ok (.iconst 0, 1) := by decide +kernel
theorem dX5_countSetsBySum_13 : decode cX5_countSetsBySum 13 = .ok (.iconst 1, 1) := by decide +kernel
theorem dX5_countSetsBySum_14 : decode cX5_countSetsBySum 14 = .ok (.iastore, 1) := by decide +kernel
theorem dX5_countSetsBySum_15 : decode cX5_countSetsBySum 15 = .ok (.iconst 0, 1) := by decide +kernel
theorem dX5_countSetsBySum_16 : decode cX5_countSetsBySum 16 = .ok (.istore_n 2, 1) := by decide +kernel
theorem dX5_countSetsBySum_17 : decode cX5_countSetsBySum 17 = .ok (.iconst 0, 1) := by decide +kernel
theorem dX5_countSetsBySum_18 : decode cX5_countSetsBySum 18 = .ok (.istore_n 3, 1) := by decide +kernel
theorem dX5_countSetsBySum_19 : decode cX5_countSetsBySum 19 = .ok (.iload_n 3, 1) := by decide +kernel
theorem dX5_countSetsBySum_20 : decode cX5_countSetsBySum 20 = .ok (.aload_n 0, 1) := by decide +kernel
theorem dX5_countSetsBySum_21 : decode cX5_countSetsBySum 21 = .ok (.getfield 14, 3) := by decide +kernel
theorem dX5_countSetsBySum_24 : decode cX5_countSetsBySum 24 = .ok (.getfield 136, 3) := by decide +kernel
theorem dX5_countSetsBySum_27 : decode cX5_countSetsBySum 27 = .ok (.if_icmp .ge 64, 3) := by decide +kernel
theorem dX5_countSetsBySum_30 : decode cX5_countSetsBySum 30 = .ok (.iload_n 3, 1) := by decide +kernel
theorem dX5_countSetsBySum_31 : decode cX5_countSetsBySum 31 = .ok (.iload_n 1, 1) := by decide +kernel
theorem dX5_countSetsBySum_32 : decode cX5_countSetsBySum 32 = .ok (.if_icmp .eq 53, 3) := by decide +kernel
theorem dX5_countSetsBySum_35 : decode cX5_countSetsBySum 35 = .ok (.aload_n 0, 1) := by decide +kernel
theorem dX5_countSetsBySum_36 : decode cX5_countSetsBySum 36 = .ok (.getfield 14, 3) := by decide +kernel
theorem dX5_countSetsBySum_39 : decode cX5_countSetsBySum 39 = .ok (.getfield 84, 3) := by decide +kernel
theorem dX5_countSetsBySum_42 : decode cX5_countSetsBySum 42 = .ok (.iload_n 3, 1) := by decide +kernel
theorem dX5_countSetsBySum_43 : decode cX5_countSetsBySum 43 = .ok (.iaload, 1) := by decide +kernel
theorem dX5_countSetsBySum_44 : decode cX5_countSetsBySum 44 = .ok (.istore 4, 2) := by decide +kernel
theorem dX5_countSetsBySum_46 : decode cX5_countSetsBySum 46 = .ok (.iload_n 2, 1) := by decide +kernel
theorem dX5_countSetsBySum_47 : decode cX5_countSetsBySum 47 = .ok (.istore 5, 2) := by decide +kernel
theorem dX5_countSetsBySum_49 : decode cX5_countSetsBySum 49 = .ok (.iload 5, 2) := by decide +kernel
theorem dX5_countSetsBySum_51 : decode cX5_countSetsBySum 51 = .ok (.ifCond .lt 29, 3) := by decide +kernel
theorem dX5_countSetsBySum_54 : decode cX5_countSetsBySum 54 = .ok (.aload_n 0, 1) := by decide +kernel
theorem dX5_countSetsBySum_55 : decode cX5_countSetsBySum 55 = .ok (.getfield 56, 3) := by decide +kernel
theorem dX5_countSetsBySum_58 : decode cX5_countSetsBySum 58 = .ok (.iload 5, 2) := by decide +kernel
theorem dX5_countSetsBySum_60 : decode cX5_countSetsBySum 60 = .ok (.iload 4, 2) := by decide +kernel
theorem dX5_countSetsBySum_62 : decode cX5_countSetsBySum 62 = .ok (.iadd, 1) := by decide +kernel
theorem dX5_countSetsBySum_63 : decode cX5_countSetsBySum 63 = .ok (.dup2, 1) := by decide +kernel
theorem dX5_countSetsBySum_64 : decode cX5_countSetsBySum 64 = .ok (.iaload, 1) := by decide +kernel
theorem dX5_countSetsBySum_65 : decode cX5_countSetsBySum 65 = .ok (.aload_n 0, 1) := by decide +kernel
theorem dX5_countSetsBySum_66 : decode cX5_countSetsBySum 66 = .ok (.getfield 56, 3) := by decide +kernel
theorem dX5_countSetsBySum_69 : decode cX5_countSetsBySum 69 = .ok (.iload 5, 2) := by decide +kernel
theorem dX5_countSetsBySum_71 : decode cX5_countSetsBySum 71 = .ok (.iaload, 1) := by decide +kernel
theorem dX5_countSetsBySum_72 : decode cX5_countSetsBySum 72 = .ok (.iadd, 1) := by decide +kernel
theorem dX5_countSetsBySum_73 : decode cX5_countSetsBySum 73 = .ok (.iastore, 1) := by decide +kernel
theorem dX5_countSetsBySum_74 : decode cX5_countSetsBySum 74 = .ok (.iinc 5 (-1), 3) := by decide +kernel
theorem dX5_countSetsBySum_77 : decode cX5_countSetsBySum 77 = .ok (.goto (-28), 3) := by decide +kernel
theorem dX5_countSetsBySum_80 : decode cX5_countSetsBySum 80 = .ok (.iload_n 2, 1) := by decide +kernel
theorem dX5_countSetsBySum_81 : decode cX5_countSetsBySum 81 = .ok (.iload 4, 2) := by decide +kernel
theorem dX5_countSetsBySum_83 : decode cX5_countSetsBySum 83 = .ok (.iadd, 1) := by decide +kernel
theorem dX5_countSetsBySum_84 : decode cX5_countSetsBySum 84 = .ok (.istore_n 2, 1) := by decide +kernel
theorem dX5_countSetsBySum_85 : decode cX5_countSetsBySum 85 = .ok (.iinc 3 1, 3) := by decide +kernel
theorem dX5_countSetsBySum_88 : decode cX5_countSetsBySum 88 = .ok (.goto (-69), 3) := by decide +kernel
theorem dX5_countSetsBySum_91 : decode cX5_countSetsBySum 91 = .ok (.iload_n 2, 1) := by decide +kernel
theorem dX5_countSetsBySum_92 : decode cX5_countSetsBySum 92 = .ok (.ireturn, 1) := by decide +kernel
set_option maxRecDepth 20000 in
theorem ggX5_countWinning_X0_sets : GoodIn wsX5_countWinning wsX0_sets := goodIn_r _ [6, 7, 31, 32, 33, 34, 35, 36, 37] (by decide +kernel) (by decide +kernel)
set_option maxRecDepth 20000 in
theorem gX5_countWinning_X0_sets : GoodIn wsX5_countWinning (wsV RX5 126 RX0 yX0_sets wsX0_sets) := goodIn_app (goodIn_of _ (by decide +kernel)) ggX5_countWinning_X0_sets
set_option maxRecDepth 20000 in
theorem ggX5_countWinning_X0_wins : GoodIn wsX5_countWinning wsX0_wins := goodIn_r _ [11, 12, 13, 14, 15, 5, 16, 7, 17, 18, 19, 20, 31, 32, 33, 34, 35, 36, 37] (by decide +kernel) (by decide +kernel)
set_option maxRecDepth 20000 in
theorem gX5_countWinning_X0_wins : GoodIn wsX5_countWinning (wsV RX5 363 RX0 yX0_wins wsX0_wins) := goodIn_app (goodIn_of _ (by decide +kernel)) ggX5_countWinning_X0_wins
theorem dX5_countWinning_0 : decode cX5_countWinning 0 = .ok (.iconst 0, 1) := by decide +kernel
theorem dX5_countWinning_1 : decode cX5_countWinning 1 = .ok (.istore_n 1, 1) := by decide +kernel
theorem dX5_countWinning_2 : decode cX5_countWinning 2 = .ok (.iconst 0, 1) := by decide +kernel
theorem dX5_countWinning_3 : decode cX5_countWinning 3 = .ok (.istore_n 2, 1) := by decide +kernel
theorem dX5_countWinning_4 : decode cX5_countWinning 4 = .ok (.iload_n 2, 1) := by decide +kernel
theorem dX5_countWinning_5 : decode cX5_countWinning 5 = .ok (.aload_n 0, 1) := by decide +kernel
theorem dX5_countWinning_6 : decode cX5_countWinning 6 = .ok (.getfield 14, 3) := by decide +kernel
theorem dX5_countWinning_9 : decode cX5_countWinning 9 = .ok (.invokevirtual 126, 3) := by decide +kernel
theorem dX5_countWinning_12 : decode cX5_countWinning 12 = .ok (.if_icmp .ge 23, 3) := by decide +kernel
theorem dX5_countWinning_15 : decode cX5_countWinning 15 = .ok (.aload_n 0, 1) := by decide +kernel
theorem dX5_countWinning_16 : decode cX5_countWinning 16 = .ok (.getfield 14, 3) := by decide +kernel
theorem dX5_countWinning_19 : decode cX5_countWinning 19 = .ok (.iload_n 2, 1) := by decide +kernel
theorem dX5_countWinning_20 : decode cX5_countWinning 20 = .ok (.invokevirtual 363, 3) := by decide +kernel
theorem dX5_countWinning_23 : decode cX5_countWinning 23 = .ok (.ifCond .eq 6, 3) := by decide +kernel
theorem dX5_countWinning_26 : decode cX5_countWinning 26 = .ok (.iinc 1 1, 3) := by decide +kernel
theorem dX5_countWinning_29 : decode cX5_countWinning 29 = .ok (.iinc 2 1, 3) := by decide +kernel
theorem dX5_countWinning_32 : decode cX5_countWinning 32 = .ok (.goto (-28), 3) := by decide +kernel
theorem dX5_countWinning_35 : decode cX5_countWinning 35 = .ok (.iload_n 1, 1) := by decide +kernel
theorem dX5_countWinning_36 : decode cX5_countWinning 36 = .ok (.ireturn, 1) := by decide +kernel
set_option maxRecDepth 20000 in
theorem ggX5_countBarelyWinning_X0_sets : GoodIn wsX5_countBarelyWinning wsX0_sets := goodIn_r _ [6, 7, 35, 36, 37, 38, 39, 40, 41] (by decide +kernel) (by decide +kernel)
set_option maxRecDepth 20000 in
theorem gX5_countBarelyWinning_X0_sets : GoodIn wsX5_countBarelyWinning (wsV RX5 126 RX0 yX0_sets wsX0_sets) := goodIn_app (goodIn_of _ (by decide +kernel)) ggX5_countBarelyWinning_X0_sets
set_option maxRecDepth 20000 in
theorem ggX5_countBarelyWinning_X0_winsBarely : GoodIn wsX5_countBarelyWinning wsX0_winsBarely := goodIn_r _ [11, 7, 12, 13, 14, 5, 15, 16, 17, 18, 19, 20, 21, 22, 23, 24, 35, 36, 37, 38, 39, 40, 41] (by decide +kernel) (by decide +kernel)
set_option maxRecDepth 20000 in
theorem gX5_countBarelyWinning_X0_winsBarely : GoodIn wsX5_countBarelyWinning (wsV RX5 250 RX0 yX0_winsBarely wsX0_winsBarely) := goodIn_app (goodIn_of _ (by decide +kernel)) ggX5_countBarelyWinning_X0_winsBarely
theorem dX5_countBarelyWinning_0 : decode cX5_countBarelyWinning 0 = .ok (.iconst 0, 1) := by decide +kernel
theorem dX5_countBarelyWinning_1 : decode cX5_countBarelyWinning 1 = .ok (.istore_n 1, 1) := by decide +kernel
theorem dX5_countBarelyWinning_2 : decode cX5_countBarelyWinning 2 = .ok (.iconst 0, 1) := by decide +kernel
theorem dX5_countBarelyWinning_3 : decode cX5_countBarelyWinning 3 = .ok (.istore_n 2, 1) := by decide +kernel
theorem dX5_countBarelyWinning_4 : decode cX5_countBarelyWinning 4 = .ok (.iload_n 2, 1) := by decide +kernel
theorem dX5_countBarelyWinning_5 : decode cX5_countBarelyWinning 5 = .ok (.aload_n 0, 1) := by decide +kernel
theorem dX5_countBarelyWinning_6 : decode cX5_countBarelyWinning 6 = .ok (.getfield 14, 3) := by decide +kernel
theorem dX5_countBarelyWinning_9 : decode cX5_countBarelyWinning 9 = .ok (.invokevirtual 126, 3) := by decide +kernel
theorem dX5_countBarelyWinning_12 : decode cX5_countBarelyWinning 12 = .ok (.if_icmp .ge 23, 3) := by decide +kernel
theorem dX5_countBarelyWinning_15 : decode cX5_countBarelyWinning 15 = .ok (.aload_n 0, 1) := by decide +kernel
theorem dX5_countBarelyWinning_16 : decode cX5_countBarelyWinning 16 = .ok (.getfield 14, 3) := by decide +kernel
theorem dX5_countBarelyWinning_19 : decode cX5_countBarelyWinning 19 = .ok (.iload_n 2, 1) := by decide +kernel
theorem dX5_countBarelyWinning_20 : decode cX5_countBarelyWinning 20 = .ok (.invokevirtual 250, 3) := by decide +kernel
theorem dX5_countBarelyWinning_23 : decode cX5_countBarelyWinning 23 = .ok (.ifCond .eq 6, 3) := by decide +kernel
theorem dX5_countBarelyWinning_26 : decode cX5_countBarelyWinning 26 = .ok (.iinc 1 1, 3) := by decide +kernel
theorem dX5_countBarelyWinning_29 : decode cX5_countBarelyWinning 29 = .ok (.iinc 2 1, 3) := by decide +kernel
theorem dX5_countBarelyWinning_32 : decode cX5_countBarelyWinning 32 = .ok (.goto (-28), 3) := by decide +kernel
theorem dX5_countBarelyWinning_35 : decode cX5_countBarelyWinning 35 = .ok (.iload_n 1, 1) := by decide +kernel
theorem dX5_countBarelyWinning_36 : decode cX5_countBarelyWinning 36 = .ok (.ireturn, 1) := by decide +kernel
set_option maxRecDepth 20000 in
theorem ggX5_smallestWinning_X0_sets : GoodIn wsX5_smallestWinning wsX0_sets := goodIn_r _ [6, 7, 38, 39, 40, 41, 42, 43, 44] (by decide +kernel) (by decide +kernel)
set_option maxRecDepth 20000 in
theorem gX5_smallestWinning_X0_sets : GoodIn wsX5_smallestWinning (wsV RX5 126 RX0 yX0_sets wsX0_sets) := goodIn_app (goodIn_of _ (by decide +kernel)) ggX5_smallestWinning_X0_sets
set_option maxRecDepth 20000 in
theorem ggX5_smallestWinning_J6_bitCount_0f7a4 : GoodIn wsX5_smallestWinning wsJ6_bitCount_0f7a4 := goodIn_r _ [11, 12, 13, 14] (by decide +kernel) (by decide +kernel)
set_option maxRecDepth 20000 in
theorem gX5_smallestWinning_J6_bitCount_0f7a4 : GoodIn wsX5_smallestWinning (va_wsS RX5 153 yJ6_bitCount_0f7a4 wsJ6_bitCount_0f7a4) := goodIn_app (goodIn_of _ (by decide +kernel)) ggX5_smallestWinning_J6_bitCount_0f7a4
set_option maxRecDepth 20000 in
theorem ggX5_smallestWinning_X0_wins : GoodIn wsX5_smallestWinning wsX0_wins := goodIn_r _ [18, 19, 20, 21, 22, 5, 23, 7, 24, 25, 26, 27, 38, 39, 40, 41, 42, 43, 44] (by decide +kernel) (by decide +kernel)
set_option maxRecDepth 20000 in
theorem gX5_smallestWinning_X0_wins : GoodIn wsX5_smallestWinning (wsV RX5 363 RX0 yX0_wins wsX0_wins) := goodIn_app (goodIn_of _ (by decide +kernel)) ggX5_smallestWinning_X0_wins
theorem dX5_smallestWinning_0 : decode cX5_smallestWinning 0 = .ok (.bipush (-5), 2) := by decide +kernel
theorem dX5_smallestWinning_2 : decode cX5_smallestWinning 2 = .ok (.istore_n 1, 1) := by decide +kernel
theorem dX5_smallestWinning_3 : decode cX5_smallestWinning 3 = .ok (.bipush 10, 2) := by decide +kernel
theorem dX5_smallestWinning_5 : decode cX5_smallestWinning 5 = .ok (.istore_n 2, 1) := by decide +kernel
theorem dX5_smallestWinning_6 : decode cX5_smallestWinning 6 = .ok (.iconst 0, 1) := by decide +kernel
theorem dX5_smallestWinning_7 : decode cX5_smallestWinning 7 = .ok (.istore_n 3, 1) := by decide +kernel
theorem dX5_smallestWinning_8 : decode cX5_smallestWinning 8 = .ok (.iload_n 3, 1) := by decide +kernel
theorem dX5_smallestWinning_9 : decode cX5_smallestWinning 9 = .ok (.aload_n 0, 1) := by decide +kernel
theorem dX5_smallestWinning_10 : decode cX5_smallestWinning 10 = .ok (.getfield 14, 3) := by decide +kernel
theorem dX5_smallestWinning_13 : decode cX5_smallestWinning 13 = .ok (.invokevirtual 126, 3) := by decide +kernel
theorem dX5_smallestWinning_16 : decode cX5_smallestWinning 16 = .ok (.if_icmp .ge 35, 3) := by decide +kernel
theorem dX5_smallestWinning_19 : decode cX5_smallestWinning 19 = .ok (.iload_n 3, 1) := by decide +kernel
theorem dX5_smallestWinning_20 : decode cX5_smallestWinning 20 = .ok (.invokestatic 153, 3) := by decide +kernel
theorem dX5_smallestWinning_23 : decode cX5_smallestWinning 23 = .ok (.iload_n 2, 1) := by decide +kernel
theorem dX5_smallestWinning_24 : decode cX5_smallestWinning 24 = .ok (.if_icmp .ge 21, 3) := by decide +kernel
theorem dX5_smallestWinning_27 : decode cX5_smallestWinning 27 = .ok (.aload_n 0, 1) := by decide +kernel
theorem dX5_smallestWinning_28 : decode cX5_smallestWinning 28 = .ok (.getfield 14, 3) := by decide +kernel
theorem dX5_smallestWinning_31 : decode cX5_smallestWinning 31 = .ok (.iload_n 3, 1) := by decide +kernel
theorem dX5_smallestWinning_32 : decode cX5_smallestWinning 32 = .ok (.invokevirtual 363, 3) := by decide +kernel
theorem dX5_smallestWinning_35 : decode cX5_smallestWinning 35 = .ok (.ifCond .eq 10, 3) := by decide +kernel
theorem dX5_smallestWinning_38 : decode cX5_smallestWinning 38 = .ok (.iload_n 3, 1) := by decide +kernel
theorem dX5_smallestWinning_39 : decode cX5_smallestWinning 39 = .ok (.istore_n 1, 1) := by decide +kernel
theorem dX5_smallestWinning_40 : decode cX5_smallestWinning 40 = .ok (.iload_n 3, 1) := by decide +kernel
theorem dX5_smallestWinning_41 : decode cX5_smallestWinning 41 = .ok (.invokestatic 153, 3) := by decide +kernel
theorem dX5_smallestWinning_44 : decode cX5_smallestWinning 44 = .ok (.istore_n 2, 1) := by decide +kernel
theorem dX5_smallestWinning_45 : decode cX5_smallestWinning 45 = .ok (.iinc 3 1, 3) := by decide +kernel
theorem dX5_smallestWinning_48 : decode cX5_smallestWinning 48 = .ok (.goto (-40), 3) := by decide +kernel
theorem dX5_smallestWinning_51 : decode cX5_smallestWinning 51 = .ok (.iload_n 1, 1) := by decide +kernel
theorem dX5_smallestWinning_52 : decode cX5_smallestWinning 52 = .ok (.ireturn, 1) := by decide +kernel
set_option maxRecDepth 20000 in
theorem ggX5_isOfKind_X5_addsAlways : GoodIn wsX5_isOfKind wsX5_addsAlways := goodIn_r _ [5, 6, 7, 8, 9, 10, 11, 12, 13, 14, 15, 16, 4, 17, 18, 19, 20, 21, 22, 23, 24, 25, 26, 27, 28, 29, 30, 31, 36, 37, 38, 39, 40, 41, 42, 43, 44, 45, 46, 47, 48, 49, 50, 51, 52, 53] (by decide +kernel) (by decide +kernel)
set_option maxRecDepth 20000 in
theorem gX5_isOfKind_X5_addsAlways : GoodIn wsX5_isOfKind (wsV RX5 366 RX5 yX5_addsAlways wsX5_addsAlways) := goodIn_app (goodIn_of _ (by decide +kernel)) ggX5_isOfKind_X5_addsAlways
set_option maxRecDepth 20000 in
theorem ggX5_isOfKind_X5_hasVeto : GoodIn wsX5_isOfKind wsX5_hasVeto := goodIn_r _ [35, 6, 9, 10, 11, 12, 13, 14, 15, 16, 4, 17, 36, 37, 38, 39, 40, 41, 42, 43, 44, 45, 47, 48, 49, 50, 51, 52, 53] (by decide +kernel) (by decide +kernel)
set_option maxRecDepth 20000 in
theorem gX5_isOfKind_X5_hasVeto : GoodIn wsX5_isOfKind (wsV RX5 370 RX5 yX5_hasVeto wsX5_hasVeto) := goodIn_app (goodIn_of _ (by decide +kernel)) ggX5_isOfKind_X5_hasVeto
theorem dX5_isOfKind_0 : decode cX5_isOfKind 0 = .ok (.iload_n 3, 1) := by decide +kernel
theorem dX5_isOfKind_1 : decode cX5_isOfKind 1 = .ok (.lookupswitch 47 #[(0, 27), (1, 35)], 27) := by decide +kernel
theorem dX5_isOfKind_28 : decode cX5_isOfKind 28 = .ok (.aload_n 0, 1) := by decide +kernel
theorem dX5_isOfKind_29 : decode cX5_isOfKind 29 = .ok (.aload_n 1, 1) := by decide +kernel
theorem dX5_isOfKind_30 : decode cX5_isOfKind 30 = .ok (.iload_n 2, 1) := by decide +kernel
theorem dX5_isOfKind_31 : decode cX5_isOfKind 31 = .ok (.lconst 0, 1) := by decide +kernel
theorem dX5_isOfKind_32 : decode cX5_isOfKind 32 = .ok (.invokevirtual 366, 3) := by decide +kernel
theorem dX5_isOfKind_35 : decode cX5_isOfKind 35 = .ok (.ireturn, 1) := by decide +kernel
theorem dX5_isOfKind_36 : decode cX5_isOfKind 36 = .ok (.aload_n 0, 1) := by decide +kernel
theorem dX5_isOfKind_37 : decode cX5_isOfKind 37 = .ok (.aload_n 1, 1) := by decide +kernel
theorem dX5_isOfKind_38 : decode cX5_isOfKind 38 = .ok (.iload_n 2, 1) := by decide +kernel
theorem dX5_isOfKind_39 : decode cX5_isOfKind 39 = .ok (.aload_n 1, 1) := by decide +kernel
theorem dX5_isOfKind_40 : decode cX5_isOfKind 40 = .ok (.iconst 1, 1) := by decide +kernel
theorem dX5_isOfKind_41 : decode cX5_isOfKind 41 = .ok (.iload_n 2, 1) := by decide +kernel
theorem dX5_isOfKind_42 : decode cX5_isOfKind 42 = .ok (.ishl, 1) := by decide +kernel
theorem dX5_isOfKind_43 : decode cX5_isOfKind 43 = .ok (.laload, 1) := by decide +kernel
theorem dX5_isOfKind_44 : decode cX5_isOfKind 44 = .ok (.invokevirtual 366, 3) := by decide +kernel
theorem dX5_isOfKind_47 : decode cX5_isOfKind 47 = .ok (.ireturn, 1) := by decide +kernel
theorem dX5_isOfKind_48 : decode cX5_isOfKind 48 = .ok (.aload_n 0, 1) := by decide +kernel
theorem dX5_isOfKind_49 : decode cX5_isOfKind 49 = .ok (.aload_n 1, 1) := by decide +kernel
theorem dX5_isOfKind_50 : decode cX5_isOfKind 50 = .ok (.iload_n 2, 1) := by decide +kernel
theorem dX5_isOfKind_51 : decode cX5_isOfKind 51 = .ok (.invokevirtual 370, 3) := by decide +kernel
theorem dX5_isOfKind_54 : decode cX5_isOfKind 54 = .ok (.ireturn, 1) := by decide +kernel
set_option maxRecDepth 20000 in
theorem ggX5_addsAlways_X0_sets : GoodIn wsX5_addsAlways wsX0_sets := goodIn_r _ [8, 9, 39, 40, 41, 42, 43, 44, 45] (by decide +kernel) (by decide +kernel)
set_option maxRecDepth 20000 in
theorem gX5_addsAlways_X0_sets : GoodIn wsX5_addsAlways (wsV RX5 126 RX0 yX0_sets wsX0_sets) := goodIn_app (goodIn_of _ (by decide +kernel)) ggX5_addsAlways_X0_sets
set_option maxRecDepth 20000 in
theorem ggX5_addsAlways_X5_has : GoodIn wsX5_addsAlways wsX5_has := goodIn_r _ [13] (by decide +kernel) (by decide +kernel)
set_option maxRecDepth 20000 in
theorem gX5_addsAlways_X5_has : GoodIn wsX5_addsAlways (va_wsS RX5 192 yX5_has wsX5_has) := goodIn_app (goodIn_of _ (by decide +kernel)) ggX5_addsAlways_X5_has
set_option maxRecDepth 20000 in
theorem ggX5_addsAlways_X1_begin : GoodIn wsX5_addsAlways wsX1_begin := goodIn_r _ [18, 19, 38] (by decide +kernel) (by decide +kernel)
set_option maxRecDepth 20000 in
theorem gX5_addsAlways_X1_begin : GoodIn wsX5_addsAlways (wsV RX5 163 RX1 yX1_begin wsX1_begin) := goodIn_app (goodIn_of _ (by decide +kernel)) ggX5_addsAlways_X1_begin
set_option maxRecDepth 20000 in
theorem ggX5_addsAlways_X5_addedBy : GoodIn wsX5_addsAlways wsX5_addedBy := goodIn_r _ [23, 2, 24, 25, 26, 17, 27, 19, 28, 29, 30, 31, 32, 33, 34, 35, 36, 37, 38] (by decide +kernel) (by decide +kernel)
set_option maxRecDepth 20000 in
theorem gX5_addsAlways_X5_addedBy : GoodIn wsX5_addsAlways (wsV RX5 224 RX5 yX5_addedBy wsX5_addedBy) := goodIn_app (goodIn_of _ (by decide +kernel)) ggX5_addsAlways_X5_addedBy
theorem dX5_addsAlways_0 : decode cX5_addsAlways 0 = .ok (.iconst 0, 1) := by decide +kernel
theorem dX5_addsAlways_1 : decode cX5_addsAlways 1 = .ok (.istore 5, 2) := by decide +kernel
theorem dX5_addsAlways_3 : decode cX5_addsAlways 3 = .ok (.iload 5, 2) := by decide +kernel
theorem dX5_addsAlways_5 : decode cX5_addsAlways 5 = .ok (.aload_n 0, 1) := by decide +kernel
theorem dX5_addsAlways_6 : decode cX5_addsAlways 6 = .ok (.getfield 14, 3) := by decide +kernel
theorem dX5_addsAlways_9 : decode cX5_addsAlways 9 = .ok (.invokevirtual 126, 3) := by decide +kernel
theorem dX5_addsAlways_12 : decode cX5_addsAlways 12 = .ok (.if_icmp .ge 54, 3) := by decide +kernel
theorem dX5_addsAlways_15 : decode cX5_addsAlways 15 = .ok (.iload 5, 2) := by decide +kernel
theorem dX5_addsAlways_17 : decode cX5_addsAlways 17 = .ok (.iload_n 2, 1) := by decide +kernel
theorem dX5_addsAlways_18 : decode cX5_addsAlways 18 = .ok (.invokestatic 192, 3) := by decide +kernel
theorem dX5_addsAlways_21 : decode cX5_addsAlways 21 = .ok (.ifCond .ne 39, 3) := by decide +kernel
theorem dX5_addsAlways_24 : decode cX5_addsAlways 24 = .ok (.aload_n 0, 1) := by decide +kernel
theorem dX5_addsAlways_25 : decode cX5_addsAlways 25 = .ok (.getfield 45, 3) := by decide +kernel
theorem dX5_addsAlways_28 : decode cX5_addsAlways 28 = .ok (.invokevirtual 163, 3) := by decide +kernel
theorem dX5_addsAlways_31 : decode cX5_addsAlways 31 = .ok (.aload_n 0, 1) := by decide +kernel
theorem dX5_addsAlways_32 : decode cX5_addsAlways 32 = .ok (.aload_n 1, 1) := by decide +kernel
theorem dX5_addsAlways_33 : decode cX5_addsAlways 33 = .ok (.iload_n 2, 1) := by decide +kernel
theorem dX5_addsAlways_34 : decode cX5_addsAlways 34 = .ok (.iload 5, 2) := by decide +kernel
theorem dX5_addsAlways_36 : decode cX5_addsAlways 36 = .ok (.invokevirtual 224, 3) := by decide +kernel
theorem dX5_addsAlways_39 : decode cX5_addsAlways 39 = .ok (.lstore 6, 2) := by decide +kernel
theorem dX5_addsAlways_41 : decode cX5_addsAlways 41 = .ok (.aload_n 0, 1) := by decide +kernel
theorem dX5_addsAlways_42 : decode cX5_addsAlways 42 = .ok (.getfield 45, 3) := by decide +kernel
theorem dX5_addsAlways_45 : decode cX5_addsAlways 45 = .ok (.getfield 185, 3) := by decide +kernel
theorem dX5_addsAlways_48 : decode cX5_addsAlways 48 = .ok (.ifCond .ne 10, 3) := by decide +kernel
theorem dX5_addsAlways_51 : decode cX5_addsAlways 51 = .ok (.lload 6, 2) := by decide +kernel
theorem dX5_addsAlways_53 : decode cX5_addsAlways 53 = .ok (.lload_n 3, 1) := by decide +kernel
theorem dX5_addsAlways_54 : decode cX5_addsAlways 54 = .ok (.lcmp, 1) := by decide +kernel
theorem dX5_addsAlways_55 : decode cX5_addsAlways 55 = .ok (.ifCond .eq 5, 3) := by decide +kernel
theorem dX5_addsAlways_58 : decode cX5_addsAlways 58 = .ok (.iconst 0, 1) := by decide +kernel
theorem dX5_addsAlways_59 : decode cX5_addsAlways 59 = .ok (.ireturn, 1) := by decide +kernel
theorem dX5_addsAlways_60 : decode cX5_addsAlways 60 = .ok (.iinc 5 1, 3) := by decide +kernel
theorem dX5_addsAlways_63 : decode cX5_addsAlways 63 = .ok (.goto (-60), 3) := by decide +kernel
theorem dX5_addsAlways_66 : decode cX5_addsAlways 66 = .ok (.iconst 1, 1) := by decide +kernel
theorem dX5_addsAlways_67 : decode cX5_addsAlways 67 = .ok (.ireturn, 1) := by decide +kernel
set_option maxRecDepth 20000 in
theorem ggX5_hasVeto_X0_sets : GoodIn wsX5_hasVeto wsX0_sets := goodIn_r _ [6, 7, 22, 23, 24, 25, 26, 27, 28] (by decide +kernel) (by decide +kernel)
set_option maxRecDepth 20000 in
theorem gX5_hasVeto_X0_sets : GoodIn wsX5_hasVeto (wsV RX5 126 RX0 yX0_sets wsX0_sets) := goodIn_app (goodIn_of _ (by decide +kernel)) ggX5_hasVeto_X0_sets
set_option maxRecDepth 20000 in
theorem ggX5_hasVeto_X5_has : GoodIn wsX5_hasVeto wsX5_has := goodIn_r _ [11] (by decide +kernel) (by decide +kernel)
set_option maxRecDepth 20000 in
theorem gX5_hasVeto_X5_has : GoodIn wsX5_hasVeto (va_wsS RX5 192 yX5_has wsX5_has) := goodIn_app (goodIn_of _ (by decide +kernel)) ggX5_hasVeto_X5_has
theorem dX5_hasVeto_0 : decode cX5_hasVeto 0 = .ok (.iconst 0, 1) := by decide +kernel
theorem dX5_hasVeto_1 : decode cX5_hasVeto 1 = .ok (.istore_n 3, 1) := by decide +kernel
theorem dX5_hasVeto_2 : decode cX5_hasVeto 2 = .ok (.iload_n 3, 1) := by decide +kernel
theorem dX5_hasVeto_3 : decode cX5_hasVeto 3 = .ok (.aload_n 0, 1) := by decide +kernel
theorem dX5_hasVeto_4 : decode cX5_hasVeto 4 = .ok (.getfield 14, 3) := by decide +kernel
theorem dX5_hasVeto_7 : decode cX5_hasVeto 7 = .ok (.invokevirtual 126, 3) := by decide +kernel
theorem dX5_hasVeto_10 : decode cX5_hasVeto 10 = .ok (.if_icmp .ge 27, 3) := by decide +kernel
theorem dX5_hasVeto_13 : decode cX5_hasVeto 13 = .ok (.iload_n 3, 1) := by decide +kernel
theorem dX5_hasVeto_14 : decode cX5_hasVeto 14 = .ok (.iload_n 2, 1) := by decide +kernel
theorem dX5_hasVeto_15 : decode cX5_hasVeto 15 = .ok (.invokestatic 192, 3) := by decide +kernel
theorem dX5_hasVeto_18 : decode cX5_hasVeto 18 = .ok (.ifCond .ne 13, 3) := by decide +kernel
theorem dX5_hasVeto_21 : decode cX5_hasVeto 21 = .ok (.aload_n 1, 1) := by decide +kernel
theorem dX5_hasVeto_22 : decode cX5_hasVeto 22 = .ok (.iload_n 3, 1) := by decide +kernel
theorem dX5_hasVeto_23 : decode cX5_hasVeto 23 = .ok (.laload, 1) := by decide +kernel
theorem dX5_hasVeto_24 : decode cX5_hasVeto 24 = .ok (.lconst 0, 1) := by decide +kernel
theorem dX5_hasVeto_25 : decode cX5_hasVeto 25 = .ok (.lcmp, 1) := by decide +kernel
theorem dX5_hasVeto_26 : decode cX5_hasVeto 26 = .ok (.ifCond .eq 5, 3) := by decide +kernel
theorem dX5_hasVeto_29 : decode cX5_hasVeto 29 = .ok (.iconst 0, 1) := by decide +kernel
theorem dX5_hasVeto_30 : decode cX5_hasVeto 30 = .ok (.ireturn, 1) := by decide +kernel
theorem dX5_hasVeto_31 : decode cX5_hasVeto 31 = .ok (.iinc 3 1, 3) := by decide +kernel
theorem dX5_hasVeto_34 : decode cX5_hasVeto 34 = .ok (.goto (-32), 3) := by decide +kernel
theorem dX5_hasVeto_37 : decode cX5_hasVeto 37 = .ok (.iconst 1, 1) := by decide +kernel
theorem dX5_hasVeto_38 : decode cX5_hasVeto 38 = .ok (.ireturn, 1) := by decide +kernel
set_option maxRecDepth 20000 in
theorem ggX5_areAlike_X0_sets : GoodIn wsX5_areAlike wsX0_sets := goodIn_r _ [6, 7, 22, 23, 24, 25, 26, 27, 28] (by decide +kernel) (by decide +kernel)
set_option maxRecDepth 20000 in
theorem gX5_areAlike_X0_sets : GoodIn wsX5_areAlike (wsV RX5 126 RX0 yX0_sets wsX0_sets) := goodIn_app (goodIn_of _ (by decide +kernel)) ggX5_areAlike_X0_sets
set_option maxRecDepth 20000 in
theorem ggX5_areAlike_X5_has : GoodIn wsX5_areAlike wsX5_has := goodIn_r _ [11] (by decide +kernel) (by decide +kernel)
set_option maxRecDepth 20000 in
theorem gX5_areAlike_X5_has : GoodIn wsX5_areAlike (va_wsS RX5 192 yX5_has wsX5_has) := goodIn_app (goodIn_of _ (by decide +kernel)) ggX5_areAlike_X5_has
theorem dX5_areAlike_0 : decode cX5_areAlike 0 = .ok (.iconst 0, 1) := by decide +kernel
theorem dX5_areAlike_1 : decode cX5_areAlike 1 = .ok (.istore 4, 2) := by decide +kernel
theorem dX5_areAlike_3 : decode cX5_areAlike 3 = .ok (.iload 4, 2) := by decide +kernel
theorem dX5_areAlike_5 : decode cX5_areAlike 5 = .ok (.aload_n 0, 1) := by decide +kernel
theorem dX5_areAlike_6 : decode cX5_areAlike 6 = .ok (.getfield 14, 3) := by decide +kernel
theorem dX5_areAlike_9 : decode cX5_areAlike 9 = .ok (.invokevirtual 126, 3) := by decide +kernel
theorem dX5_areAlike_12 : decode cX5_areAlike 12 = .ok (.if_icmp .ge 49, 3) := by decide +kernel
theorem dX5_areAlike_15 : decode cX5_areAlike 15 = .ok (.iload 4, 2) := by decide +kernel
theorem dX5_areAlike_17 : decode cX5_areAlike 17 = .ok (.iload_n 2, 1) := by decide +kernel
theorem dX5_areAlike_18 : decode cX5_areAlike 18 = .ok (.invokestatic 192, 3) := by decide +kernel
theorem dX5_areAlike_21 : decode cX5_areAlike 21 = .ok (.ifCond .ne 34, 3) := by decide +kernel
theorem dX5_areAlike_24 : decode cX5_areAlike 24 = .ok (.iload 4, 2) := by decide +kernel
theorem dX5_areAlike_26 : decode cX5_areAlike 26 = .ok (.iload_n 3, 1) := by decide +kernel
theorem dX5_areAlike_27 : decode cX5_areAlike 27 = .ok (.invokestatic 192, 3) := by decide +kernel
theorem dX5_areAlike_30 : decode cX5_areAlike 30 = .ok (.ifCond .ne 25, 3) := by decide +kernel
theorem dX5_areAlike_33 : decode cX5_areAlike 33 = .ok (.aload_n 1, 1) := by decide +kernel
theorem dX5_areAlike_34 : decode cX5_areAlike 34 = .ok (.iload 4, 2) := by decide +kernel
theorem dX5_areAlike_36 : decode cX5_areAlike 36 = .ok (.iconst 1, 1) := by decide +kernel
theorem dX5_areAlike_37 : decode cX5_areAlike 37 = .ok (.iload_n 2, 1) := by decide +kernel
theorem dX5_areAlike_38 : decode cX5_areAlike 38 = .ok (.ishl, 1) := by decide +kernel
theorem dX5_areAlike_39 : decode cX5_areAlike 39 = .ok (.ior, 1) := by decide +kernel
theorem dX5_areAlike_40 : decode cX5_areAlike 40 = .ok (.laload, 1) := by decide +kernel
theorem dX5_areAlike_41 : decode cX5_areAlike 41 = .ok (.aload_n 1, 1) := by decide +kernel
theorem dX5_areAlike_42 : decode cX5_areAlike 42 = .ok (.iload 4, 2) := by decide +kernel
theorem dX5_areAlike_44 : decode cX5_areAlike 44 = .ok (.iconst 1, 1) := by decide +kernel
theorem dX5_areAlike_45 : decode cX5_areAlike 45 = .ok (.iload_n 3, 1) := by decide +kernel
theorem dX5_areAlike_46 : decode cX5_areAlike 46 = .ok (.ishl, 1) := by decide +kernel
theorem dX5_areAlike_47 : decode cX5_areAlike 47 = .ok (.ior, 1) := by decide +kernel
theorem dX5_areAlike_48 : decode cX5_areAlike 48 = .ok (.laload, 1) := by decide +kernel
theorem dX5_areAlike_49 : decode cX5_areAlike 49 = .ok (.lcmp, 1) := by decide +kernel
theorem dX5_areAlike_50 : decode cX5_areAlike 50 = .ok (.ifCond .eq 5, 3) := by decide +kernel
theorem dX5_areAlike_53 : decode cX5_areAlike 53 = .ok (.iconst 0, 1) := by decide +kernel
theorem dX5_areAlike_54 : decode cX5_areAlike 54 = .ok (.ireturn, 1) := by decide +kernel
theorem dX5_areAlike_55 : decode cX5_areAlike 55 = .ok (.iinc 4 1, 3) := by decide +kernel
theorem dX5_areAlike_58 : decode cX5_areAlike 58 = .ok (.goto (-55), 3) := by decide +kernel
theorem dX5_areAlike_61 : decode cX5_areAlike 61 = .ok (.iconst 1, 1) := by decide +kernel
theorem dX5_areAlike_62 : decode cX5_areAlike 62 = .ok (.ireturn, 1) := by decide +kernel
set_option maxRecDepth 20000 in
theorem ggX5_isMonotone_X0_sets : GoodIn wsX5_isMonotone wsX0_sets := goodIn_r _ [7, 8, 23, 24, 25, 26, 27, 28, 29] (by decide +kernel) (by decide +kernel)
set_option maxRecDepth 20000 in
theorem gX5_isMonotone_X0_sets : GoodIn wsX5_isMonotone (wsV RX5 126 RX0 yX0_sets wsX0_sets) := goodIn_app (goodIn_of _ (by decide +kernel)) ggX5_isMonotone_X0_sets
set_option maxRecDepth 20000 in
theorem ggX5_isMonotone_X5_has : GoodIn wsX5_isMonotone wsX5_has := goodIn_r _ [12] (by decide +kernel) (by decide +kernel)
set_option maxRecDepth 20000 in
theorem gX5_isMonotone_X5_has : GoodIn wsX5_isMonotone (va_wsS RX5 192 yX5_has wsX5_has) := goodIn_app (goodIn_of _ (by decide +kernel)) ggX5_isMonotone_X5_has
theorem dX5_isMonotone_0 : decode cX5_isMonotone 0 = .ok (.iconst 0, 1) := by decide +kernel
theorem dX5_isMonotone_1 : decode cX5_isMonotone 1 = .ok (.istore_n 2, 1) := by decide +kernel
theorem dX5_isMonotone_2 : decode cX5_isMonotone 2 = .ok (.iload_n 2, 1) := by decide +kernel
theorem dX5_isMonotone_3 : decode cX5_isMonotone 3 = .ok (.aload_n 0, 1) := by decide +kernel
theorem dX5_isMonotone_4 : decode cX5_isMonotone 4 = .ok (.getfield 14, 3) := by decide +kernel
theorem dX5_isMonotone_7 : decode cX5_isMonotone 7 = .ok (.invokevirtual 126, 3) := by decide +kernel
theorem dX5_isMonotone_10 : decode cX5_isMonotone 10 = .ok (.if_icmp .ge 54, 3) := by decide +kernel
theorem dX5_isMonotone_13 : decode cX5_isMonotone 13 = .ok (.iconst 0, 1) := by decide +kernel
theorem dX5_isMonotone_14 : decode cX5_isMonotone 14 = .ok (.istore_n 3, 1) := by decide +kernel
theorem dX5_isMonotone_15 : decode cX5_isMonotone 15 = .ok (.iload_n 3, 1) := by decide +kernel
theorem dX5_isMonotone_16 : decode cX5_isMonotone 16 = .ok (.aload_n 0, 1) := by decide +kernel
theorem dX5_isMonotone_17 : decode cX5_isMonotone 17 = .ok (.getfield 14, 3) := by decide +kernel
theorem dX5_isMonotone_20 : decode cX5_isMonotone 20 = .ok (.getfield 136, 3) := by decide +kernel
theorem dX5_isMonotone_23 : decode cX5_isMonotone 23 = .ok (.if_icmp .ge 35, 3) := by decide +kernel
theorem dX5_isMonotone_26 : decode cX5_isMonotone 26 = .ok (.iload_n 2, 1) := by decide +kernel
theorem dX5_isMonotone_27 : decode cX5_isMonotone 27 = .ok (.iload_n 3, 1) := by decide +kernel
theorem dX5_isMonotone_28 : decode cX5_isMonotone 28 = .ok (.invokestatic 192, 3) := by decide +kernel
theorem dX5_isMonotone_31 : decode cX5_isMonotone 31 = .ok (.ifCond .eq 21, 3) := by decide +kernel
theorem dX5_isMonotone_34 : decode cX5_isMonotone 34 = .ok (.aload_n 1, 1) := by decide +kernel
theorem dX5_isMonotone_35 : decode cX5_isMonotone 35 = .ok (.iload_n 2, 1) := by decide +kernel
theorem dX5_isMonotone_36 : decode cX5_isMonotone 36 = .ok (.laload, 1) := by decide +kernel
theorem dX5_isMonotone_37 : decode cX5_isMonotone 37 = .ok (.aload_n 1, 1) := by decide +kernel
theorem dX5_isMonotone_38 : decode cX5_isMonotone 38 = .ok (.iload_n 2, 1) := by decide +kernel
theorem dX5_isMonotone_39 : decode cX5_isMonotone 39 = .ok (.iconst 1, 1) := by decide +kernel
theorem dX5_isMonotone_40 : decode cX5_isMonotone 40 = .ok (.iload_n 3, 1) := by decide +kernel
theorem dX5_isMonotone_41 : decode cX5_isMonotone 41 = .ok (.ishl, 1) := by decide +kernel
theorem dX5_isMonotone_42 : decode cX5_isMonotone 42 = .ok (.iconst (-1), 1) := by decide +kernel
theorem dX5_isMonotone_43 : decode cX5_isMonotone 43 = .ok (.ixor, 1) := by decide +kernel
theorem dX5_isMonotone_44 : decode cX5_isMonotone 44 = .ok (.iand, 1) := by decide +kernel
theorem dX5_isMonotone_45 : decode cX5_isMonotone 45 = .ok (.laload, 1) := by decide +kernel
theorem dX5_isMonotone_46 : decode cX5_isMonotone 46 = .ok (.lcmp, 1) := by decide +kernel
theorem dX5_isMonotone_47 : decode cX5_isMonotone 47 = .ok (.ifCond .ge 5, 3) := by decide +kernel
theorem dX5_isMonotone_50 : decode cX5_isMonotone 50 = .ok (.iconst 0, 1) := by decide +kernel
theorem dX5_isMonotone_51 : decode cX5_isMonotone 51 = .ok (.ireturn, 1) := by decide +kernel
theorem dX5_isMonotone_52 : decode cX5_isMonotone 52 = .ok (.iinc 3 1, 3) := by decide +kernel
theorem dX5_isMonotone_55 : decode cX5_isMonotone 55 = .ok (.goto (-40), 3) := by decide +kernel
theorem dX5_isMonotone_58 : decode cX5_isMonotone 58 = .ok (.iinc 2 1, 3) := by decide +kernel
theorem dX5_isMonotone_61 : decode cX5_isMonotone 61 = .ok (.goto (-59), 3) := by decide +kernel
theorem dX5_isMonotone_64 : decode cX5_isMonotone 64 = .ok (.iconst 1, 1) := by decide +kernel
theorem dX5_isMonotone_65 : decode cX5_isMonotone 65 = .ok (.ireturn, 1) := by decide +kernel
set_option maxRecDepth 20000 in
theorem ggX5_gainsTogether_X1_begin : GoodIn wsX5_gainsTogether wsX1_begin := goodIn_r _ [8, 9, 30] (by decide +kernel) (by decide +kernel)
set_option maxRecDepth 20000 in
theorem gX5_gainsTogether_X1_begin : GoodIn wsX5_gainsTogether (wsV RX5 163 RX1 yX1_begin wsX1_begin) := goodIn_app (goodIn_of _ (by decide +kernel)) ggX5_gainsTogether_X1_begin
set_option maxRecDepth 20000 in
theorem ggX5_gainsTogether_X0_sets : GoodIn wsX5_gainsTogether wsX0_sets := goodIn_r _ [14, 15, 31, 32, 33, 34, 35, 36, 37] (by decide +kernel) (by decide +kernel)
set_option maxRecDepth 20000 in
theorem gX5_gainsTogether_X0_sets : GoodIn wsX5_gainsTogether (wsV RX5 126 RX0 yX0_sets wsX0_sets) := goodIn_app (goodIn_of _ (by decide +kernel)) ggX5_gainsTogether_X0_sets
set_option maxRecDepth 20000 in
theorem ggX5_gainsTogether_X1_plus : GoodIn wsX5_gainsTogether wsX1_plus := goodIn_r _ [19, 9, 30] (by decide +kernel) (by decide +kernel)
set_option maxRecDepth 20000 in
theorem gX5_gainsTogether_X1_plus : GoodIn wsX5_gainsTogether (wsV RX5 165 RX1 yX1_plus wsX1_plus) := goodIn_app (goodIn_of _ (by decide +kernel)) ggX5_gainsTogether_X1_plus
theorem dX5_gainsTogether_0 : decode cX5_gainsTogether 0 = .ok (.aload_n 0, 1) := by decide +kernel
theorem dX5_gainsTogether_1 : decode cX5_gainsTogether 1 = .ok (.getfield 45, 3) := by decide +kernel
theorem dX5_gainsTogether_4 : decode cX5_gainsTogether 4 = .ok (.invokevirtual 163, 3) := by decide +kernel
theorem dX5_gainsTogether_7 : decode cX5_gainsTogether 7 = .ok (.iconst 0, 1) := by decide +kernel
theorem dX5_gainsTogether_8 : decode cX5_gainsTogether 8 = .ok (.istore_n 3, 1) := by decide +kernel
theorem dX5_gainsTogether_9 : decode cX5_gainsTogether 9 = .ok (.iload_n 3, 1) := by decide +kernel
theorem dX5_gainsTogether_10 : decode cX5_gainsTogether 10 = .ok (.aload_n 0, 1) := by decide +kernel
theorem dX5_gainsTogether_11 : decode cX5_gainsTogether 11 = .ok (.getfield 14, 3) := by decide +kernel
theorem dX5_gainsTogether_14 : decode cX5_gainsTogether 14 = .ok (.invokevirtual 126, 3) := by decide +kernel
theorem dX5_gainsTogether_17 : decode cX5_gainsTogether 17 = .ok (.if_icmp .ge 103, 3) := by decide +kernel
theorem dX5_gainsTogether_20 : decode cX5_gainsTogether 20 = .ok (.iload_n 3, 1) := by decide +kernel
theorem dX5_gainsTogether_21 : decode cX5_gainsTogether 21 = .ok (.iconst 1, 1) := by decide +kernel
theorem dX5_gainsTogether_22 : decode cX5_gainsTogether 22 = .ok (.iadd, 1) := by decide +kernel
theorem dX5_gainsTogether_23 : decode cX5_gainsTogether 23 = .ok (.istore 4, 2) := by decide +kernel
theorem dX5_gainsTogether_25 : decode cX5_gainsTogether 25 = .ok (.iload 4, 2) := by decide +kernel
theorem dX5_gainsTogether_27 : decode cX5_gainsTogether 27 = .ok (.aload_n 0, 1) := by decide +kernel
theorem dX5_gainsTogether_28 : decode cX5_gainsTogether 28 = .ok (.getfield 14, 3) := by decide +kernel
theorem dX5_gainsTogether_31 : decode cX5_gainsTogether 31 = .ok (.invokevirtual 126, 3) := by decide +kernel
theorem dX5_gainsTogether_34 : decode cX5_gainsTogether 34 = .ok (.if_icmp .ge 80, 3) := by decide +kernel
theorem dX5_gainsTogether_37 : decode cX5_gainsTogether 37 = .ok (.iload_n 2, 1) := by decide +kernel
theorem dX5_gainsTogether_38 : decode cX5_gainsTogether 38 = .ok (.ifCond .eq 10, 3) := by decide +kernel
theorem dX5_gainsTogether_41 : decode cX5_gainsTogether 41 = .ok (.iload_n 3, 1) := by decide +kernel
theorem dX5_gainsTogether_42 : decode cX5_gainsTogether 42 = .ok (.iload 4, 2) := by decide +kernel
theorem dX5_gainsTogether_44 : decode cX5_gainsTogether 44 = .ok (.iand, 1) := by decide +kernel
theorem dX5_gainsTogether_45 : decode cX5_gainsTogether 45 = .ok (.ifCond .ne 63, 3) := by decide +kernel
theorem dX5_gainsTogether_48 : decode cX5_gainsTogether 48 = .ok (.aload_n 0, 1) := by decide +kernel
theorem dX5_gainsTogether_49 : decode cX5_gainsTogether 49 = .ok (.getfield 45, 3) := by decide +kernel
theorem dX5_gainsTogether_52 : decode cX5_gainsTogether 52 = .ok (.aload_n 1, 1) := by decide +kernel
theorem dX5_gainsTogether_53 : decode cX5_gainsTogether 53 = .ok (.iload_n 3, 1) := by decide +kernel
theorem dX5_gainsTogether_54 : decode cX5_gainsTogether 54 = .ok (.laload, 1) := by decide +kernel
theorem dX5_gainsTogether_55 : decode cX5_gainsTogether 55 = .ok (.aload_n 1, 1) := by decide +kernel
theorem dX5_gainsTogether_56 : decode cX5_gainsTogether 56 = .ok (.iload 4, 2) := by decide +kernel
theorem dX5_gainsTogether_58 : decode cX5_gainsTogether 58 = .ok (.laload, 1) := by decide +kernel
theorem dX5_gainsTogether_59 : decode cX5_gainsTogether 59 = .ok (.invokevirtual 165, 3) := by decide +kernel
theorem dX5_gainsTogether_62 : decode cX5_gainsTogether 62 = .ok (.lstore 5, 2) := by decide +kernel
theorem dX5_gainsTogether_64 : decode cX5_gainsTogether 64 = .ok (.aload_n 0, 1) := by decide +kernel
theorem dX5_gainsTogether_65 : decode cX5_gainsTogether 65 = .ok (.getfield 45, 3) := by decide +kernel
theorem dX5_gainsTogether_68 : decode cX5_gainsTogether 68 = .ok (.aload_n 1, 1) := by decide +kernel
theorem dX5_gainsTogether_69 : decode cX5_gainsTogether 69 = .ok (.iload_n 3, 1) := by decide +kernel
theorem dX5_gainsTogether_70 : decode cX5_gainsTogether 70 = .ok (.iload 4, 2) := by decide +kernel
theorem dX5_gainsTogether_72 : decode cX5_gainsTogether 72 = .ok (.iand, 1) := by decide +kernel
theorem dX5_gainsTogether_73 : decode cX5_gainsTogether 73 = .ok (.laload, 1) := by decide +kernel
theorem dX5_gainsTogether_74 : decode cX5_gainsTogether 74 = .ok (.aload_n 1, 1) := by decide +kernel
theorem dX5_gainsTogether_75 : decode cX5_gainsTogether 75 = .ok (.iload_n 3, 1) := by decide +kernel
theorem dX5_gainsTogether_76 : decode cX5_gainsTogether 76 = .ok (.iload 4, 2) := by decide +kernel
theorem dX5_gainsTogether_78 : decode cX5_gainsTogether 78 = .ok (.ior, 1) := by decide +kernel
theorem dX5_gainsTogether_79 : decode cX5_gainsTogether 79 = .ok (.laload, 1) := by decide +kernel
theorem dX5_gainsTogether_80 : decode cX5_gainsTogether 80 = .ok (.invokevirtual 165, 3) := by decide +kernel
theorem dX5_gainsTogether_83 : decode cX5_gainsTogether 83 = .ok (.lstore 7, 2) := by decide +kernel
theorem dX5_gainsTogether_85 : decode cX5_gainsTogether 85 = .ok (.aload_n 0, 1) := by decide +kernel
theorem dX5_gainsTogether_86 : decode cX5_gainsTogether 86 = .ok (.getfield 45, 3) := by decide +kernel
theorem dX5_gainsTogether_89 : decode cX5_gainsTogether 89 = .ok (.getfield 185, 3) := by decide +kernel
theorem dX5_gainsTogether_92 : decode cX5_gainsTogether 92 = .ok (.ifCond .eq 6, 3) := by decide +kernel
theorem dX5_gainsTogether_95 : decode cX5_gainsTogether 95 = .ok (.bipush (-6), 2) := by decide +kernel
theorem dX5_gainsTogether_97 : decode cX5_gainsTogether 97 = .ok (.ireturn, 1) := by decide +kernel
theorem dX5_gainsTogether_98 : decode cX5_gainsTogether 98 = .ok (.lload 5, 2) := by decide +kernel
theorem dX5_gainsTogether_100 : decode cX5_gainsTogether 100 = .ok (.lload 7, 2) := by decide +kernel
theorem dX5_gainsTogether_102 : decode cX5_gainsTogether 102 = .ok (.lcmp, 1) := by decide +kernel
theorem dX5_gainsTogether_103 : decode cX5_gainsTogether 103 = .ok (.ifCond .le 5, 3) := by decide +kernel
theorem dX5_gainsTogether_106 : decode cX5_gainsTogether 106 = .ok (.iconst 0, 1) := by decide +kernel
theorem dX5_gainsTogether_107 : decode cX5_gainsTogether 107 = .ok (.ireturn, 1) := by decide +kernel
theorem dX5_gainsTogether_108 : decode cX5_gainsTogether 108 = .ok (.iinc 4 1, 3) := by decide +kernel
theorem dX5_gainsTogether_111 : decode cX5_gainsTogether 111 = .ok (.goto (-86), 3) := by decide +kernel
theorem dX5_gainsTogether_114 : decode cX5_gainsTogether 114 = .ok (.iinc 3 1, 3) := by decide +kernel
theorem dX5_gainsTogether_117 : decode cX5_gainsTogether 117 = .ok (.goto (-108), 3) := by decide +kernel
theorem dX5_gainsTogether_120 : decode cX5_gainsTogether 120 = .ok (.iconst 1, 1) := by decide +kernel
theorem dX5_gainsTogether_121 : decode cX5_gainsTogether 121 = .ok (.ireturn, 1) := by decide +kernel
set_option maxRecDepth 20000 in
theorem ggX5_toldSum_X5_has : GoodIn wsX5_toldSum wsX5_has := goodIn_r _ [9] (by decide +kernel) (by decide +kernel)
set_option maxRecDepth 20000 in
theorem gX5_toldSum_X5_has : GoodIn wsX5_toldSum (va_wsS RX5 192 yX5_has wsX5_has) := goodIn_app (goodIn_of _ (by decide +kernel)) ggX5_toldSum_X5_has
set_option maxRecDepth 20000 in
theorem ggX5_toldSum_X3_holds : GoodIn wsX5_toldSum wsX3_holds := goodIn_r _ [14, 15, 16, 8, 17, 41, 42] (by decide +kernel) (by decide +kernel)
set_option maxRecDepth 20000 in
theorem gX5_toldSum_X3_holds : GoodIn wsX5_toldSum (wsV RX5 282 RX3 yX3_holds wsX3_holds) := goodIn_app (goodIn_of _ (by decide +kernel)) ggX5_toldSum_X3_holds
set_option maxRecDepth 20000 in
theorem ggX5_toldSum_X1_plus : GoodIn wsX5_toldSum wsX1_plus := goodIn_r _ [22, 23, 43] (by decide +kernel) (by decide +kernel)
set_option maxRecDepth 20000 in
theorem gX5_toldSum_X1_plus : GoodIn wsX5_toldSum (wsV RX5 165 RX1 yX1_plus wsX1_plus) := goodIn_app (goodIn_of _ (by decide +kernel)) ggX5_toldSum_X1_plus
theorem dX5_toldSum_0 : decode cX5_toldSum 0 = .ok (.lconst 0, 1) := by decide +kernel
theorem dX5_toldSum_1 : decode cX5_toldSum 1 = .ok (.lstore 4, 2) := by decide +kernel
theorem dX5_toldSum_3 : decode cX5_toldSum 3 = .ok (.iconst 0, 1) := by decide +kernel
theorem dX5_toldSum_4 : decode cX5_toldSum 4 = .ok (.istore 6, 2) := by decide +kernel
theorem dX5_toldSum_6 : decode cX5_toldSum 6 = .ok (.iload 6, 2) := by decide +kernel
theorem dX5_toldSum_8 : decode cX5_toldSum 8 = .ok (.aload_n 0, 1) := by decide +kernel
theorem dX5_toldSum_9 : decode cX5_toldSum 9 = .ok (.getfield 14, 3) := by decide +kernel
theorem dX5_toldSum_12 : decode cX5_toldSum 12 = .ok (.getfield 136, 3) := by decide +kernel
theorem dX5_toldSum_15 : decode cX5_toldSum 15 = .ok (.if_icmp .ge 59, 3) := by decide +kernel
theorem dX5_toldSum_18 : decode cX5_toldSum 18 = .ok (.iload_n 3, 1) := by decide +kernel
theorem dX5_toldSum_19 : decode cX5_toldSum 19 = .ok (.iload 6, 2) := by decide +kernel
theorem dX5_toldSum_21 : decode cX5_toldSum 21 = .ok (.invokestatic 192, 3) := by decide +kernel
theorem dX5_toldSum_24 : decode cX5_toldSum 24 = .ok (.ifCond .eq 44, 3) := by decide +kernel
theorem dX5_toldSum_27 : decode cX5_toldSum 27 = .ok (.aload_n 0, 1) := by decide +kernel
theorem dX5_toldSum_28 : decode cX5_toldSum 28 = .ok (.getfield 38, 3) := by decide +kernel
theorem dX5_toldSum_31 : decode cX5_toldSum 31 = .ok (.iload_n 1, 1) := by decide +kernel
theorem dX5_toldSum_32 : decode cX5_toldSum 32 = .ok (.iload_n 2, 1) := by decide +kernel
theorem dX5_toldSum_33 : decode cX5_toldSum 33 = .ok (.iload 6, 2) := by decide +kernel
theorem dX5_toldSum_35 : decode cX5_toldSum 35 = .ok (.iconst 1, 1) := by decide +kernel
theorem dX5_toldSum_36 : decode cX5_toldSum 36 = .ok (.iadd, 1) := by decide +kernel
theorem dX5_toldSum_37 : decode cX5_toldSum 37 = .ok (.invokevirtual 282, 3) := by decide +kernel
theorem dX5_toldSum_40 : decode cX5_toldSum 40 = .ok (.ifCond .eq 28, 3) := by decide +kernel
theorem dX5_toldSum_43 : decode cX5_toldSum 43 = .ok (.aload_n 0, 1) := by decide +kernel
theorem dX5_toldSum_44 : decode cX5_toldSum 44 = .ok (.getfield 45, 3) := by decide +kernel
theorem dX5_toldSum_47 : decode cX5_toldSum 47 = .ok (.lload 4, 2) := by decide +kernel
theorem dX5_toldSum_49 : decode cX5_toldSum 49 = .ok (.aload_n 0, 1) := by decide +kernel
theorem dX5_toldSum_50 : decode cX5_toldSum 50 = .ok (.getfield 38, 3) := by decide +kernel
theorem dX5_toldSum_53 : decode cX5_toldSum 53 = .ok (.getfield 317, 3) := by decide +kernel
theorem dX5_toldSum_56 : decode cX5_toldSum 56 = .ok (.iload_n 1, 1) := by decide +kernel
theorem dX5_toldSum_57 : decode cX5_toldSum 57 = .ok (.aaload, 1) := by decide +kernel
theorem dX5_toldSum_58 : decode cX5_toldSum 58 = .ok (.iload_n 2, 1) := by decide +kernel
theorem dX5_toldSum_59 : decode cX5_toldSum 59 = .ok (.iload 6, 2) := by decide +kernel
theorem dX5_toldSum_61 : decode cX5_toldSum 61 = .ok (.iadd, 1) := by decide +kernel
theorem dX5_toldSum_62 : decode cX5_toldSum 62 = .ok (.laload, 1) := by decide +kernel
theorem dX5_toldSum_63 : decode cX5_toldSum 63 = .ok (.invokevirtual 165, 3) := by decide +kernel
theorem dX5_toldSum_66 : decode cX5_toldSum 66 = .ok (.lstore 4, 2) := by decide +kernel
theorem dX5_toldSum_68 : decode cX5_toldSum 68 = .ok (.iinc 6 1, 3) := by decide +kernel
theorem dX5_toldSum_71 : decode cX5_toldSum 71 = .ok (.goto (-65), 3) := by decide +kernel
theorem dX5_toldSum_74 : decode cX5_toldSum 74 = .ok (.lload 4, 2) := by decide +kernel
theorem dX5_toldSum_76 : decode cX5_toldSum 76 = .ok (.lreturn, 1) := by decide +kernel
set_option maxRecDepth 20000 in
theorem ggX6_init_X6_fresh : GoodIn wsX6_init wsX6_fresh := goodIn_r _ [19, 9] (by decide +kernel) (by decide +kernel)
set_option maxRecDepth 20000 in
theorem gX6_init_X6_fresh : GoodIn wsX6_init (va_wsS RX6 40 yX6_fresh wsX6_fresh) := goodIn_app (goodIn_of _ (by decide +kernel)) ggX6_init_X6_fresh
set_option maxRecDepth 20000 in
theorem ggX6_init_X6_begins : GoodIn wsX6_init wsX6_begins := goodIn_r _ [23, 5, 24, 25, 26, 27, 28, 29, 30, 31, 32, 33, 34, 35, 36, 37, 38, 39] (by decide +kernel) (by decide +kernel)
set_option maxRecDepth 20000 in
theorem gX6_init_X6_begins : GoodIn wsX6_init (wsV RX6 50 RX6 yX6_begins wsX6_begins) := goodIn_app (goodIn_of _ (by decide +kernel)) ggX6_init_X6_begins
theorem dX6_init_0 : decode cX6_init 0 = .ok (.aload_n 0, 1) := by decide +kernel
theorem dX6_init_1 : decode cX6_init 1 = .ok (.invokespecial 5, 3) := by decide +kernel
theorem dX6_init_4 : decode cX6_init 4 = .ok (.aload_n 0, 1) := by decide +kernel
theorem dX6_init_5 : decode cX6_init 5 = .ok (.sipush 2231, 3) := by decide +kernel
theorem dX6_init_8 : decode cX6_init 8 = .ok (.newarray .long, 2) := by decide +kernel
theorem dX6_init_10 : decode cX6_init 10 = .ok (.putfield 11, 3) := by decide +kernel
theorem dX6_init_13 : decode cX6_init 13 = .ok (.aload_n 0, 1) := by decide +kernel
theorem dX6_init_14 : decode cX6_init 14 = .ok (.sipush 2231, 3) := by decide +kernel
theorem dX6_init_17 : decode cX6_init 17 = .ok (.newarray .long, 2) := by decide +kernel
theorem dX6_init_19 : decode cX6_init 19 = .ok (.putfield 15, 3) := by decide +kernel
theorem dX6_init_22 : decode cX6_init 22 = .ok (.aload_n 0, 1) := by decide +kernel
theorem dX6_init_23 : decode cX6_init 23 = .ok (.sipush 512, 3) := by decide +kernel
theorem dX6_init_26 : decode cX6_init 26 = .ok (.newarray .long, 2) := by decide +kernel
theorem dX6_init_28 : decode cX6_init 28 = .ok (.putfield 18, 3) := by decide +kernel
theorem dX6_init_31 : decode cX6_init 31 = .ok (.aload_n 0, 1) := by decide +kernel
theorem dX6_init_32 : decode cX6_init 32 = .ok (.bipush 10, 2) := by decide +kernel
theorem dX6_init_34 : decode cX6_init 34 = .ok (.newarray .long, 2) := by decide +kernel
theorem dX6_init_36 : decode cX6_init 36 = .ok (.putfield 21, 3) := by decide +kernel
theorem dX6_init_39 : decode cX6_init 39 = .ok (.aload_n 0, 1) := by decide +kernel
theorem dX6_init_40 : decode cX6_init 40 = .ok (.bipush 120, 2) := by decide +kernel
theorem dX6_init_42 : decode cX6_init 42 = .ok (.newarray .int, 2) := by decide +kernel
theorem dX6_init_44 : decode cX6_init 44 = .ok (.putfield 24, 3) := by decide +kernel
theorem dX6_init_47 : decode cX6_init 47 = .ok (.aload_n 0, 1) := by decide +kernel
theorem dX6_init_48 : decode cX6_init 48 = .ok (.bipush 120, 2) := by decide +kernel
theorem dX6_init_50 : decode cX6_init 50 = .ok (.newarray .int, 2) := by decide +kernel
theorem dX6_init_52 : decode cX6_init 52 = .ok (.putfield 28, 3) := by decide +kernel
theorem dX6_init_55 : decode cX6_init 55 = .ok (.aload_n 0, 1) := by decide +kernel
theorem dX6_init_56 : decode cX6_init 56 = .ok (.bipush 120, 2) := by decide +kernel
theorem dX6_init_58 : decode cX6_init 58 = .ok (.newarray .long, 2) := by decide +kernel
theorem dX6_init_60 : decode cX6_init 60 = .ok (.putfield 31, 3) := by decide +kernel
theorem dX6_init_63 : decode cX6_init 63 = .ok (.aload_n 0, 1) := by decide +kernel
theorem dX6_init_64 : decode cX6_init 64 = .ok (.ldc 34, 2) := by decide +kernel
theorem dX6_init_66 : decode cX6_init 66 = .ok (.putfield 36, 3) := by decide +kernel
theorem dX6_init_69 : decode cX6_init 69 = .ok (.aload_n 0, 1) := by decide +kernel
theorem dX6_init_70 : decode cX6_init 70 = .ok (.invokestatic 40, 3) := by decide +kernel
theorem dX6_init_73 : decode cX6_init 73 = .ok (.putfield 44, 3) := by decide +kernel
theorem dX6_init_76 : decode cX6_init 76 = .ok (.aload_n 0, 1) := by decide +kernel
theorem dX6_init_77 : decode cX6_init 77 = .ok (.bipush 80, 2) := by decide +kernel
theorem dX6_init_79 : decode cX6_init 79 = .ok (.newarray .long, 2) := by decide +kernel
theorem dX6_init_81 : decode cX6_init 81 = .ok (.putfield 47, 3) := by decide +kernel
theorem dX6_init_84 : decode cX6_init 84 = .ok (.aload_n 0, 1) := by decide +kernel
theorem dX6_init_85 : decode cX6_init 85 = .ok (.getfield 21, 3) := by decide +kernel
theorem dX6_init_88 : decode cX6_init 88 = .ok (.iconst 0, 1) := by decide +kernel
theorem dX6_init_89 : decode cX6_init 89 = .ok (.lconst 1, 1) := by decide +kernel
theorem dX6_init_90 : decode cX6_init 90 = .ok (.lastore, 1) := by decide +kernel
theorem dX6_init_91 : decode cX6_init 91 = .ok (.iconst 1, 1) := by decide +kernel
theorem dX6_init_92 : decode cX6_init 92 = .ok (.istore_n 1, 1) := by decide +kernel
theorem dX6_init_93 : decode cX6_init 93 = .ok (.iload_n 1, 1) := by decide +kernel
theorem dX6_init_94 : decode cX6_init 94 = .ok (.bipush 9, 2) := by decide +kernel
theorem dX6_init_96 : decode cX6_init 96 = .ok (.if_icmp .gt 26, 3) := by decide +kernel
theorem dX6_init_99 : decode cX6_init 99 = .ok (.aload_n 0, 1) := by decide +kernel
theorem dX6_init_100 : decode cX6_init 100 = .ok (.getfield 21, 3) := by decide +kernel
theorem dX6_init_103 : decode cX6_init 103 = .ok (.iload_n 1, 1) := by decide +kernel
theorem dX6_init_104 : decode cX6_init 104 = .ok (.iload_n 1, 1) := by decide +kernel
theorem dX6_init_105 : decode cX6_init 105 = .ok (.i2l, 1) := by decide +kernel
theorem dX6_init_106 : decode cX6_init 106 = .ok (.aload_n 0, 1) := by decide +kernel
theorem dX6_init_107 : decode cX6_init 107 = .ok (.getfield 21, 3) := by decide +kernel
theorem dX6_init_110 : decode cX6_init 110 = .ok (.iload_n 1, 1) := by decide +kernel
theorem dX6_init_111 : decode cX6_init 111 = .ok (.iconst 1, 1) := by decide +kernel
theorem dX6_init_112 : decode cX6_init 112 = .ok (.isub, 1) := by decide +kernel
theorem dX6_init_113 : decode cX6_init 113 = .ok (.laload, 1) := by decide +kernel
theorem dX6_init_114 : decode cX6_init 114 = .ok (.lmul, 1) := by decide +kernel
theorem dX6_init_115 : decode cX6_init 115 = .ok (.lastore, 1) := by decide +kernel
theorem dX6_init_116 : decode cX6_init 116 = .ok (.iinc 1 1, 3) := by decide +kernel
theorem dX6_init_119 : decode cX6_init 119 = .ok (.goto (-26), 3) := by decide +kernel
theorem dX6_init_122 : decode cX6_init 122 = .ok (.aload_n 0, 1) := by decide +kernel
theorem dX6_init_123 : decode cX6_init 123 = .ok (.iconst 1, 1) := by decide +kernel
theorem dX6_init_124 : decode cX6_init 124 = .ok (.invokevirtual 50, 3) := by decide +kernel
theorem dX6_init_127 : decode cX6_init 127 = .ok (.return_, 1) := by decide +kernel
theorem dX6_begins_0 : decode cX6_begins 0 = .ok (.iconst 0, 1) := by decide +kernel
theorem dX6_begins_1 : decode cX6_begins 1 = .ok (.istore_n 2, 1) := by decide +kernel
theorem dX6_begins_2 : decode cX6_begins 2 = .ok (.iload_n 2, 1) := by decide +kernel
theorem dX6_begins_3 : decode cX6_begins 3 = .ok (.sipush 2231, 3) := by decide +kernel
theorem dX6_begins_6 : decode cX6_begins 6 = .ok (.if_icmp .ge 16, 3) := by decide +kernel
theorem dX6_begins_9 : decode cX6_begins 9 = .ok (.aload_n 0, 1) := by decide +kernel
theorem dX6_begins_10 : decode cX6_begins 10 = .ok (.getfield 11, 3) := by decide +kernel
theorem dX6_begins_13 : decode cX6_begins 13 = .ok (.iload_n 2, 1) := by decide +kernel
theorem dX6_begins_14 : decode cX6_begins 14 = .ok (.lconst 0, 1) := by decide +kernel
theorem dX6_begins_15 : decode cX6_begins 15 = .ok (.lastore, 1) := by decide +kernel
theorem dX6_begins_16 : decode cX6_begins 16 = .ok (.iinc 2 1, 3) := by decide +kernel
theorem dX6_begins_19 : decode cX6_begins 19 = .ok (.goto (-17), 3) := by decide +kernel
theorem dX6_begins_22 : decode cX6_begins 22 = .ok (.aload_n 0, 1) := by decide +kernel
theorem dX6_begins_23 : decode cX6_begins 23 = .ok (.getfield 11, 3) := by decide +kernel
theorem dX6_begins_26 : decode cX6_begins 26 = .ok (.iconst 0, 1) := by decide +kernel
theorem dX6_begins_27 : decode cX6_begins 27 = .ok (.iload_n 1, 1) := by decide +kernel
theorem dX6_begins_28 : decode cX6_begins 28 = .ok (.i2l, 1) := by decide +kernel
theorem dX6_begins_29 : decode cX6_begins 29 = .ok (.lastore, 1) := by decide +kernel
theorem dX6_begins_30 : decode cX6_begins 30 = .ok (.aload_n 0, 1) := by decide +kernel
theorem dX6_begins_31 : decode cX6_begins 31 = .ok (.getfield 11, 3) := by decide +kernel
theorem dX6_begins_34 : decode cX6_begins 34 = .ok (.iconst 1, 1) := by decide +kernel
theorem dX6_begins_35 : decode cX6_begins 35 = .ok (.lconst 1, 1) := by decide +kernel
theorem dX6_begins_36 : decode cX6_begins 36 = .ok (.lastore, 1) := by decide +kernel
theorem dX6_begins_37 : decode cX6_begins 37 = .ok (.iconst 0, 1) := by decide +kernel
theorem dX6_begins_38 : decode cX6_begins 38 = .ok (.istore_n 2, 1) := by decide +kernel
theorem dX6_begins_39 : decode cX6_begins 39 = .ok (.iload_n 2, 1) := by decide +kernel
theorem dX6_begins_40 : decode cX6_begins 40 = .ok (.bipush 9, 2) := by decide +kernel
theorem dX6_begins_42 : decode cX6_begins 42 = .ok (.if_icmp .ge 20, 3) := by decide +kernel
theorem dX6_begins_45 : decode cX6_begins 45 = .ok (.aload_n 0, 1) := by decide +kernel
theorem dX6_begins_46 : decode cX6_begins 46 = .ok (.getfield 11, 3) := by decide +kernel
theorem dX6_begins_49 : decode cX6_begins 49 = .ok (.bipush 12, 2) := by decide +kernel
theorem dX6_begins_51 : decode cX6_begins 51 = .ok (.iload_n 2, 1) := by decide +kernel
theorem dX6_begins_52 : decode cX6_begins 52 = .ok (.iadd, 1) := by decide +kernel
theorem dX6_begins_53 : decode cX6_begins 53 = .ok (.iload_n 2, 1) := by decide +kernel
theorem dX6_begins_54 : decode cX6_begins 54 = .ok (.i2l, 1) := by decide +kernel
theorem dX6_begins_55 : decode cX6_begins 55 = .ok (.lastore, 1) := by decide +kernel
theorem dX6_begins_56 : decode cX6_begins 56 = .ok (.iinc 2 1, 3) := by decide +kernel
theorem dX6_begins_59 : decode cX6_begins 59 = .ok (.goto (-20), 3) := by decide +kernel
theorem dX6_begins_62 : decode cX6_begins 62 = .ok (.return_, 1) := by decide +kernel
theorem dX6_plus_0 : decode cX6_plus 0 = .ok (.lload_n 1, 1) := by decide +kernel
theorem dX6_plus_1 : decode cX6_plus 1 = .ok (.lload_n 3, 1) := by decide +kernel
theorem dX6_plus_2 : decode cX6_plus 2 = .ok (.ladd, 1) := by decide +kernel
theorem dX6_plus_3 : decode cX6_plus 3 = .ok (.lstore 5, 2) := by decide +kernel
theorem dX6_plus_5 : decode cX6_plus 5 = .ok (.aload_n 0, 1) := by decide +kernel
theorem dX6_plus_6 : decode cX6_plus 6 = .ok (.dup, 1) := by decide +kernel
theorem dX6_plus_7 : decode cX6_plus 7 = .ok (.getfield 54, 3) := by decide +kernel
theorem dX6_plus_10 : decode cX6_plus 10 = .ok (.lload_n 1, 1) := by decide +kernel
theorem dX6_plus_11 : decode cX6_plus 11 = .ok (.lload 5, 2) := by decide +kernel
theorem dX6_plus_13 : decode cX6_plus 13 = .ok (.lxor, 1) := by decide +kernel
theorem dX6_plus_14 : decode cX6_plus 14 = .ok (.lload_n 3, 1) := by decide +kernel
theorem dX6_plus_15 : decode cX6_plus 15 = .ok (.lload 5, 2) := by decide +kernel
theorem dX6_plus_17 : decode cX6_plus 17 = .ok (.lxor, 1) := by decide +kernel
theorem dX6_plus_18 : decode cX6_plus 18 = .ok (.land, 1) := by decide +kernel
theorem dX6_plus_19 : decode cX6_plus 19 = .ok (.lconst 0, 1) := by decide +kernel
theorem dX6_plus_20 : decode cX6_plus 20 = .ok (.lcmp, 1) := by decide +kernel
theorem dX6_plus_21 : decode cX6_plus 21 = .ok (.ifCond .ge 7, 3) := by decide +kernel
theorem dX6_plus_24 : decode cX6_plus 24 = .ok (.iconst 1, 1) := by decide +kernel
theorem dX6_plus_25 : decode cX6_plus 25 = .ok (.goto 4, 3) := by decide +kernel
theorem dX6_plus_28 : decode cX6_plus 28 = .ok (.iconst 0, 1) := by decide +kernel
theorem dX6_plus_29 : decode cX6_plus 29 = .ok (.ior, 1) := by decide +kernel
theorem dX6_plus_30 : decode cX6_plus 30 = .ok (.putfield 54, 3) := by decide +kernel
theorem dX6_plus_33 : decode cX6_plus 33 = .ok (.lload 5, 2) := by decide +kernel
theorem dX6_plus_35 : decode cX6_plus 35 = .ok (.lreturn, 1) := by decide +kernel
theorem dX6_minus_0 : decode cX6_minus 0 = .ok (.lload_n 1, 1) := by decide +kernel
theorem dX6_minus_1 : decode cX6_minus 1 = .ok (.lload_n 3, 1) := by decide +kernel
theorem dX6_minus_2 : decode cX6_minus 2 = .ok (.lsub, 1) := by decide +kernel
theorem dX6_minus_3 : decode cX6_minus 3 = .ok (.lstore 5, 2) := by decide +kernel
theorem dX6_minus_5 : decode cX6_minus 5 = .ok (.aload_n 0, 1) := by decide +kernel
theorem dX6_minus_6 : decode cX6_minus 6 = .ok (.dup, 1) := by decide +kernel
theorem dX6_minus_7 : decode cX6_minus 7 = .ok (.getfield 54, 3) := by decide +kernel
theorem dX6_minus_10 : decode cX6_minus 10 = .ok (.lload_n 1, 1) := by decide +kernel
theorem dX6_minus_11 : decode cX6_minus 11 = .ok (.lload_n 3, 1) := by decide +kernel
theorem dX6_minus_12 : decode cX6_minus 12 = .ok (.lxor, 1) := by decide +kernel
theorem dX6_minus_13 : decode cX6_minus 13 = .ok (.lload_n 1, 1) := by decide +kernel
theorem dX6_minus_14 : decode cX6_minus 14 = .ok (.lload 5, 2) := by decide +kernel
theorem dX6_minus_16 : decode cX6_minus 16 = .ok (.lxor, 1) := by decide +kernel
theorem dX6_minus_17 : decode cX6_minus 17 = .ok (.land, 1) := by decide +kernel
theorem dX6_minus_18 : decode cX6_minus 18 = .ok (.lconst 0, 1) := by decide +kernel
theorem dX6_minus_19 : decode cX6_minus 19 = .ok (.lcmp, 1) := by decide +kernel
theorem dX6_minus_20 : decode cX6_minus 20 = .ok (.ifCond .ge 7, 3) := by decide +kernel
theorem dX6_minus_23 : decode cX6_minus 23 = .ok (.iconst 1, 1) := by decide +kernel
theorem dX6_minus_24 : decode cX6_minus 24 = .ok (.goto 4, 3) := by decide +kernel
theorem dX6_minus_27 : decode cX6_minus 27 = .ok (.iconst 0, 1) := by decide +kernel
theorem dX6_minus_28 : decode cX6_minus 28 = .ok (.ior, 1) := by decide +kernel
theorem dX6_minus_29 : decode cX6_minus 29 = .ok (.putfield 54, 3) := by decide +kernel
theorem dX6_minus_32 : decode cX6_minus 32 = .ok (.lload 5, 2) := by decide +kernel
theorem dX6_minus_34 : decode cX6_minus 34 = .ok (.lreturn, 1) := by decide +kernel
theorem dX6_product_0 : decode cX6_product 0 = .ok (.lload_n 1, 1) := by decide +kernel
theorem dX6_product_1 : decode cX6_product 1 = .ok (.lload_n 3, 1) := by decide +kernel
theorem dX6_product_2 : decode cX6_product 2 = .ok (.lmul, 1) := by decide +kernel
theorem dX6_product_3 : decode cX6_product 3 = .ok (.lstore 5, 2) := by decide +kernel
theorem dX6_product_5 : decode cX6_product 5 = .ok (.aload_n 0, 1) := by decide +kernel
theorem dX6_product_6 : decode cX6_product 6 = .ok (.dup, 1) := by decide +kernel
theorem dX6_product_7 : decode cX6_product 7 = .ok (.getfield 54, 3) := by decide +kernel
theorem dX6_product_10 : decode cX6_product 10 = .ok (.lload_n 3, 1) := by decide +kernel
theorem dX6_product_11 : decode cX6_product 11 = .ok (.ldc2_w 58, 3) := by decide +kernel
theorem dX6_product_14 : decode cX6_product 14 = .ok (.lcmp, 1) := by decide +kernel
theorem dX6_product_15 : decode cX6_product 15 = .ok (.ifCond .ne 11, 3) := by decide +kernel
theorem dX6_product_18 : decode cX6_product 18 = .ok (.lload_n 1, 1) := by decide +kernel
theorem dX6_product_19 : decode cX6_product 19 = .ok (.ldc2_w 60, 3) := by decide +kernel
theorem dX6_product_22 : decode cX6_product 22 = .ok (.lcmp, 1) := by decide +kernel
theorem dX6_product_23 : decode cX6_product 23 = .ok (.ifCond .eq 26, 3) := by decide +kernel
theorem dX6_product_26 : decode cX6_product 26 = .ok (.lload_n 3, 1) := by decide +kernel
theorem dX6_product_27 : decode cX6_product 27 = .ok (.lconst 0, 1) := by decide +kernel
theorem dX6_product_28 : decode cX6_product 28 = .ok (.lcmp, 1) := by decide +kernel
theorem dX6_product_29 : decode cX6_product 29 = .ok (.ifCond .eq 24, 3) := by decide +kernel
theorem dX6_product_32 : decode cX6_product 32 = .ok (.lload_n 3, 1) := by decide +kernel
theorem dX6_product_33 : decode cX6_product 33 = .ok (.ldc2_w 58, 3) := by decide +kernel
theorem dX6_product_36 : decode cX6_product 36 = .ok (.lcmp, 1) := by decide +kernel
theorem dX6_product_37 : decode cX6_product 37 = .ok (.ifCond .eq 16, 3) := by decide +kernel
theorem dX6_product_40 : decode cX6_product 40 = .ok (.lload 5, 2) := by decide +kernel
theorem dX6_product_42 : decode cX6_product 42 = .ok (.lload_n 3, 1) := by decide +kernel
theorem dX6_product_43 : decode cX6_product 43 = .ok (.ldiv, 1) := by decide +kernel
theorem dX6_product_44 : decode cX6_product 44 = .ok (.lload_n 1, 1) := by decide +kernel
theorem dX6_product_45 : decode cX6_product 45 = .ok (.lcmp, 1) := by decide +kernel
theorem dX6_product_46 : decode cX6_product 46 = .ok (.ifCond .eq 7, 3) := by decide +kernel
theorem dX6_product_49 : decode cX6_product 49 = .ok (.iconst 1, 1) := by decide +kernel
theorem dX6_product_50 : decode cX6_product 50 = .ok (.goto 4, 3) := by decide +kernel
theorem dX6_product_53 : decode cX6_product 53 = .ok (.iconst 0, 1) := by decide +kernel
theorem dX6_product_54 : decode cX6_product 54 = .ok (.ior, 1) := by decide +kernel
theorem dX6_product_55 : decode cX6_product 55 = .ok (.putfield 54, 3) := by decide +kernel
theorem dX6_product_58 : decode cX6_product 58 = .ok (.lload 5, 2) := by decide +kernel
theorem dX6_product_60 : decode cX6_product 60 = .ok (.lreturn, 1) := by decide +kernel
theorem dX6_divisor_0 : decode cX6_divisor 0 = .ok (.lload_n 0, 1) := by decide +kernel
theorem dX6_divisor_1 : decode cX6_divisor 1 = .ok (.lload_n 2, 1) := by decide +kernel
theorem dX6_divisor_2 : decode cX6_divisor 2 = .ok (.lrem, 1) := by decide +kernel
theorem dX6_divisor_3 : decode cX6_divisor 3 = .ok (.lstore 4, 2) := by decide +kernel
theorem dX6_divisor_5 : decode cX6_divisor 5 = .ok (.lload_n 2, 1) := by decide +kernel
theorem dX6_divisor_6 : decode cX6_divisor 6 = .ok (.lstore 6, 2) := by decide +kernel
theorem dX6_divisor_8 : decode cX6_divisor 8 = .ok (.lload 4, 2) := by decide +kernel
theorem dX6_divisor_10 : decode cX6_divisor 10 = .ok (.lconst 0, 1) := by decide +kernel
theorem dX6_divisor_11 : decode cX6_divisor 11 = .ok (.lcmp, 1) := by decide +kernel
theorem dX6_divisor_12 : decode cX6_divisor 12 = .ok (.ifCond .eq 21, 3) := by decide +kernel
theorem dX6_divisor_15 : decode cX6_divisor 15 = .ok (.lload 6, 2) := by decide +kernel
theorem dX6_divisor_17 : decode cX6_divisor 17 = .ok (.lload 4, 2) := by decide +kernel
theorem dX6_divisor_19 : decode cX6_divisor 19 = .ok (.lrem, 1) := by decide +kernel
theorem dX6_divisor_20 : decode cX6_divisor 20 = .ok (.lstore 8, 2) := by decide +kernel
theorem dX6_divisor_22 : decode cX6_divisor 22 = .ok (.lload 4, 2) := by decide +kernel
theorem dX6_divisor_24 : decode cX6_divisor 24 = .ok (.lstore 6, 2) := by decide +kernel
theorem dX6_divisor_26 : decode cX6_divisor 26 = .ok (.lload 8, 2) := by decide +kernel
theorem dX6_divisor_28 : decode cX6_divisor 28 = .ok (.lstore 4, 2) := by decide +kernel
theorem dX6_divisor_30 : decode cX6_divisor 30 = .ok (.goto (-22), 3) := by decide +kernel
theorem dX6_divisor_33 : decode cX6_divisor 33 = .ok (.lload 6, 2) := by decide +kernel
theorem dX6_divisor_35 : decode cX6_divisor 35 = .ok (.lconst 0, 1) := by decide +kernel
theorem dX6_divisor_36 : decode cX6_divisor 36 = .ok (.lcmp, 1) := by decide +kernel
theorem dX6_divisor_37 : decode cX6_divisor 37 = .ok (.ifCond .ge 9, 3) := by decide +kernel
theorem dX6_divisor_40 : decode cX6_divisor 40 = .ok (.lload 6, 2) := by decide +kernel
theorem dX6_divisor_42 : decode cX6_divisor 42 = .ok (.lneg, 1) := by decide +kernel
theorem dX6_divisor_43 : decode cX6_divisor 43 = .ok (.goto 5, 3) := by decide +kernel
theorem dX6_divisor_46 : decode cX6_divisor 46 = .ok (.lload 6, 2) := by decide +kernel
theorem dX6_divisor_48 : decode cX6_divisor 48 = .ok (.lreturn, 1) := by decide +kernel
set_option maxRecDepth 20000 in
theorem ggX6_part_X6_divisor : GoodIn wsX6_part wsX6_divisor := goodIn_r _ [4] (by decide +kernel) (by decide +kernel)
set_option maxRecDepth 20000 in
theorem gX6_part_X6_divisor : GoodIn wsX6_part (va_wsS RX6 62 yX6_divisor wsX6_divisor) := goodIn_app (goodIn_of _ (by decide +kernel)) ggX6_part_X6_divisor
theorem dX6_part_0 : decode cX6_part 0 = .ok (.lload_n 0, 1) := by decide +kernel
theorem dX6_part_1 : decode cX6_part 1 = .ok (.lload_n 2, 1) := by decide +kernel
theorem dX6_part_2 : decode cX6_part 2 = .ok (.invokestatic 62, 3) := by decide +kernel
theorem dX6_part_5 : decode cX6_part 5 = .ok (.lstore 5, 2) := by decide +kernel
theorem dX6_part_7 : decode cX6_part 7 = .ok (.iload 4, 2) := by decide +kernel
theorem dX6_part_9 : decode cX6_part 9 = .ok (.ifCond .ne 10, 3) := by decide +kernel
theorem dX6_part_12 : decode cX6_part 12 = .ok (.lload_n 0, 1) := by decide +kernel
theorem dX6_part_13 : decode cX6_part 13 = .ok (.lload 5, 2) := by decide +kernel
theorem dX6_part_15 : decode cX6_part 15 = .ok (.ldiv, 1) := by decide +kernel
theorem dX6_part_16 : decode cX6_part 16 = .ok (.goto 7, 3) := by decide +kernel
theorem dX6_part_19 : decode cX6_part 19 = .ok (.lload_n 2, 1) := by decide +kernel
theorem dX6_part_20 : decode cX6_part 20 = .ok (.lload 5, 2) := by decide +kernel
theorem dX6_part_22 : decode cX6_part 22 = .ok (.ldiv, 1) := by decide +kernel
theorem dX6_part_23 : decode cX6_part 23 = .ok (.lreturn, 1) := by decide +kernel
theorem dX6_isIn_0 : decode cX6_isIn 0 = .ok (.lload_n 0, 1) := by decide +kernel
theorem dX6_isIn_1 : decode cX6_isIn 1 = .ok (.lload_n 2, 1) := by decide +kernel
theorem dX6_isIn_2 : decode cX6_isIn 2 = .ok (.lcmp, 1) := by decide +kernel
theorem dX6_isIn_3 : decode cX6_isIn 3 = .ok (.ifCond .lt 14, 3) := by decide +kernel
theorem dX6_isIn_6 : decode cX6_isIn 6 = .ok (.lload_n 0, 1) := by decide +kernel
theorem dX6_isIn_7 : decode cX6_isIn 7 = .ok (.lload 4, 2) := by decide +kernel
theorem dX6_isIn_9 : decode cX6_isIn 9 = .ok (.lcmp, 1) := by decide +kernel
theorem dX6_isIn_10 : decode cX6_isIn 10 = .ok (.ifCond .gt 7, 3) := by decide +kernel
theorem dX6_isIn_13 : decode cX6_isIn 13 = .ok (.iconst 1, 1) := by decide +kernel
theorem dX6_isIn_14 : decode cX6_isIn 14 = .ok (.goto 4, 3) := by decide +kernel
theorem dX6_isIn_17 : decode cX6_isIn 17 = .ok (.iconst 0, 1) := by decide +kernel
theorem dX6_isIn_18 : decode cX6_isIn 18 = .ok (.ireturn, 1) := by decide +kernel
theorem dX6_n_0 : decode cX6_n 0 = .ok (.aload_n 0, 1) := by decide +kernel
theorem dX6_n_1 : decode cX6_n 1 = .ok (.getfield 11, 3) := by decide +kernel
theorem dX6_n_4 : decode cX6_n 4 = .ok (.iconst 0, 1) := by decide +kernel
theorem dX6_n_5 : decode cX6_n 5 = .ok (.laload, 1) := by decide +kernel
theorem dX6_n_6 : decode cX6_n 6 = .ok (.l2i, 1) := by decide +kernel
theorem dX6_n_7 : decode cX6_n 7 = .ok (.ireturn, 1) := by decide +kernel
set_option maxRecDepth 20000 in
theorem ggX6_all_X6_n : GoodIn wsX6_all wsX6_n := goodIn_r _ [5, 6, 7, 8, 9, 10, 11, 12, 13, 14, 15, 16, 17, 18, 19, 20, 21, 22] (by decide +kernel) (by decide +kernel)
set_option maxRecDepth 20000 in
theorem gX6_all_X6_n : GoodIn wsX6_all (wsV RX6 66 RX6 yX6_n wsX6_n) := goodIn_app (goodIn_of _ (by decide +kernel)) ggX6_all_X6_n
theorem dX6_all_0 : decode cX6_all 0 = .ok (.iconst 1, 1) := by decide +kernel
theorem dX6_all_1 : decode cX6_all 1 = .ok (.aload_n 0, 1) := by decide +kernel
theorem dX6_all_2 : decode cX6_all 2 = .ok (.invokevirtual 66, 3) := by decide +kernel
theorem dX6_all_5 : decode cX6_all 5 = .ok (.ishl, 1) := by decide +kernel
theorem dX6_all_6 : decode cX6_all 6 = .ok (.iconst 1, 1) := by decide +kernel
theorem dX6_all_7 : decode cX6_all 7 = .ok (.isub, 1) := by decide +kernel
theorem dX6_all_8 : decode cX6_all 8 = .ok (.ireturn, 1) := by decide +kernel
set_option maxRecDepth 20000 in
theorem ggX6_isPartner_X6_n : GoodIn wsX6_isPartner wsX6_n := goodIn_r _ [5, 6, 10, 11, 12, 13, 14, 15, 16, 17, 18, 19, 20, 21, 22, 23, 24, 25] (by decide +kernel) (by decide +kernel)
set_option maxRecDepth 20000 in
theorem gX6_isPartner_X6_n : GoodIn wsX6_isPartner (wsV RX6 66 RX6 yX6_n wsX6_n) := goodIn_app (goodIn_of _ (by decide +kernel)) ggX6_isPartner_X6_n
set_option maxRecDepth 20000 in
theorem ggX6_isPartner_X6_isIn : GoodIn wsX6_isPartner wsX6_isIn := goodIn_r _ [9] (by decide +kernel) (by decide +kernel)
set_option maxRecDepth 20000 in
theorem gX6_isPartner_X6_isIn : GoodIn wsX6_isPartner (va_wsS RX6 70 yX6_isIn wsX6_isIn) := goodIn_app (goodIn_of _ (by decide +kernel)) ggX6_isPartner_X6_isIn
theorem dX6_isPartner_0 : decode cX6_isPartner 0 = .ok (.iload_n 1, 1) := by decide +kernel
theorem dX6_isPartner_1 : decode cX6_isPartner 1 = .ok (.i2l, 1) := by decide +kernel
theorem dX6_isPartner_2 : decode cX6_isPartner 2 = .ok (.lconst 0, 1) := by decide +kernel
theorem dX6_isPartner_3 : decode cX6_isPartner 3 = .ok (.aload_n 0, 1) := by decide +kernel
theorem dX6_isPartner_4 : decode cX6_isPartner 4 = .ok (.invokevirtual 66, 3) := by decide +kernel
theorem dX6_isPartner_7 : decode cX6_isPartner 7 = .ok (.iconst 1, 1) := by decide +kernel
theorem dX6_isPartner_8 : decode cX6_isPartner 8 = .ok (.isub, 1) := by decide +kernel
theorem dX6_isPartner_9 : decode cX6_isPartner 9 = .ok (.i2l, 1) := by decide +kernel
theorem dX6_isPartner_10 : decode cX6_isPartner 10 = .ok (.invokestatic 70, 3) := by decide +kernel
theorem dX6_isPartner_13 : decode cX6_isPartner 13 = .ok (.ireturn, 1) := by decide +kernel
set_option maxRecDepth 20000 in
theorem ggX6_isTwo_X6_isPartner : GoodIn wsX6_isTwo wsX6_isPartner := goodIn_r _ [5, 6, 7, 8, 4, 9, 10, 11, 12, 13, 14, 15, 16, 17, 18, 19, 20, 21, 22, 23, 24, 25, 26, 27, 28, 29] (by decide +kernel) (by decide +kernel)
set_option maxRecDepth 20000 in
theorem gX6_isTwo_X6_isPartner : GoodIn wsX6_isTwo (wsV RX6 74 RX6 yX6_isPartner wsX6_isPartner) := goodIn_app (goodIn_of _ (by decide +kernel)) ggX6_isTwo_X6_isPartner
theorem dX6_isTwo_0 : decode cX6_isTwo 0 = .ok (.aload_n 0, 1) := by decide +kernel
theorem dX6_isTwo_1 : decode cX6_isTwo 1 = .ok (.iload_n 1, 1) := by decide +kernel
theorem dX6_isTwo_2 : decode cX6_isTwo 2 = .ok (.invokevirtual 74, 3) := by decide +kernel
theorem dX6_isTwo_5 : decode cX6_isTwo 5 = .ok (.ifCond .eq 20, 3) := by decide +kernel
theorem dX6_isTwo_8 : decode cX6_isTwo 8 = .ok (.aload_n 0, 1) := by decide +kernel
theorem dX6_isTwo_9 : decode cX6_isTwo 9 = .ok (.iload_n 2, 1) := by decide +kernel
theorem dX6_isTwo_10 : decode cX6_isTwo 10 = .ok (.invokevirtual 74, 3) := by decide +kernel
theorem dX6_isTwo_13 : decode cX6_isTwo 13 = .ok (.ifCond .eq 12, 3) := by decide +kernel
theorem dX6_isTwo_16 : decode cX6_isTwo 16 = .ok (.iload_n 1, 1) := by decide +kernel
theorem dX6_isTwo_17 : decode cX6_isTwo 17 = .ok (.iload_n 2, 1) := by decide +kernel
theorem dX6_isTwo_18 : decode cX6_isTwo 18 = .ok (.if_icmp .eq 7, 3) := by decide +kernel
theorem dX6_isTwo_21 : decode cX6_isTwo 21 = .ok (.iconst 1, 1) := by decide +kernel
theorem dX6_isTwo_22 : decode cX6_isTwo 22 = .ok (.goto 4, 3) := by decide +kernel
theorem dX6_isTwo_25 : decode cX6_isTwo 25 = .ok (.iconst 0, 1) := by decide +kernel
theorem dX6_isTwo_26 : decode cX6_isTwo 26 = .ok (.ireturn, 1) := by decide +kernel
set_option maxRecDepth 20000 in
theorem ggX6_isGame_X6_isIn : GoodIn wsX6_isGame wsX6_isIn := goodIn_r _ [5] (by decide +kernel) (by decide +kernel)
set_option maxRecDepth 20000 in
theorem gX6_isGame_X6_isIn : GoodIn wsX6_isGame (va_wsS RX6 70 yX6_isIn wsX6_isIn) := goodIn_app (goodIn_of _ (by decide +kernel)) ggX6_isGame_X6_isIn
theorem dX6_isGame_0 : decode cX6_isGame 0 = .ok (.iload_n 0, 1) := by decide +kernel
theorem dX6_isGame_1 : decode cX6_isGame 1 = .ok (.i2l, 1) := by decide +kernel
theorem dX6_isGame_2 : decode cX6_isGame 2 = .ok (.lconst 0, 1) := by decide +kernel
theorem dX6_isGame_3 : decode cX6_isGame 3 = .ok (.ldc2_w 78, 3) := by decide +kernel
theorem dX6_isGame_6 : decode cX6_isGame 6 = .ok (.invokestatic 70, 3) := by decide +kernel
theorem dX6_isGame_9 : decode cX6_isGame 9 = .ok (.ireturn, 1) := by decide +kernel
set_option maxRecDepth 20000 in
theorem ggX6_isSet_X6_all : GoodIn wsX6_isSet wsX6_all := goodIn_r _ [5, 6, 7, 8, 4, 9, 10, 14, 15, 16, 17, 18, 19, 20, 21, 22, 23, 24, 25, 26, 27, 28, 29] (by decide +kernel) (by decide +kernel)
set_option maxRecDepth 20000 in
theorem gX6_isSet_X6_all : GoodIn wsX6_isSet (wsV RX6 80 RX6 yX6_all wsX6_all) := goodIn_app (goodIn_of _ (by decide +kernel)) ggX6_isSet_X6_all
set_option maxRecDepth 20000 in
theorem ggX6_isSet_X6_isIn : GoodIn wsX6_isSet wsX6_isIn := goodIn_r _ [13] (by decide +kernel) (by decide +kernel)
set_option maxRecDepth 20000 in
theorem gX6_isSet_X6_isIn : GoodIn wsX6_isSet (va_wsS RX6 70 yX6_isIn wsX6_isIn) := goodIn_app (goodIn_of _ (by decide +kernel)) ggX6_isSet_X6_isIn
theorem dX6_isSet_0 : decode cX6_isSet 0 = .ok (.iload_n 1, 1) := by decide +kernel
theorem dX6_isSet_1 : decode cX6_isSet 1 = .ok (.i2l, 1) := by decide +kernel
theorem dX6_isSet_2 : decode cX6_isSet 2 = .ok (.lconst 0, 1) := by decide +kernel
theorem dX6_isSet_3 : decode cX6_isSet 3 = .ok (.aload_n 0, 1) := by decide +kernel
theorem dX6_isSet_4 : decode cX6_isSet 4 = .ok (.invokevirtual 80, 3) := by decide +kernel
theorem dX6_isSet_7 : decode cX6_isSet 7 = .ok (.i2l, 1) := by decide +kernel
theorem dX6_isSet_8 : decode cX6_isSet 8 = .ok (.invokestatic 70, 3) := by decide +kernel
theorem dX6_isSet_11 : decode cX6_isSet 11 = .ok (.ireturn, 1) := by decide +kernel
theorem dX6_has_0 : decode cX6_has 0 = .ok (.iload_n 0, 1) := by decide +kernel
theorem dX6_has_1 : decode cX6_has 1 = .ok (.iload_n 1, 1) := by decide +kernel
theorem dX6_has_2 : decode cX6_has 2 = .ok (.ishr, 1) := by decide +kernel
theorem dX6_has_3 : decode cX6_has 3 = .ok (.iconst 1, 1) := by decide +kernel
theorem dX6_has_4 : decode cX6_has 4 = .ok (.iand, 1) := by decide +kernel
theorem dX6_has_5 : decode cX6_has 5 = .ok (.iconst 1, 1) := by decide +kernel
theorem dX6_has_6 : decode cX6_has 6 = .ok (.if_icmp .ne 7, 3) := by decide +kernel
theorem dX6_has_9 : decode cX6_has 9 = .ok (.iconst 1, 1) := by decide +kernel
theorem dX6_has_10 : decode cX6_has 10 = .ok (.goto 4, 3) := by decide +kernel
theorem dX6_has_13 : decode cX6_has 13 = .ok (.iconst 0, 1) := by decide +kernel
theorem dX6_has_14 : decode cX6_has 14 = .ok (.ireturn, 1) := by decide +kernel
theorem dX6_size_0 : decode cX6_size 0 = .ok (.iconst 0, 1) := by decide +kernel
theorem dX6_size_1 : decode cX6_size 1 = .ok (.istore_n 1, 1) := by decide +kernel
theorem dX6_size_2 : decode cX6_size 2 = .ok (.iconst 0, 1) := by decide +kernel
theorem dX6_size_3 : decode cX6_size 3 = .ok (.istore_n 2, 1) := by decide +kernel
theorem dX6_size_4 : decode cX6_size 4 = .ok (.iload_n 2, 1) := by decide +kernel
theorem dX6_size_5 : decode cX6_size 5 = .ok (.bipush 9, 2) := by decide +kernel
theorem dX6_size_7 : decode cX6_size 7 = .ok (.if_icmp .ge 17, 3) := by decide +kernel
theorem dX6_size_10 : decode cX6_size 10 = .ok (.iload_n 1, 1) := by decide +kernel
theorem dX6_size_11 : decode cX6_size 11 = .ok (.iload_n 0, 1) := by decide +kernel
theorem dX6_size_12 : decode cX6_size 12 = .ok (.iload_n 2, 1) := by decide +kernel
theorem dX6_size_13 : decode cX6_size 13 = .ok (.ishr, 1) := by decide +kernel
theorem dX6_size_14 : decode cX6_size 14 = .ok (.iconst 1, 1) := by decide +kernel
theorem dX6_size_15 : decode cX6_size 15 = .ok (.iand, 1) := by decide +kernel
theorem dX6_size_16 : decode cX6_size 16 = .ok (.iadd, 1) := by decide +kernel
theorem dX6_size_17 : decode cX6_size 17 = .ok (.istore_n 1, 1) := by decide +kernel
theorem dX6_size_18 : decode cX6_size 18 = .ok (.iinc 2 1, 3) := by decide +kernel
theorem dX6_size_21 : decode cX6_size 21 = .ok (.goto (-17), 3) := by decide +kernel
theorem dX6_size_24 : decode cX6_size 24 = .ok (.iload_n 1, 1) := by decide +kernel
theorem dX6_size_25 : decode cX6_size 25 = .ok (.ireturn, 1) := by decide +kernel
theorem dX6_v_0 : decode cX6_v 0 = .ok (.aload_n 0, 1) := by decide +kernel
theorem dX6_v_1 : decode cX6_v 1 = .ok (.getfield 11, 3) := by decide +kernel
theorem dX6_v_4 : decode cX6_v 4 = .ok (.sipush 183, 3) := by decide +kernel
theorem dX6_v_7 : decode cX6_v 7 = .ok (.sipush 512, 3) := by decide +kernel
theorem dX6_v_10 : decode cX6_v 10 = .ok (.iload_n 1, 1) := by decide +kernel
theorem dX6_v_11 : decode cX6_v 11 = .ok (.imul, 1) := by decide +kernel
theorem dX6_v_12 : decode cX6_v 12 = .ok (.iadd, 1) := by decide +kernel
theorem dX6_v_13 : decode cX6_v 13 = .ok (.iload_n 2, 1) := by decide +kernel
theorem dX6_v_14 : decode cX6_v 14 = .ok (.iadd, 1) := by decide +kernel
theorem dX6_v_15 : decode cX6_v 15 = .ok (.laload, 1) := by decide +kernel
theorem dX6_v_16 : decode cX6_v 16 = .ok (.lreturn, 1) := by decide +kernel
set_option maxRecDepth 20000 in
theorem ggX6_partners_X6_isIn : GoodIn wsX6_partners wsX6_isIn := goodIn_r _ [5] (by decide +kernel) (by decide +kernel)
set_option maxRecDepth 20000 in
theorem gX6_partners_X6_isIn : GoodIn wsX6_partners (va_wsS RX6 70 yX6_isIn wsX6_isIn) := goodIn_app (goodIn_of _ (by decide +kernel)) ggX6_partners_X6_isIn
set_option maxRecDepth 20000 in
theorem ggX6_partners_X6_begins : GoodIn wsX6_partners wsX6_begins := goodIn_r _ [9, 10, 11, 12, 13, 14, 15, 16, 17, 18, 19, 20, 21, 22, 23, 24, 25, 26] (by decide +kernel) (by decide +kernel)
set_option maxRecDepth 20000 in
theorem gX6_partners_X6_begins : GoodIn wsX6_partners (wsV RX6 50 RX6 yX6_begins wsX6_begins) := goodIn_app (goodIn_of _ (by decide +kernel)) ggX6_partners_X6_begins
theorem dX6_partners_0 : decode cX6_partners 0 = .ok (.iload_n 1, 1) := by decide +kernel
theorem dX6_partners_1 : decode cX6_partners 1 = .ok (.i2l, 1) := by decide +kernel
theorem dX6_partners_2 : decode cX6_partners 2 = .ok (.lconst 1, 1) := by decide +kernel
theorem dX6_partners_3 : decode cX6_partners 3 = .ok (.ldc2_w 83, 3) := by decide +kernel
theorem dX6_partners_6 : decode cX6_partners 6 = .ok (.invokestatic 70, 3) := by decide +kernel
theorem dX6_partners_9 : decode cX6_partners 9 = .ok (.ifCond .ne 6, 3) := by decide +kernel
theorem dX6_partners_12 : decode cX6_partners 12 = .ok (.bipush (-2), 2) := by decide +kernel
theorem dX6_partners_14 : decode cX6_partners 14 = .ok (.ireturn, 1) := by decide +kernel
theorem dX6_partners_15 : decode cX6_partners 15 = .ok (.aload_n 0, 1) := by decide +kernel
theorem dX6_partners_16 : decode cX6_partners 16 = .ok (.iload_n 1, 1) := by decide +kernel
theorem dX6_partners_17 : decode cX6_partners 17 = .ok (.invokevirtual 50, 3) := by decide +kernel
theorem dX6_partners_20 : decode cX6_partners 20 = .ok (.iload_n 1, 1) := by decide +kernel
theorem dX6_partners_21 : decode cX6_partners 21 = .ok (.ireturn, 1) := by decide +kernel
set_option maxRecDepth 20000 in
theorem ggX6_value_X6_isGame : GoodIn wsX6_value wsX6_isGame := goodIn_r _ [7, 8, 9, 10, 6, 11] (by decide +kernel) (by decide +kernel)
set_option maxRecDepth 20000 in
theorem gX6_value_X6_isGame : GoodIn wsX6_value (va_wsS RX6 85 yX6_isGame wsX6_isGame) := goodIn_app (goodIn_of _ (by decide +kernel)) ggX6_value_X6_isGame
set_option maxRecDepth 20000 in
theorem ggX6_value_X6_isSet : GoodIn wsX6_value wsX6_isSet := goodIn_r _ [15, 16, 17, 18, 6, 19, 20, 21, 22, 23, 3, 9, 10, 11, 24, 25, 26, 27, 28, 29, 30, 31, 32, 33, 34, 35, 36, 37, 38, 39] (by decide +kernel) (by decide +kernel)
set_option maxRecDepth 20000 in
theorem gX6_value_X6_isSet : GoodIn wsX6_value (wsV RX6 88 RX6 yX6_isSet wsX6_isSet) := goodIn_app (goodIn_of _ (by decide +kernel)) ggX6_value_X6_isSet
set_option maxRecDepth 20000 in
theorem ggX6_value_X6_isIn : GoodIn wsX6_value wsX6_isIn := goodIn_r _ [11] (by decide +kernel) (by decide +kernel)
set_option maxRecDepth 20000 in
theorem gX6_value_X6_isIn : GoodIn wsX6_value (va_wsS RX6 70 yX6_isIn wsX6_isIn) := goodIn_app (goodIn_of _ (by decide +kernel)) ggX6_value_X6_isIn
theorem dX6_value_0 : decode cX6_value 0 = .ok (.iload_n 1, 1) := by decide +kernel
theorem dX6_value_1 : decode cX6_value 1 = .ok (.invokestatic 85, 3) := by decide +kernel
theorem dX6_value_4 : decode cX6_value 4 = .ok (.ifCond .eq 15, 3) := by decide +kernel
theorem dX6_value_7 : decode cX6_value 7 = .ok (.aload_n 0, 1) := by decide +kernel
theorem dX6_value_8 : decode cX6_value 8 = .ok (.iload_n 2, 1) := by decide +kernel
theorem dX6_value_9 : decode cX6_value 9 = .ok (.invokevirtual 88, 3) := by decide +kernel
theorem dX6_value_12 : decode cX6_value 12 = .ok (.ifCond .eq 7, 3) := by decide +kernel
theorem dX6_value_15 : decode cX6_value 15 = .ok (.iload_n 2, 1) := by decide +kernel
theorem dX6_value_16 : decode cX6_value 16 = .ok (.ifCond .ne 5, 3) := by decide +kernel
theorem dX6_value_19 : decode cX6_value 19 = .ok (.iconst (-1), 1) := by decide +kernel
theorem dX6_value_20 : decode cX6_value 20 = .ok (.ireturn, 1) := by decide +kernel
theorem dX6_value_21 : decode cX6_value 21 = .ok (.lload_n 3, 1) := by decide +kernel
theorem dX6_value_22 : decode cX6_value 22 = .ok (.ldc2_w 91, 3) := by decide +kernel
theorem dX6_value_25 : decode cX6_value 25 = .ok (.ldc2_w 93, 3) := by decide +kernel
theorem dX6_value_28 : decode cX6_value 28 = .ok (.invokestatic 70, 3) := by decide +kernel
theorem dX6_value_31 : decode cX6_value 31 = .ok (.ifCond .ne 6, 3) := by decide +kernel
theorem dX6_value_34 : decode cX6_value 34 = .ok (.bipush (-2), 2) := by decide +kernel
theorem dX6_value_36 : decode cX6_value 36 = .ok (.ireturn, 1) := by decide +kernel
theorem dX6_value_37 : decode cX6_value 37 = .ok (.aload_n 0, 1) := by decide +kernel
theorem dX6_value_38 : decode cX6_value 38 = .ok (.getfield 11, 3) := by decide +kernel
theorem dX6_value_41 : decode cX6_value 41 = .ok (.sipush 183, 3) := by decide +kernel
theorem dX6_value_44 : decode cX6_value 44 = .ok (.sipush 512, 3) := by decide +kernel
theorem dX6_value_47 : decode cX6_value 47 = .ok (.iload_n 1, 1) := by decide +kernel
theorem dX6_value_48 : decode cX6_value 48 = .ok (.imul, 1) := by decide +kernel
theorem dX6_value_49 : decode cX6_value 49 = .ok (.iadd, 1) := by decide +kernel
theorem dX6_value_50 : decode cX6_value 50 = .ok (.iload_n 2, 1) := by decide +kernel
theorem dX6_value_51 : decode cX6_value 51 = .ok (.iadd, 1) := by decide +kernel
theorem dX6_value_52 : decode cX6_value 52 = .ok (.lload_n 3, 1) := by decide +kernel
theorem dX6_value_53 : decode cX6_value 53 = .ok (.lastore, 1) := by decide +kernel
theorem dX6_value_54 : decode cX6_value 54 = .ok (.iconst 1, 1) := by decide +kernel
theorem dX6_value_55 : decode cX6_value 55 = .ok (.ireturn, 1) := by decide +kernel
set_option maxRecDepth 20000 in
theorem ggX6_valueOf_X6_isGame : GoodIn wsX6_valueOf wsX6_isGame := goodIn_r _ [5, 6, 7, 8, 4, 9] (by decide +kernel) (by decide +kernel)
set_option maxRecDepth 20000 in
theorem gX6_valueOf_X6_isGame : GoodIn wsX6_valueOf (va_wsS RX6 85 yX6_isGame wsX6_isGame) := goodIn_app (goodIn_of _ (by decide +kernel)) ggX6_valueOf_X6_isGame
set_option maxRecDepth 20000 in
theorem ggX6_valueOf_X6_isSet : GoodIn wsX6_valueOf wsX6_isSet := goodIn_r _ [13, 14, 15, 16, 4, 17, 18, 19, 20, 21, 22, 7, 8, 9, 27, 28, 29, 30, 31, 32, 33, 34, 35, 36, 37, 38, 39, 40, 41, 42] (by decide +kernel) (by decide +kernel)
set_option maxRecDepth 20000 in
theorem gX6_valueOf_X6_isSet : GoodIn wsX6_valueOf (wsV RX6 88 RX6 yX6_isSet wsX6_isSet) := goodIn_app (goodIn_of _ (by decide +kernel)) ggX6_valueOf_X6_isSet
set_option maxRecDepth 20000 in
theorem ggX6_valueOf_X6_v : GoodIn wsX6_valueOf wsX6_v := goodIn_r _ [26, 22, 27, 28, 29, 30, 31, 32, 33, 34, 35, 36, 37, 38, 39, 40, 41, 42] (by decide +kernel) (by decide +kernel)
set_option maxRecDepth 20000 in
theorem gX6_valueOf_X6_v : GoodIn wsX6_valueOf (wsV RX6 95 RX6 yX6_v wsX6_v) := goodIn_app (goodIn_of _ (by decide +kernel)) ggX6_valueOf_X6_v
