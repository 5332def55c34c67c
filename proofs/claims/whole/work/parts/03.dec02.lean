theorem dX5_differ_0 : decode cX5_differ 0 = .ok (.iload_n 1, 1) := by decide +kernel
theorem dX5_differ_1 : decode cX5_differ 1 = .ok (.invokestatic 64, 3) := by decide +kernel
theorem dX5_differ_4 : decode cX5_differ 4 = .ok (.ifCond .eq 10, 3) := by decide +kernel
theorem dX5_differ_7 : decode cX5_differ 7 = .ok (.iload_n 2, 1) := by decide +kernel
theorem dX5_differ_8 : decode cX5_differ 8 = .ok (.invokestatic 64, 3) := by decide +kernel
theorem dX5_differ_11 : decode cX5_differ 11 = .ok (.ifCond .ne 5, 3) := by decide +kernel
theorem dX5_differ_14 : decode cX5_differ 14 = .ok (.iconst (-1), 1) := by decide +kernel
theorem dX5_differ_15 : decode cX5_differ 15 = .ok (.ireturn, 1) := by decide +kernel
theorem dX5_differ_16 : decode cX5_differ 16 = .ok (.iconst 0, 1) := by decide +kernel
theorem dX5_differ_17 : decode cX5_differ 17 = .ok (.istore_n 3, 1) := by decide +kernel
theorem dX5_differ_18 : decode cX5_differ 18 = .ok (.iload_n 3, 1) := by decide +kernel
theorem dX5_differ_19 : decode cX5_differ 19 = .ok (.aload_n 0, 1) := by decide +kernel
theorem dX5_differ_20 : decode cX5_differ 20 = .ok (.getfield 14, 3) := by decide +kernel
theorem dX5_differ_23 : decode cX5_differ 23 = .ok (.invokevirtual 126, 3) := by decide +kernel
theorem dX5_differ_26 : decode cX5_differ 26 = .ok (.if_icmp .ge 37, 3) := by decide +kernel
theorem dX5_differ_29 : decode cX5_differ 29 = .ok (.aload_n 0, 1) := by decide +kernel
theorem dX5_differ_30 : decode cX5_differ 30 = .ok (.getfield 14, 3) := by decide +kernel
theorem dX5_differ_33 : decode cX5_differ 33 = .ok (.getfield 75, 3) := by decide +kernel
theorem dX5_differ_36 : decode cX5_differ 36 = .ok (.iload_n 1, 1) := by decide +kernel
theorem dX5_differ_37 : decode cX5_differ 37 = .ok (.aaload, 1) := by decide +kernel
theorem dX5_differ_38 : decode cX5_differ 38 = .ok (.iload_n 3, 1) := by decide +kernel
theorem dX5_differ_39 : decode cX5_differ 39 = .ok (.laload, 1) := by decide +kernel
theorem dX5_differ_40 : decode cX5_differ 40 = .ok (.aload_n 0, 1) := by decide +kernel
theorem dX5_differ_41 : decode cX5_differ 41 = .ok (.getfield 14, 3) := by decide +kernel
theorem dX5_differ_44 : decode cX5_differ 44 = .ok (.getfield 75, 3) := by decide +kernel
theorem dX5_differ_47 : decode cX5_differ 47 = .ok (.iload_n 2, 1) := by decide +kernel
theorem dX5_differ_48 : decode cX5_differ 48 = .ok (.aaload, 1) := by decide +kernel
theorem dX5_differ_49 : decode cX5_differ 49 = .ok (.iload_n 3, 1) := by decide +kernel
theorem dX5_differ_50 : decode cX5_differ 50 = .ok (.laload, 1) := by decide +kernel
theorem dX5_differ_51 : decode cX5_differ 51 = .ok (.lcmp, 1) := by decide +kernel
theorem dX5_differ_52 : decode cX5_differ 52 = .ok (.ifCond .eq 5, 3) := by decide +kernel
theorem dX5_differ_55 : decode cX5_differ 55 = .ok (.iload_n 3, 1) := by decide +kernel
theorem dX5_differ_56 : decode cX5_differ 56 = .ok (.ireturn, 1) := by decide +kernel
theorem dX5_differ_57 : decode cX5_differ 57 = .ok (.iinc 3 1, 3) := by decide +kernel
theorem dX5_differ_60 : decode cX5_differ 60 = .ok (.goto (-42), 3) := by decide +kernel
theorem dX5_differ_63 : decode cX5_differ 63 = .ok (.bipush (-5), 2) := by decide +kernel
theorem dX5_differ_65 : decode cX5_differ 65 = .ok (.ireturn, 1) := by decide +kernel
set_option maxRecDepth 20000 in
theorem ggX5_unlike_X5_isGame : GoodIn wsX5_unlike wsX5_isGame := goodIn_r _ [6] (by decide +kernel) (by decide +kernel)
set_option maxRecDepth 20000 in
theorem gX5_unlike_X5_isGame : GoodIn wsX5_unlike (va_wsS RX5 64 yX5_isGame wsX5_isGame) := goodIn_app (goodIn_of _ (by decide +kernel)) ggX5_unlike_X5_isGame
set_option maxRecDepth 20000 in
theorem ggX5_unlike_X0_sets : GoodIn wsX5_unlike wsX0_sets := goodIn_r _ [11, 12, 26, 27, 28, 29, 30, 31, 32] (by decide +kernel) (by decide +kernel)
set_option maxRecDepth 20000 in
theorem gX5_unlike_X0_sets : GoodIn wsX5_unlike (wsV RX5 126 RX0 yX0_sets wsX0_sets) := goodIn_app (goodIn_of _ (by decide +kernel)) ggX5_unlike_X0_sets
set_option maxRecDepth 20000 in
theorem ggX5_unlike_X5_isMetBefore : GoodIn wsX5_unlike wsX5_isMetBefore := goodIn_r _ [15] (by decide +kernel) (by decide +kernel)
set_option maxRecDepth 20000 in
theorem gX5_unlike_X5_isMetBefore : GoodIn wsX5_unlike (va_wsS RX5 195 yX5_isMetBefore wsX5_isMetBefore) := goodIn_app (goodIn_of _ (by decide +kernel)) ggX5_unlike_X5_isMetBefore
theorem dX5_unlike_0 : decode cX5_unlike 0 = .ok (.iload_n 1, 1) := by decide +kernel
theorem dX5_unlike_1 : decode cX5_unlike 1 = .ok (.invokestatic 64, 3) := by decide +kernel
theorem dX5_unlike_4 : decode cX5_unlike 4 = .ok (.ifCond .ne 5, 3) := by decide +kernel
theorem dX5_unlike_7 : decode cX5_unlike 7 = .ok (.iconst (-1), 1) := by decide +kernel
theorem dX5_unlike_8 : decode cX5_unlike 8 = .ok (.ireturn, 1) := by decide +kernel
theorem dX5_unlike_9 : decode cX5_unlike 9 = .ok (.iconst 0, 1) := by decide +kernel
theorem dX5_unlike_10 : decode cX5_unlike 10 = .ok (.istore_n 2, 1) := by decide +kernel
theorem dX5_unlike_11 : decode cX5_unlike 11 = .ok (.iconst 0, 1) := by decide +kernel
theorem dX5_unlike_12 : decode cX5_unlike 12 = .ok (.istore_n 3, 1) := by decide +kernel
theorem dX5_unlike_13 : decode cX5_unlike 13 = .ok (.iload_n 3, 1) := by decide +kernel
theorem dX5_unlike_14 : decode cX5_unlike 14 = .ok (.aload_n 0, 1) := by decide +kernel
theorem dX5_unlike_15 : decode cX5_unlike 15 = .ok (.getfield 14, 3) := by decide +kernel
theorem dX5_unlike_18 : decode cX5_unlike 18 = .ok (.invokevirtual 126, 3) := by decide +kernel
theorem dX5_unlike_21 : decode cX5_unlike 21 = .ok (.if_icmp .ge 28, 3) := by decide +kernel
theorem dX5_unlike_24 : decode cX5_unlike 24 = .ok (.aload_n 0, 1) := by decide +kernel
theorem dX5_unlike_25 : decode cX5_unlike 25 = .ok (.getfield 14, 3) := by decide +kernel
theorem dX5_unlike_28 : decode cX5_unlike 28 = .ok (.getfield 75, 3) := by decide +kernel
theorem dX5_unlike_31 : decode cX5_unlike 31 = .ok (.iload_n 1, 1) := by decide +kernel
theorem dX5_unlike_32 : decode cX5_unlike 32 = .ok (.aaload, 1) := by decide +kernel
theorem dX5_unlike_33 : decode cX5_unlike 33 = .ok (.iload_n 3, 1) := by decide +kernel
theorem dX5_unlike_34 : decode cX5_unlike 34 = .ok (.invokestatic 195, 3) := by decide +kernel
theorem dX5_unlike_37 : decode cX5_unlike 37 = .ok (.ifCond .ne 6, 3) := by decide +kernel
theorem dX5_unlike_40 : decode cX5_unlike 40 = .ok (.iinc 2 1, 3) := by decide +kernel
theorem dX5_unlike_43 : decode cX5_unlike 43 = .ok (.iinc 3 1, 3) := by decide +kernel
theorem dX5_unlike_46 : decode cX5_unlike 46 = .ok (.goto (-33), 3) := by decide +kernel
theorem dX5_unlike_49 : decode cX5_unlike 49 = .ok (.iload_n 2, 1) := by decide +kernel
theorem dX5_unlike_50 : decode cX5_unlike 50 = .ok (.ireturn, 1) := by decide +kernel
set_option maxRecDepth 20000 in
theorem ggX5_adds_X5_isGame : GoodIn wsX5_adds wsX5_isGame := goodIn_r _ [9] (by decide +kernel) (by decide +kernel)
set_option maxRecDepth 20000 in
theorem gX5_adds_X5_isGame : GoodIn wsX5_adds (va_wsS RX5 64 yX5_isGame wsX5_isGame) := goodIn_app (goodIn_of _ (by decide +kernel)) ggX5_adds_X5_isGame
set_option maxRecDepth 20000 in
theorem ggX5_adds_X5_isOrder : GoodIn wsX5_adds wsX5_isOrder := goodIn_r _ [13, 14, 1, 15, 16, 17, 18, 19, 20, 21, 22, 8, 23, 24, 25, 26, 27, 28, 29, 30, 31, 32, 33, 34, 35, 50, 51, 52, 53, 54, 55, 56, 57, 58, 59, 60, 61, 62, 63, 64, 65, 66, 68, 69] (by decide +kernel) (by decide +kernel)
set_option maxRecDepth 20000 in
theorem gX5_adds_X5_isOrder : GoodIn wsX5_adds (wsV RX5 199 RX5 yX5_isOrder wsX5_isOrder) := goodIn_app (goodIn_of _ (by decide +kernel)) ggX5_adds_X5_isOrder
set_option maxRecDepth 20000 in
theorem ggX5_adds_X0_hasPartner : GoodIn wsX5_adds wsX0_hasPartner := goodIn_r _ [39, 35, 60, 61, 62, 63, 64, 65, 66] (by decide +kernel) (by decide +kernel)
set_option maxRecDepth 20000 in
theorem gX5_adds_X0_hasPartner : GoodIn wsX5_adds (wsV RX5 81 RX0 yX0_hasPartner wsX0_hasPartner) := goodIn_app (goodIn_of _ (by decide +kernel)) ggX5_adds_X0_hasPartner
set_option maxRecDepth 20000 in
theorem ggX5_adds_X5_partnerAt : GoodIn wsX5_adds wsX5_partnerAt := goodIn_r _ [27, 14, 28, 29, 1, 15, 16, 17, 18, 19, 20, 21, 22, 8, 23, 50, 51, 52, 53, 54, 55, 56, 57, 58, 59, 68, 69, 60, 61, 62, 63, 64, 65, 66] (by decide +kernel) (by decide +kernel)
set_option maxRecDepth 20000 in
theorem gX5_adds_X5_partnerAt : GoodIn wsX5_adds (wsV RX5 202 RX5 yX5_partnerAt wsX5_partnerAt) := goodIn_app (goodIn_of _ (by decide +kernel)) ggX5_adds_X5_partnerAt
set_option maxRecDepth 20000 in
theorem ggX5_adds_X1_begin : GoodIn wsX5_adds wsX1_begin := goodIn_r _ [44, 45, 67] (by decide +kernel) (by decide +kernel)
set_option maxRecDepth 20000 in
theorem gX5_adds_X1_begin : GoodIn wsX5_adds (wsV RX5 163 RX1 yX1_begin wsX1_begin) := goodIn_app (goodIn_of _ (by decide +kernel)) ggX5_adds_X1_begin
set_option maxRecDepth 20000 in
theorem ggX5_adds_X1_less : GoodIn wsX5_adds wsX1_less := goodIn_r _ [49, 45, 67] (by decide +kernel) (by decide +kernel)
set_option maxRecDepth 20000 in
theorem gX5_adds_X1_less : GoodIn wsX5_adds (wsV RX5 178 RX1 yX1_less wsX1_less) := goodIn_app (goodIn_of _ (by decide +kernel)) ggX5_adds_X1_less
theorem dX5_adds_0 : decode cX5_adds 0 = .ok (.iload_n 1, 1) := by decide +kernel
theorem dX5_adds_1 : decode cX5_adds 1 = .ok (.invokestatic 64, 3) := by decide +kernel
theorem dX5_adds_4 : decode cX5_adds 4 = .ok (.ifCond .eq 24, 3) := by decide +kernel
theorem dX5_adds_7 : decode cX5_adds 7 = .ok (.aload_n 0, 1) := by decide +kernel
theorem dX5_adds_8 : decode cX5_adds 8 = .ok (.iload_n 2, 1) := by decide +kernel
theorem dX5_adds_9 : decode cX5_adds 9 = .ok (.iload_n 3, 1) := by decide +kernel
theorem dX5_adds_10 : decode cX5_adds 10 = .ok (.invokevirtual 199, 3) := by decide +kernel
theorem dX5_adds_13 : decode cX5_adds 13 = .ok (.ifCond .eq 15, 3) := by decide +kernel
theorem dX5_adds_16 : decode cX5_adds 16 = .ok (.aload_n 0, 1) := by decide +kernel
theorem dX5_adds_17 : decode cX5_adds 17 = .ok (.getfield 14, 3) := by decide +kernel
theorem dX5_adds_20 : decode cX5_adds 20 = .ok (.iload 4, 2) := by decide +kernel
theorem dX5_adds_22 : decode cX5_adds 22 = .ok (.invokevirtual 81, 3) := by decide +kernel
theorem dX5_adds_25 : decode cX5_adds 25 = .ok (.ifCond .ne 7, 3) := by decide +kernel
theorem dX5_adds_28 : decode cX5_adds 28 = .ok (.ldc2_w 79, 3) := by decide +kernel
theorem dX5_adds_31 : decode cX5_adds 31 = .ok (.lreturn, 1) := by decide +kernel
theorem dX5_adds_32 : decode cX5_adds 32 = .ok (.iconst 0, 1) := by decide +kernel
theorem dX5_adds_33 : decode cX5_adds 33 = .ok (.istore 5, 2) := by decide +kernel
theorem dX5_adds_35 : decode cX5_adds 35 = .ok (.iconst 0, 1) := by decide +kernel
theorem dX5_adds_36 : decode cX5_adds 36 = .ok (.istore 6, 2) := by decide +kernel
theorem dX5_adds_38 : decode cX5_adds 38 = .ok (.iload 6, 2) := by decide +kernel
theorem dX5_adds_40 : decode cX5_adds 40 = .ok (.iload 4, 2) := by decide +kernel
theorem dX5_adds_42 : decode cX5_adds 42 = .ok (.if_icmp .ge 25, 3) := by decide +kernel
theorem dX5_adds_45 : decode cX5_adds 45 = .ok (.iload 5, 2) := by decide +kernel
theorem dX5_adds_47 : decode cX5_adds 47 = .ok (.iconst 1, 1) := by decide +kernel
theorem dX5_adds_48 : decode cX5_adds 48 = .ok (.aload_n 0, 1) := by decide +kernel
theorem dX5_adds_49 : decode cX5_adds 49 = .ok (.iload_n 2, 1) := by decide +kernel
theorem dX5_adds_50 : decode cX5_adds 50 = .ok (.iload_n 3, 1) := by decide +kernel
theorem dX5_adds_51 : decode cX5_adds 51 = .ok (.iload 6, 2) := by decide +kernel
theorem dX5_adds_53 : decode cX5_adds 53 = .ok (.iadd, 1) := by decide +kernel
theorem dX5_adds_54 : decode cX5_adds 54 = .ok (.invokevirtual 202, 3) := by decide +kernel
theorem dX5_adds_57 : decode cX5_adds 57 = .ok (.ishl, 1) := by decide +kernel
theorem dX5_adds_58 : decode cX5_adds 58 = .ok (.ior, 1) := by decide +kernel
theorem dX5_adds_59 : decode cX5_adds 59 = .ok (.istore 5, 2) := by decide +kernel
theorem dX5_adds_61 : decode cX5_adds 61 = .ok (.iinc 6 1, 3) := by decide +kernel
theorem dX5_adds_64 : decode cX5_adds 64 = .ok (.goto (-26), 3) := by decide +kernel
theorem dX5_adds_67 : decode cX5_adds 67 = .ok (.iload 5, 2) := by decide +kernel
theorem dX5_adds_69 : decode cX5_adds 69 = .ok (.iconst 1, 1) := by decide +kernel
theorem dX5_adds_70 : decode cX5_adds 70 = .ok (.aload_n 0, 1) := by decide +kernel
theorem dX5_adds_71 : decode cX5_adds 71 = .ok (.iload_n 2, 1) := by decide +kernel
theorem dX5_adds_72 : decode cX5_adds 72 = .ok (.iload_n 3, 1) := by decide +kernel
theorem dX5_adds_73 : decode cX5_adds 73 = .ok (.iload 4, 2) := by decide +kernel
theorem dX5_adds_75 : decode cX5_adds 75 = .ok (.iadd, 1) := by decide +kernel
theorem dX5_adds_76 : decode cX5_adds 76 = .ok (.invokevirtual 202, 3) := by decide +kernel
theorem dX5_adds_79 : decode cX5_adds 79 = .ok (.ishl, 1) := by decide +kernel
theorem dX5_adds_80 : decode cX5_adds 80 = .ok (.ior, 1) := by decide +kernel
theorem dX5_adds_81 : decode cX5_adds 81 = .ok (.istore 6, 2) := by decide +kernel
theorem dX5_adds_83 : decode cX5_adds 83 = .ok (.aload_n 0, 1) := by decide +kernel
theorem dX5_adds_84 : decode cX5_adds 84 = .ok (.getfield 45, 3) := by decide +kernel
theorem dX5_adds_87 : decode cX5_adds 87 = .ok (.invokevirtual 163, 3) := by decide +kernel
theorem dX5_adds_90 : decode cX5_adds 90 = .ok (.aload_n 0, 1) := by decide +kernel
theorem dX5_adds_91 : decode cX5_adds 91 = .ok (.getfield 45, 3) := by decide +kernel
theorem dX5_adds_94 : decode cX5_adds 94 = .ok (.aload_n 0, 1) := by decide +kernel
theorem dX5_adds_95 : decode cX5_adds 95 = .ok (.getfield 14, 3) := by decide +kernel
theorem dX5_adds_98 : decode cX5_adds 98 = .ok (.getfield 75, 3) := by decide +kernel
theorem dX5_adds_101 : decode cX5_adds 101 = .ok (.iload_n 1, 1) := by decide +kernel
theorem dX5_adds_102 : decode cX5_adds 102 = .ok (.aaload, 1) := by decide +kernel
theorem dX5_adds_103 : decode cX5_adds 103 = .ok (.iload 6, 2) := by decide +kernel
theorem dX5_adds_105 : decode cX5_adds 105 = .ok (.laload, 1) := by decide +kernel
theorem dX5_adds_106 : decode cX5_adds 106 = .ok (.aload_n 0, 1) := by decide +kernel
theorem dX5_adds_107 : decode cX5_adds 107 = .ok (.getfield 14, 3) := by decide +kernel
theorem dX5_adds_110 : decode cX5_adds 110 = .ok (.getfield 75, 3) := by decide +kernel
theorem dX5_adds_113 : decode cX5_adds 113 = .ok (.iload_n 1, 1) := by decide +kernel
theorem dX5_adds_114 : decode cX5_adds 114 = .ok (.aaload, 1) := by decide +kernel
theorem dX5_adds_115 : decode cX5_adds 115 = .ok (.iload 5, 2) := by decide +kernel
theorem dX5_adds_117 : decode cX5_adds 117 = .ok (.laload, 1) := by decide +kernel
theorem dX5_adds_118 : decode cX5_adds 118 = .ok (.invokevirtual 178, 3) := by decide +kernel
theorem dX5_adds_121 : decode cX5_adds 121 = .ok (.lstore 7, 2) := by decide +kernel
theorem dX5_adds_123 : decode cX5_adds 123 = .ok (.aload_n 0, 1) := by decide +kernel
theorem dX5_adds_124 : decode cX5_adds 124 = .ok (.getfield 45, 3) := by decide +kernel
theorem dX5_adds_127 : decode cX5_adds 127 = .ok (.getfield 185, 3) := by decide +kernel
theorem dX5_adds_130 : decode cX5_adds 130 = .ok (.ifCond .eq 9, 3) := by decide +kernel
theorem dX5_adds_133 : decode cX5_adds 133 = .ok (.ldc2_w 79, 3) := by decide +kernel
theorem dX5_adds_136 : decode cX5_adds 136 = .ok (.goto 5, 3) := by decide +kernel
theorem dX5_adds_139 : decode cX5_adds 139 = .ok (.lload 7, 2) := by decide +kernel
theorem dX5_adds_141 : decode cX5_adds 141 = .ok (.lreturn, 1) := by decide +kernel
set_option maxRecDepth 20000 in
theorem ggX5_pivot_X5_isRow : GoodIn wsX5_pivot wsX5_isRow := goodIn_r _ [6] (by decide +kernel) (by decide +kernel)
set_option maxRecDepth 20000 in
theorem gX5_pivot_X5_isRow : GoodIn wsX5_pivot (va_wsS RX5 205 yX5_isRow wsX5_isRow) := goodIn_app (goodIn_of _ (by decide +kernel)) ggX5_pivot_X5_isRow
set_option maxRecDepth 20000 in
theorem ggX5_pivot_X5_isOrder : GoodIn wsX5_pivot wsX5_isOrder := goodIn_r _ [10, 11, 1, 2, 12, 13, 14, 15, 16, 17, 4, 5, 6, 18, 19, 20, 21, 22, 23, 24, 25, 26, 27, 28, 29, 46, 47, 48, 49, 50, 51, 52, 53, 54, 55, 56, 57, 58, 59, 60, 61, 62, 63, 64] (by decide +kernel) (by decide +kernel)
set_option maxRecDepth 20000 in
theorem gX5_pivot_X5_isOrder : GoodIn wsX5_pivot (wsV RX5 199 RX5 yX5_isOrder wsX5_isOrder) := goodIn_app (goodIn_of _ (by decide +kernel)) ggX5_pivot_X5_isOrder
set_option maxRecDepth 20000 in
theorem ggX5_pivot_X5_partnerAt : GoodIn wsX5_pivot wsX5_partnerAt := goodIn_r _ [21, 11, 22, 23, 1, 2, 12, 13, 14, 15, 16, 17, 4, 5, 6, 46, 47, 48, 49, 50, 51, 52, 53, 54, 55, 63, 64, 56, 57, 58, 59, 60, 61, 62] (by decide +kernel) (by decide +kernel)
set_option maxRecDepth 20000 in
theorem gX5_pivot_X5_partnerAt : GoodIn wsX5_pivot (wsV RX5 202 RX5 yX5_partnerAt wsX5_partnerAt) := goodIn_app (goodIn_of _ (by decide +kernel)) ggX5_pivot_X5_partnerAt
set_option maxRecDepth 20000 in
theorem ggX5_pivot_X0_isSwing : GoodIn wsX5_pivot wsX0_isSwing := goodIn_r _ [33, 34, 5, 35, 36, 37, 38, 27, 39, 40, 41, 42, 43, 44, 29, 45, 56, 57, 58, 59, 60, 61, 62] (by decide +kernel) (by decide +kernel)
set_option maxRecDepth 20000 in
theorem gX5_pivot_X0_isSwing : GoodIn wsX5_pivot (wsV RX5 208 RX0 yX0_isSwing wsX0_isSwing) := goodIn_app (goodIn_of _ (by decide +kernel)) ggX5_pivot_X0_isSwing
theorem dX5_pivot_0 : decode cX5_pivot 0 = .ok (.iload_n 1, 1) := by decide +kernel
theorem dX5_pivot_1 : decode cX5_pivot 1 = .ok (.invokestatic 205, 3) := by decide +kernel
theorem dX5_pivot_4 : decode cX5_pivot 4 = .ok (.ifCond .ne 5, 3) := by decide +kernel
theorem dX5_pivot_7 : decode cX5_pivot 7 = .ok (.iconst (-1), 1) := by decide +kernel
theorem dX5_pivot_8 : decode cX5_pivot 8 = .ok (.ireturn, 1) := by decide +kernel
theorem dX5_pivot_9 : decode cX5_pivot 9 = .ok (.aload_n 0, 1) := by decide +kernel
theorem dX5_pivot_10 : decode cX5_pivot 10 = .ok (.iload_n 1, 1) := by decide +kernel
theorem dX5_pivot_11 : decode cX5_pivot 11 = .ok (.iload_n 2, 1) := by decide +kernel
theorem dX5_pivot_12 : decode cX5_pivot 12 = .ok (.invokevirtual 199, 3) := by decide +kernel
theorem dX5_pivot_15 : decode cX5_pivot 15 = .ok (.ifCond .ne 6, 3) := by decide +kernel
theorem dX5_pivot_18 : decode cX5_pivot 18 = .ok (.bipush (-3), 2) := by decide +kernel
theorem dX5_pivot_20 : decode cX5_pivot 20 = .ok (.ireturn, 1) := by decide +kernel
theorem dX5_pivot_21 : decode cX5_pivot 21 = .ok (.iconst 0, 1) := by decide +kernel
theorem dX5_pivot_22 : decode cX5_pivot 22 = .ok (.istore_n 3, 1) := by decide +kernel
theorem dX5_pivot_23 : decode cX5_pivot 23 = .ok (.iconst 0, 1) := by decide +kernel
theorem dX5_pivot_24 : decode cX5_pivot 24 = .ok (.istore 4, 2) := by decide +kernel
theorem dX5_pivot_26 : decode cX5_pivot 26 = .ok (.iload 4, 2) := by decide +kernel
theorem dX5_pivot_28 : decode cX5_pivot 28 = .ok (.aload_n 0, 1) := by decide +kernel
theorem dX5_pivot_29 : decode cX5_pivot 29 = .ok (.getfield 14, 3) := by decide +kernel
theorem dX5_pivot_32 : decode cX5_pivot 32 = .ok (.getfield 136, 3) := by decide +kernel
theorem dX5_pivot_35 : decode cX5_pivot 35 = .ok (.if_icmp .ge 43, 3) := by decide +kernel
theorem dX5_pivot_38 : decode cX5_pivot 38 = .ok (.aload_n 0, 1) := by decide +kernel
theorem dX5_pivot_39 : decode cX5_pivot 39 = .ok (.iload_n 1, 1) := by decide +kernel
theorem dX5_pivot_40 : decode cX5_pivot 40 = .ok (.iload_n 2, 1) := by decide +kernel
theorem dX5_pivot_41 : decode cX5_pivot 41 = .ok (.iload 4, 2) := by decide +kernel
theorem dX5_pivot_43 : decode cX5_pivot 43 = .ok (.iadd, 1) := by decide +kernel
theorem dX5_pivot_44 : decode cX5_pivot 44 = .ok (.invokevirtual 202, 3) := by decide +kernel
theorem dX5_pivot_47 : decode cX5_pivot 47 = .ok (.istore 5, 2) := by decide +kernel
theorem dX5_pivot_49 : decode cX5_pivot 49 = .ok (.aload_n 0, 1) := by decide +kernel
theorem dX5_pivot_50 : decode cX5_pivot 50 = .ok (.getfield 14, 3) := by decide +kernel
theorem dX5_pivot_53 : decode cX5_pivot 53 = .ok (.iload_n 3, 1) := by decide +kernel
theorem dX5_pivot_54 : decode cX5_pivot 54 = .ok (.iload 5, 2) := by decide +kernel
theorem dX5_pivot_56 : decode cX5_pivot 56 = .ok (.invokevirtual 208, 3) := by decide +kernel
theorem dX5_pivot_59 : decode cX5_pivot 59 = .ok (.ifCond .eq 6, 3) := by decide +kernel
theorem dX5_pivot_62 : decode cX5_pivot 62 = .ok (.iload 5, 2) := by decide +kernel
theorem dX5_pivot_64 : decode cX5_pivot 64 = .ok (.ireturn, 1) := by decide +kernel
theorem dX5_pivot_65 : decode cX5_pivot 65 = .ok (.iload_n 3, 1) := by decide +kernel
theorem dX5_pivot_66 : decode cX5_pivot 66 = .ok (.iconst 1, 1) := by decide +kernel
theorem dX5_pivot_67 : decode cX5_pivot 67 = .ok (.iload 5, 2) := by decide +kernel
theorem dX5_pivot_69 : decode cX5_pivot 69 = .ok (.ishl, 1) := by decide +kernel
theorem dX5_pivot_70 : decode cX5_pivot 70 = .ok (.ior, 1) := by decide +kernel
theorem dX5_pivot_71 : decode cX5_pivot 71 = .ok (.istore_n 3, 1) := by decide +kernel
theorem dX5_pivot_72 : decode cX5_pivot 72 = .ok (.iinc 4 1, 3) := by decide +kernel
theorem dX5_pivot_75 : decode cX5_pivot 75 = .ok (.goto (-49), 3) := by decide +kernel
theorem dX5_pivot_78 : decode cX5_pivot 78 = .ok (.bipush (-5), 2) := by decide +kernel
theorem dX5_pivot_80 : decode cX5_pivot 80 = .ok (.ireturn, 1) := by decide +kernel
set_option maxRecDepth 20000 in
theorem ggX5_share_X5_isGame : GoodIn wsX5_share wsX5_isGame := goodIn_r _ [10] (by decide +kernel) (by decide +kernel)
set_option maxRecDepth 20000 in
theorem gX5_share_X5_isGame : GoodIn wsX5_share (va_wsS RX5 64 yX5_isGame wsX5_isGame) := goodIn_app (goodIn_of _ (by decide +kernel)) ggX5_share_X5_isGame
set_option maxRecDepth 20000 in
theorem ggX5_share_X0_hasPartner : GoodIn wsX5_share wsX0_hasPartner := goodIn_r _ [15, 16, 90, 91, 92, 93, 94, 95, 96] (by decide +kernel) (by decide +kernel)
set_option maxRecDepth 20000 in
theorem gX5_share_X0_hasPartner : GoodIn wsX5_share (wsV RX5 81 RX0 yX0_hasPartner wsX0_hasPartner) := goodIn_app (goodIn_of _ (by decide +kernel)) ggX5_share_X0_hasPartner
set_option maxRecDepth 20000 in
theorem ggX5_share_X5_isPart : GoodIn wsX5_share wsX5_isPart := goodIn_r _ [19] (by decide +kernel) (by decide +kernel)
set_option maxRecDepth 20000 in
theorem gX5_share_X5_isPart : GoodIn wsX5_share (va_wsS RX5 211 yX5_isPart wsX5_isPart) := goodIn_app (goodIn_of _ (by decide +kernel)) ggX5_share_X5_isPart
set_option maxRecDepth 20000 in
theorem ggX5_share_X1_begin : GoodIn wsX5_share wsX1_begin := goodIn_r _ [24, 25, 97] (by decide +kernel) (by decide +kernel)
set_option maxRecDepth 20000 in
theorem gX5_share_X1_begin : GoodIn wsX5_share (wsV RX5 163 RX1 yX1_begin wsX1_begin) := goodIn_app (goodIn_of _ (by decide +kernel)) ggX5_share_X1_begin
set_option maxRecDepth 20000 in
theorem ggX5_share_X5_shareAbove : GoodIn wsX5_share wsX5_shareAbove := goodIn_r _ [29, 1, 3, 30, 31, 32, 14, 33, 16, 34, 35, 9, 36, 37, 38, 39, 40, 41, 42, 43, 23, 44, 25, 45, 46, 47, 48, 6, 49, 50, 51, 52, 53, 54, 55, 56, 57, 58, 59, 60, 61, 62, 63, 64, 65, 66, 67, 68, 69, 80, 81, 82, 83, 84, 85, 86, 87, 88, 89, 90, 91, 92, 93, 94, 95, 96, 97] (by decide +kernel) (by decide +kernel)
set_option maxRecDepth 20000 in
theorem gX5_share_X5_shareAbove : GoodIn wsX5_share (wsV RX5 214 RX5 yX5_shareAbove wsX5_shareAbove) := goodIn_app (goodIn_of _ (by decide +kernel)) ggX5_share_X5_shareAbove
set_option maxRecDepth 20000 in
theorem ggX5_share_X5_factorial : GoodIn wsX5_share wsX5_factorial := goodIn_r _ [58, 59] (by decide +kernel) (by decide +kernel)
set_option maxRecDepth 20000 in
theorem gX5_share_X5_factorial : GoodIn wsX5_share (va_wsS RX5 217 yX5_factorial wsX5_factorial) := goodIn_app (goodIn_of _ (by decide +kernel)) ggX5_share_X5_factorial
set_option maxRecDepth 20000 in
theorem ggX5_share_X5_lowest : GoodIn wsX5_share wsX5_lowest := goodIn_r _ [72, 2, 73, 74, 9, 75, 76, 77, 78, 79] (by decide +kernel) (by decide +kernel)
set_option maxRecDepth 20000 in
theorem gX5_share_X5_lowest : GoodIn wsX5_share (va_wsS RX5 220 yX5_lowest wsX5_lowest) := goodIn_app (goodIn_of _ (by decide +kernel)) ggX5_share_X5_lowest
theorem dX5_share_0 : decode cX5_share 0 = .ok (.iload_n 1, 1) := by decide +kernel
theorem dX5_share_1 : decode cX5_share 1 = .ok (.invokestatic 64, 3) := by decide +kernel
theorem dX5_share_4 : decode cX5_share 4 = .ok (.ifCond .eq 21, 3) := by decide +kernel
theorem dX5_share_7 : decode cX5_share 7 = .ok (.aload_n 0, 1) := by decide +kernel
theorem dX5_share_8 : decode cX5_share 8 = .ok (.getfield 14, 3) := by decide +kernel
theorem dX5_share_11 : decode cX5_share 11 = .ok (.iload_n 2, 1) := by decide +kernel
theorem dX5_share_12 : decode cX5_share 12 = .ok (.invokevirtual 81, 3) := by decide +kernel
theorem dX5_share_15 : decode cX5_share 15 = .ok (.ifCond .eq 10, 3) := by decide +kernel
theorem dX5_share_18 : decode cX5_share 18 = .ok (.iload_n 3, 1) := by decide +kernel
theorem dX5_share_19 : decode cX5_share 19 = .ok (.invokestatic 211, 3) := by decide +kernel
theorem dX5_share_22 : decode cX5_share 22 = .ok (.ifCond .ne 7, 3) := by decide +kernel
theorem dX5_share_25 : decode cX5_share 25 = .ok (.ldc2_w 79, 3) := by decide +kernel
theorem dX5_share_28 : decode cX5_share 28 = .ok (.lreturn, 1) := by decide +kernel
theorem dX5_share_29 : decode cX5_share 29 = .ok (.aload_n 0, 1) := by decide +kernel
theorem dX5_share_30 : decode cX5_share 30 = .ok (.getfield 45, 3) := by decide +kernel
theorem dX5_share_33 : decode cX5_share 33 = .ok (.invokevirtual 163, 3) := by decide +kernel
theorem dX5_share_36 : decode cX5_share 36 = .ok (.aload_n 0, 1) := by decide +kernel
theorem dX5_share_37 : decode cX5_share 37 = .ok (.aload_n 0, 1) := by decide +kernel
theorem dX5_share_38 : decode cX5_share 38 = .ok (.getfield 14, 3) := by decide +kernel
theorem dX5_share_41 : decode cX5_share 41 = .ok (.getfield 75, 3) := by decide +kernel
theorem dX5_share_44 : decode cX5_share 44 = .ok (.iload_n 1, 1) := by decide +kernel
theorem dX5_share_45 : decode cX5_share 45 = .ok (.aaload, 1) := by decide +kernel
theorem dX5_share_46 : decode cX5_share 46 = .ok (.iload_n 2, 1) := by decide +kernel
theorem dX5_share_47 : decode cX5_share 47 = .ok (.invokevirtual 214, 3) := by decide +kernel
theorem dX5_share_50 : decode cX5_share 50 = .ok (.lstore 4, 2) := by decide +kernel
theorem dX5_share_52 : decode cX5_share 52 = .ok (.aload_n 0, 1) := by decide +kernel
theorem dX5_share_53 : decode cX5_share 53 = .ok (.getfield 45, 3) := by decide +kernel
theorem dX5_share_56 : decode cX5_share 56 = .ok (.getfield 185, 3) := by decide +kernel
theorem dX5_share_59 : decode cX5_share 59 = .ok (.ifCond .eq 9, 3) := by decide +kernel
theorem dX5_share_62 : decode cX5_share 62 = .ok (.ldc2_w 79, 3) := by decide +kernel
theorem dX5_share_65 : decode cX5_share 65 = .ok (.goto 20, 3) := by decide +kernel
theorem dX5_share_68 : decode cX5_share 68 = .ok (.lload 4, 2) := by decide +kernel
theorem dX5_share_70 : decode cX5_share 70 = .ok (.aload_n 0, 1) := by decide +kernel
theorem dX5_share_71 : decode cX5_share 71 = .ok (.getfield 14, 3) := by decide +kernel
theorem dX5_share_74 : decode cX5_share 74 = .ok (.getfield 136, 3) := by decide +kernel
theorem dX5_share_77 : decode cX5_share 77 = .ok (.invokestatic 217, 3) := by decide +kernel
theorem dX5_share_80 : decode cX5_share 80 = .ok (.i2l, 1) := by decide +kernel
theorem dX5_share_81 : decode cX5_share 81 = .ok (.iload_n 3, 1) := by decide +kernel
theorem dX5_share_82 : decode cX5_share 82 = .ok (.invokestatic 220, 3) := by decide +kernel
theorem dX5_share_85 : decode cX5_share 85 = .ok (.lreturn, 1) := by decide +kernel
set_option maxRecDepth 20000 in
theorem ggX5_power_X5_isGame : GoodIn wsX5_power wsX5_isGame := goodIn_r _ [9] (by decide +kernel) (by decide +kernel)
set_option maxRecDepth 20000 in
theorem gX5_power_X5_isGame : GoodIn wsX5_power (va_wsS RX5 64 yX5_isGame wsX5_isGame) := goodIn_app (goodIn_of _ (by decide +kernel)) ggX5_power_X5_isGame
set_option maxRecDepth 20000 in
theorem ggX5_power_X0_hasPartner : GoodIn wsX5_power wsX0_hasPartner := goodIn_r _ [14, 15, 51, 52, 53, 54, 55, 56, 57] (by decide +kernel) (by decide +kernel)
set_option maxRecDepth 20000 in
theorem gX5_power_X0_hasPartner : GoodIn wsX5_power (wsV RX5 81 RX0 yX0_hasPartner wsX0_hasPartner) := goodIn_app (goodIn_of _ (by decide +kernel)) ggX5_power_X0_hasPartner
set_option maxRecDepth 20000 in
theorem ggX5_power_X1_begin : GoodIn wsX5_power wsX1_begin := goodIn_r _ [20, 21, 58] (by decide +kernel) (by decide +kernel)
set_option maxRecDepth 20000 in
theorem gX5_power_X1_begin : GoodIn wsX5_power (wsV RX5 163 RX1 yX1_begin wsX1_begin) := goodIn_app (goodIn_of _ (by decide +kernel)) ggX5_power_X1_begin
set_option maxRecDepth 20000 in
theorem ggX5_power_X0_sets : GoodIn wsX5_power wsX0_sets := goodIn_r _ [25, 15, 51, 52, 53, 54, 55, 56, 57] (by decide +kernel) (by decide +kernel)
set_option maxRecDepth 20000 in
theorem gX5_power_X0_sets : GoodIn wsX5_power (wsV RX5 126 RX0 yX0_sets wsX0_sets) := goodIn_app (goodIn_of _ (by decide +kernel)) ggX5_power_X0_sets
set_option maxRecDepth 20000 in
theorem ggX5_power_X5_has : GoodIn wsX5_power wsX5_has := goodIn_r _ [28] (by decide +kernel) (by decide +kernel)
set_option maxRecDepth 20000 in
theorem gX5_power_X5_has : GoodIn wsX5_power (va_wsS RX5 192 yX5_has wsX5_has) := goodIn_app (goodIn_of _ (by decide +kernel)) ggX5_power_X5_has
set_option maxRecDepth 20000 in
theorem ggX5_power_X5_addedBy : GoodIn wsX5_power wsX5_addedBy := goodIn_r _ [32, 4, 33, 34, 35, 19, 36, 21, 41, 42, 43, 44, 45, 46, 47, 48, 49, 50, 58] (by decide +kernel) (by decide +kernel)
set_option maxRecDepth 20000 in
theorem gX5_power_X5_addedBy : GoodIn wsX5_power (wsV RX5 224 RX5 yX5_addedBy wsX5_addedBy) := goodIn_app (goodIn_of _ (by decide +kernel)) ggX5_power_X5_addedBy
set_option maxRecDepth 20000 in
theorem ggX5_power_X1_plus : GoodIn wsX5_power wsX1_plus := goodIn_r _ [40, 21, 58] (by decide +kernel) (by decide +kernel)
set_option maxRecDepth 20000 in
theorem gX5_power_X1_plus : GoodIn wsX5_power (wsV RX5 165 RX1 yX1_plus wsX1_plus) := goodIn_app (goodIn_of _ (by decide +kernel)) ggX5_power_X1_plus
theorem dX5_power_0 : decode cX5_power 0 = .ok (.iload_n 1, 1) := by decide +kernel
theorem dX5_power_1 : decode cX5_power 1 = .ok (.invokestatic 64, 3) := by decide +kernel
theorem dX5_power_4 : decode cX5_power 4 = .ok (.ifCond .eq 14, 3) := by decide +kernel
theorem dX5_power_7 : decode cX5_power 7 = .ok (.aload_n 0, 1) := by decide +kernel
theorem dX5_power_8 : decode cX5_power 8 = .ok (.getfield 14, 3) := by decide +kernel
theorem dX5_power_11 : decode cX5_power 11 = .ok (.iload_n 2, 1) := by decide +kernel
theorem dX5_power_12 : decode cX5_power 12 = .ok (.invokevirtual 81, 3) := by decide +kernel
theorem dX5_power_15 : decode cX5_power 15 = .ok (.ifCond .ne 7, 3) := by decide +kernel
theorem dX5_power_18 : decode cX5_power 18 = .ok (.ldc2_w 79, 3) := by decide +kernel
theorem dX5_power_21 : decode cX5_power 21 = .ok (.lreturn, 1) := by decide +kernel
theorem dX5_power_22 : decode cX5_power 22 = .ok (.aload_n 0, 1) := by decide +kernel
theorem dX5_power_23 : decode cX5_power 23 = .ok (.getfield 14, 3) := by decide +kernel
theorem dX5_power_26 : decode cX5_power 26 = .ok (.getfield 75, 3) := by decide +kernel
theorem dX5_power_29 : decode cX5_power 29 = .ok (.iload_n 1, 1) := by decide +kernel
theorem dX5_power_30 : decode cX5_power 30 = .ok (.aaload, 1) := by decide +kernel
theorem dX5_power_31 : decode cX5_power 31 = .ok (.astore_n 3, 1) := by decide +kernel
theorem dX5_power_32 : decode cX5_power 32 = .ok (.aload_n 0, 1) := by decide +kernel
theorem dX5_power_33 : decode cX5_power 33 = .ok (.getfield 45, 3) := by decide +kernel
theorem dX5_power_36 : decode cX5_power 36 = .ok (.invokevirtual 163, 3) := by decide +kernel
theorem dX5_power_39 : decode cX5_power 39 = .ok (.lconst 0, 1) := by decide +kernel
theorem dX5_power_40 : decode cX5_power 40 = .ok (.lstore 4, 2) := by decide +kernel
theorem dX5_power_42 : decode cX5_power 42 = .ok (.iconst 0, 1) := by decide +kernel
theorem dX5_power_43 : decode cX5_power 43 = .ok (.istore 6, 2) := by decide +kernel
theorem dX5_power_45 : decode cX5_power 45 = .ok (.iload 6, 2) := by decide +kernel
theorem dX5_power_47 : decode cX5_power 47 = .ok (.aload_n 0, 1) := by decide +kernel
theorem dX5_power_48 : decode cX5_power 48 = .ok (.getfield 14, 3) := by decide +kernel
theorem dX5_power_51 : decode cX5_power 51 = .ok (.invokevirtual 126, 3) := by decide +kernel
theorem dX5_power_54 : decode cX5_power 54 = .ok (.if_icmp .ge 37, 3) := by decide +kernel
theorem dX5_power_57 : decode cX5_power 57 = .ok (.iload 6, 2) := by decide +kernel
theorem dX5_power_59 : decode cX5_power 59 = .ok (.iload_n 2, 1) := by decide +kernel
theorem dX5_power_60 : decode cX5_power 60 = .ok (.invokestatic 192, 3) := by decide +kernel
theorem dX5_power_63 : decode cX5_power 63 = .ok (.ifCond .ne 22, 3) := by decide +kernel
theorem dX5_power_66 : decode cX5_power 66 = .ok (.aload_n 0, 1) := by decide +kernel
theorem dX5_power_67 : decode cX5_power 67 = .ok (.getfield 45, 3) := by decide +kernel
theorem dX5_power_70 : decode cX5_power 70 = .ok (.lload 4, 2) := by decide +kernel
theorem dX5_power_72 : decode cX5_power 72 = .ok (.aload_n 0, 1) := by decide +kernel
theorem dX5_power_73 : decode cX5_power 73 = .ok (.aload_n 3, 1) := by decide +kernel
theorem dX5_power_74 : decode cX5_power 74 = .ok (.iload_n 2, 1) := by decide +kernel
theorem dX5_power_75 : decode cX5_power 75 = .ok (.iload 6, 2) := by decide +kernel
theorem dX5_power_77 : decode cX5_power 77 = .ok (.invokevirtual 224, 3) := by decide +kernel
theorem dX5_power_80 : decode cX5_power 80 = .ok (.invokevirtual 165, 3) := by decide +kernel
theorem dX5_power_83 : decode cX5_power 83 = .ok (.lstore 4, 2) := by decide +kernel
theorem dX5_power_85 : decode cX5_power 85 = .ok (.iinc 6 1, 3) := by decide +kernel
theorem dX5_power_88 : decode cX5_power 88 = .ok (.goto (-43), 3) := by decide +kernel
theorem dX5_power_91 : decode cX5_power 91 = .ok (.aload_n 0, 1) := by decide +kernel
theorem dX5_power_92 : decode cX5_power 92 = .ok (.getfield 45, 3) := by decide +kernel
theorem dX5_power_95 : decode cX5_power 95 = .ok (.getfield 185, 3) := by decide +kernel
theorem dX5_power_98 : decode cX5_power 98 = .ok (.ifCond .eq 9, 3) := by decide +kernel
theorem dX5_power_101 : decode cX5_power 101 = .ok (.ldc2_w 79, 3) := by decide +kernel
theorem dX5_power_104 : decode cX5_power 104 = .ok (.goto 5, 3) := by decide +kernel
theorem dX5_power_107 : decode cX5_power 107 = .ok (.lload 4, 2) := by decide +kernel
theorem dX5_power_109 : decode cX5_power 109 = .ok (.lreturn, 1) := by decide +kernel
set_option maxRecDepth 20000 in
theorem ggX5_owen_X5_isGame : GoodIn wsX5_owen wsX5_isGame := goodIn_r _ [10] (by decide +kernel) (by decide +kernel)
set_option maxRecDepth 20000 in
theorem gX5_owen_X5_isGame : GoodIn wsX5_owen (va_wsS RX5 64 yX5_isGame wsX5_isGame) := goodIn_app (goodIn_of _ (by decide +kernel)) ggX5_owen_X5_isGame
set_option maxRecDepth 20000 in
theorem ggX5_owen_X0_hasPartner : GoodIn wsX5_owen wsX0_hasPartner := goodIn_r _ [15, 16, 97, 98, 99, 100, 101, 102, 103] (by decide +kernel) (by decide +kernel)
set_option maxRecDepth 20000 in
theorem gX5_owen_X0_hasPartner : GoodIn wsX5_owen (wsV RX5 81 RX0 yX0_hasPartner wsX0_hasPartner) := goodIn_app (goodIn_of _ (by decide +kernel)) ggX5_owen_X0_hasPartner
set_option maxRecDepth 20000 in
theorem ggX5_owen_X5_isPart : GoodIn wsX5_owen wsX5_isPart := goodIn_r _ [19] (by decide +kernel) (by decide +kernel)
set_option maxRecDepth 20000 in
theorem gX5_owen_X5_isPart : GoodIn wsX5_owen (va_wsS RX5 211 yX5_isPart wsX5_isPart) := goodIn_app (goodIn_of _ (by decide +kernel)) ggX5_owen_X5_isPart
set_option maxRecDepth 20000 in
theorem ggX5_owen_X1_begin : GoodIn wsX5_owen wsX1_begin := goodIn_r _ [24, 25, 104] (by decide +kernel) (by decide +kernel)
set_option maxRecDepth 20000 in
theorem gX5_owen_X1_begin : GoodIn wsX5_owen (wsV RX5 163 RX1 yX1_begin wsX1_begin) := goodIn_app (goodIn_of _ (by decide +kernel)) ggX5_owen_X1_begin
set_option maxRecDepth 20000 in
theorem ggX5_owen_X5_owenAbove : GoodIn wsX5_owen wsX5_owenAbove := goodIn_r _ [29, 1, 5, 3, 30, 31, 32, 33, 34, 35, 36, 37, 38, 39, 14, 40, 16, 41, 42, 9, 43, 44, 45, 46, 47, 48, 49, 50, 51, 52, 53, 54, 55, 56, 57, 58, 59, 60, 61, 62, 63, 64, 65, 23, 66, 25, 67, 68, 69, 70, 71, 72, 73, 74, 75, 76, 87, 88, 89, 90, 91, 92, 93, 94, 95, 96, 97, 98, 99, 100, 101, 102, 103, 104] (by decide +kernel) (by decide +kernel)
set_option maxRecDepth 20000 in
theorem gX5_owen_X5_owenAbove : GoodIn wsX5_owen (wsV RX5 228 RX5 yX5_owenAbove wsX5_owenAbove) := goodIn_app (goodIn_of _ (by decide +kernel)) ggX5_owen_X5_owenAbove
set_option maxRecDepth 20000 in
theorem ggX5_owen_J6_bitCount_0f7a4 : GoodIn wsX5_owen wsJ6_bitCount_0f7a4 := goodIn_r _ [33, 34, 35, 36] (by decide +kernel) (by decide +kernel)
set_option maxRecDepth 20000 in
theorem gX5_owen_J6_bitCount_0f7a4 : GoodIn wsX5_owen (va_wsS RX5 153 yJ6_bitCount_0f7a4 wsJ6_bitCount_0f7a4) := goodIn_app (goodIn_of _ (by decide +kernel)) ggX5_owen_J6_bitCount_0f7a4
set_option maxRecDepth 20000 in
theorem ggX5_owen_X0_countUnions : GoodIn wsX5_owen wsX0_countUnions := goodIn_r _ [40, 16, 41, 42, 9, 43, 44, 45, 46, 97, 98, 99, 100, 101, 102, 103] (by decide +kernel) (by decide +kernel)
set_option maxRecDepth 20000 in
theorem gX5_owen_X0_countUnions : GoodIn wsX5_owen (wsV RX5 231 RX0 yX0_countUnions wsX0_countUnions) := goodIn_app (goodIn_of _ (by decide +kernel)) ggX5_owen_X0_countUnions
set_option maxRecDepth 20000 in
theorem ggX5_owen_X5_factorial : GoodIn wsX5_owen wsX5_factorial := goodIn_r _ [57, 58] (by decide +kernel) (by decide +kernel)
set_option maxRecDepth 20000 in
theorem gX5_owen_X5_factorial : GoodIn wsX5_owen (va_wsS RX5 217 yX5_factorial wsX5_factorial) := goodIn_app (goodIn_of _ (by decide +kernel)) ggX5_owen_X5_factorial
set_option maxRecDepth 20000 in
theorem ggX5_owen_X5_lowest : GoodIn wsX5_owen wsX5_lowest := goodIn_r _ [79, 2, 80, 81, 9, 82, 83, 84, 85, 86] (by decide +kernel) (by decide +kernel)
set_option maxRecDepth 20000 in
theorem gX5_owen_X5_lowest : GoodIn wsX5_owen (va_wsS RX5 220 yX5_lowest wsX5_lowest) := goodIn_app (goodIn_of _ (by decide +kernel)) ggX5_owen_X5_lowest
theorem dX5_owen_0 : decode cX5_owen 0 = .ok (.iload_n 1, 1) := by decide +kernel
theorem dX5_owen_1 : decode cX5_owen 1 = .ok (.invokestatic 64, 3) := by decide +kernel
theorem dX5_owen_4 : decode cX5_owen 4 = .ok (.ifCond .eq 21, 3) := by decide +kernel
theorem dX5_owen_7 : decode cX5_owen 7 = .ok (.aload_n 0, 1) := by decide +kernel
theorem dX5_owen_8 : decode cX5_owen 8 = .ok (.getfield 14, 3) := by decide +kernel
theorem dX5_owen_11 : decode cX5_owen 11 = .ok (.iload_n 2, 1) := by decide +kernel
theorem dX5_owen_12 : decode cX5_owen 12 = .ok (.invokevirtual 81, 3) := by decide +kernel
theorem dX5_owen_15 : decode cX5_owen 15 = .ok (.ifCond .eq 10, 3) := by decide +kernel
theorem dX5_owen_18 : decode cX5_owen 18 = .ok (.iload_n 3, 1) := by decide +kernel
theorem dX5_owen_19 : decode cX5_owen 19 = .ok (.invokestatic 211, 3) := by decide +kernel
theorem dX5_owen_22 : decode cX5_owen 22 = .ok (.ifCond .ne 7, 3) := by decide +kernel
theorem dX5_owen_25 : decode cX5_owen 25 = .ok (.ldc2_w 79, 3) := by decide +kernel
theorem dX5_owen_28 : decode cX5_owen 28 = .ok (.lreturn, 1) := by decide +kernel
theorem dX5_owen_29 : decode cX5_owen 29 = .ok (.aload_n 0, 1) := by decide +kernel
theorem dX5_owen_30 : decode cX5_owen 30 = .ok (.getfield 45, 3) := by decide +kernel
theorem dX5_owen_33 : decode cX5_owen 33 = .ok (.invokevirtual 163, 3) := by decide +kernel
theorem dX5_owen_36 : decode cX5_owen 36 = .ok (.aload_n 0, 1) := by decide +kernel
theorem dX5_owen_37 : decode cX5_owen 37 = .ok (.aload_n 0, 1) := by decide +kernel
theorem dX5_owen_38 : decode cX5_owen 38 = .ok (.getfield 14, 3) := by decide +kernel
theorem dX5_owen_41 : decode cX5_owen 41 = .ok (.getfield 75, 3) := by decide +kernel
theorem dX5_owen_44 : decode cX5_owen 44 = .ok (.iload_n 1, 1) := by decide +kernel
theorem dX5_owen_45 : decode cX5_owen 45 = .ok (.aaload, 1) := by decide +kernel
theorem dX5_owen_46 : decode cX5_owen 46 = .ok (.iload_n 2, 1) := by decide +kernel
theorem dX5_owen_47 : decode cX5_owen 47 = .ok (.invokevirtual 228, 3) := by decide +kernel
theorem dX5_owen_50 : decode cX5_owen 50 = .ok (.lstore 4, 2) := by decide +kernel
theorem dX5_owen_52 : decode cX5_owen 52 = .ok (.aload_n 0, 1) := by decide +kernel
theorem dX5_owen_53 : decode cX5_owen 53 = .ok (.getfield 14, 3) := by decide +kernel
theorem dX5_owen_56 : decode cX5_owen 56 = .ok (.getfield 109, 3) := by decide +kernel
theorem dX5_owen_59 : decode cX5_owen 59 = .ok (.iload_n 2, 1) := by decide +kernel
theorem dX5_owen_60 : decode cX5_owen 60 = .ok (.iaload, 1) := by decide +kernel
theorem dX5_owen_61 : decode cX5_owen 61 = .ok (.invokestatic 153, 3) := by decide +kernel
theorem dX5_owen_64 : decode cX5_owen 64 = .ok (.istore 6, 2) := by decide +kernel
theorem dX5_owen_66 : decode cX5_owen 66 = .ok (.aload_n 0, 1) := by decide +kernel
theorem dX5_owen_67 : decode cX5_owen 67 = .ok (.getfield 14, 3) := by decide +kernel
theorem dX5_owen_70 : decode cX5_owen 70 = .ok (.invokevirtual 231, 3) := by decide +kernel
theorem dX5_owen_73 : decode cX5_owen 73 = .ok (.invokestatic 217, 3) := by decide +kernel
theorem dX5_owen_76 : decode cX5_owen 76 = .ok (.iload 6, 2) := by decide +kernel
theorem dX5_owen_78 : decode cX5_owen 78 = .ok (.invokestatic 217, 3) := by decide +kernel
theorem dX5_owen_81 : decode cX5_owen 81 = .ok (.imul, 1) := by decide +kernel
theorem dX5_owen_82 : decode cX5_owen 82 = .ok (.istore 7, 2) := by decide +kernel
theorem dX5_owen_84 : decode cX5_owen 84 = .ok (.aload_n 0, 1) := by decide +kernel
theorem dX5_owen_85 : decode cX5_owen 85 = .ok (.getfield 45, 3) := by decide +kernel
theorem dX5_owen_88 : decode cX5_owen 88 = .ok (.getfield 185, 3) := by decide +kernel
theorem dX5_owen_91 : decode cX5_owen 91 = .ok (.ifCond .eq 9, 3) := by decide +kernel
theorem dX5_owen_94 : decode cX5_owen 94 = .ok (.ldc2_w 79, 3) := by decide +kernel
theorem dX5_owen_97 : decode cX5_owen 97 = .ok (.goto 12, 3) := by decide +kernel
theorem dX5_owen_100 : decode cX5_owen 100 = .ok (.lload 4, 2) := by decide +kernel
theorem dX5_owen_102 : decode cX5_owen 102 = .ok (.iload 7, 2) := by decide +kernel
theorem dX5_owen_104 : decode cX5_owen 104 = .ok (.i2l, 1) := by decide +kernel
theorem dX5_owen_105 : decode cX5_owen 105 = .ok (.iload_n 3, 1) := by decide +kernel
theorem dX5_owen_106 : decode cX5_owen 106 = .ok (.invokestatic 220, 3) := by decide +kernel
theorem dX5_owen_109 : decode cX5_owen 109 = .ok (.lreturn, 1) := by decide +kernel
set_option maxRecDepth 20000 in
theorem ggX5_dividend_X5_isGame : GoodIn wsX5_dividend wsX5_isGame := goodIn_r _ [10] (by decide +kernel) (by decide +kernel)
set_option maxRecDepth 20000 in
theorem gX5_dividend_X5_isGame : GoodIn wsX5_dividend (va_wsS RX5 64 yX5_isGame wsX5_isGame) := goodIn_app (goodIn_of _ (by decide +kernel)) ggX5_dividend_X5_isGame
set_option maxRecDepth 20000 in
theorem ggX5_dividend_X0_hasSet : GoodIn wsX5_dividend wsX0_hasSet := goodIn_r _ [15, 16, 17, 18, 14, 19, 20, 55, 56, 57, 58, 59, 60, 61] (by decide +kernel) (by decide +kernel)
set_option maxRecDepth 20000 in
theorem gX5_dividend_X0_hasSet : GoodIn wsX5_dividend (wsV RX5 68 RX0 yX0_hasSet wsX0_hasSet) := goodIn_app (goodIn_of _ (by decide +kernel)) ggX5_dividend_X0_hasSet
set_option maxRecDepth 20000 in
theorem ggX5_dividend_X1_begin : GoodIn wsX5_dividend wsX1_begin := goodIn_r _ [25, 26, 62] (by decide +kernel) (by decide +kernel)
set_option maxRecDepth 20000 in
theorem gX5_dividend_X1_begin : GoodIn wsX5_dividend (wsV RX5 163 RX1 yX1_begin wsX1_begin) := goodIn_app (goodIn_of _ (by decide +kernel)) ggX5_dividend_X1_begin
set_option maxRecDepth 20000 in
theorem ggX5_dividend_J6_bitCount_0f7a4 : GoodIn wsX5_dividend wsJ6_bitCount_0f7a4 := goodIn_r _ [30, 31, 32, 33] (by decide +kernel) (by decide +kernel)
set_option maxRecDepth 20000 in
theorem gX5_dividend_J6_bitCount_0f7a4 : GoodIn wsX5_dividend (va_wsS RX5 153 yJ6_bitCount_0f7a4 wsJ6_bitCount_0f7a4) := goodIn_app (goodIn_of _ (by decide +kernel)) ggX5_dividend_J6_bitCount_0f7a4
set_option maxRecDepth 20000 in
theorem ggX5_dividend_X5_nextWithin : GoodIn wsX5_dividend wsX5_nextWithin := goodIn_r _ [36] (by decide +kernel) (by decide +kernel)
set_option maxRecDepth 20000 in
theorem gX5_dividend_X5_nextWithin : GoodIn wsX5_dividend (va_wsS RX5 234 yX5_nextWithin wsX5_nextWithin) := goodIn_app (goodIn_of _ (by decide +kernel)) ggX5_dividend_X5_nextWithin
set_option maxRecDepth 20000 in
theorem ggX5_dividend_X5_lessItsDividends : GoodIn wsX5_dividend wsX5_lessItsDividends := goodIn_r _ [40, 3, 4, 27, 28, 29, 30, 31, 32, 33, 34, 35, 9, 36, 41, 42, 43, 24, 44, 26, 45, 46, 47, 48, 49, 50, 51, 52, 53, 54, 62] (by decide +kernel) (by decide +kernel)
set_option maxRecDepth 20000 in
theorem gX5_dividend_X5_lessItsDividends : GoodIn wsX5_dividend (wsV RX5 237 RX5 yX5_lessItsDividends wsX5_lessItsDividends) := goodIn_app (goodIn_of _ (by decide +kernel)) ggX5_dividend_X5_lessItsDividends
theorem dX5_dividend_0 : decode cX5_dividend 0 = .ok (.iload_n 1, 1) := by decide +kernel
theorem dX5_dividend_1 : decode cX5_dividend 1 = .ok (.invokestatic 64, 3) := by decide +kernel
theorem dX5_dividend_4 : decode cX5_dividend 4 = .ok (.ifCond .eq 14, 3) := by decide +kernel
theorem dX5_dividend_7 : decode cX5_dividend 7 = .ok (.aload_n 0, 1) := by decide +kernel
theorem dX5_dividend_8 : decode cX5_dividend 8 = .ok (.getfield 14, 3) := by decide +kernel
theorem dX5_dividend_11 : decode cX5_dividend 11 = .ok (.iload_n 2, 1) := by decide +kernel
theorem dX5_dividend_12 : decode cX5_dividend 12 = .ok (.invokevirtual 68, 3) := by decide +kernel
theorem dX5_dividend_15 : decode cX5_dividend 15 = .ok (.ifCond .ne 7, 3) := by decide +kernel
theorem dX5_dividend_18 : decode cX5_dividend 18 = .ok (.ldc2_w 79, 3) := by decide +kernel
theorem dX5_dividend_21 : decode cX5_dividend 21 = .ok (.lreturn, 1) := by decide +kernel
theorem dX5_dividend_22 : decode cX5_dividend 22 = .ok (.aload_n 0, 1) := by decide +kernel
theorem dX5_dividend_23 : decode cX5_dividend 23 = .ok (.getfield 45, 3) := by decide +kernel
theorem dX5_dividend_26 : decode cX5_dividend 26 = .ok (.invokevirtual 163, 3) := by decide +kernel
theorem dX5_dividend_29 : decode cX5_dividend 29 = .ok (.aload_n 0, 1) := by decide +kernel
theorem dX5_dividend_30 : decode cX5_dividend 30 = .ok (.getfield 49, 3) := by decide +kernel
theorem dX5_dividend_33 : decode cX5_dividend 33 = .ok (.iconst 0, 1) := by decide +kernel
theorem dX5_dividend_34 : decode cX5_dividend 34 = .ok (.lconst 0, 1) := by decide +kernel
theorem dX5_dividend_35 : decode cX5_dividend 35 = .ok (.lastore, 1) := by decide +kernel
theorem dX5_dividend_36 : decode cX5_dividend 36 = .ok (.iconst 0, 1) := by decide +kernel
theorem dX5_dividend_37 : decode cX5_dividend 37 = .ok (.istore_n 3, 1) := by decide +kernel
theorem dX5_dividend_38 : decode cX5_dividend 38 = .ok (.iconst 1, 1) := by decide +kernel
theorem dX5_dividend_39 : decode cX5_dividend 39 = .ok (.istore 4, 2) := by decide +kernel
theorem dX5_dividend_41 : decode cX5_dividend 41 = .ok (.iload 4, 2) := by decide +kernel
theorem dX5_dividend_43 : decode cX5_dividend 43 = .ok (.iconst 1, 1) := by decide +kernel
theorem dX5_dividend_44 : decode cX5_dividend 44 = .ok (.iload_n 2, 1) := by decide +kernel
theorem dX5_dividend_45 : decode cX5_dividend 45 = .ok (.invokestatic 153, 3) := by decide +kernel
theorem dX5_dividend_48 : decode cX5_dividend 48 = .ok (.ishl, 1) := by decide +kernel
theorem dX5_dividend_49 : decode cX5_dividend 49 = .ok (.if_icmp .ge 37, 3) := by decide +kernel
theorem dX5_dividend_52 : decode cX5_dividend 52 = .ok (.iload_n 3, 1) := by decide +kernel
theorem dX5_dividend_53 : decode cX5_dividend 53 = .ok (.iload_n 2, 1) := by decide +kernel
theorem dX5_dividend_54 : decode cX5_dividend 54 = .ok (.invokestatic 234, 3) := by decide +kernel
theorem dX5_dividend_57 : decode cX5_dividend 57 = .ok (.istore_n 3, 1) := by decide +kernel
theorem dX5_dividend_58 : decode cX5_dividend 58 = .ok (.aload_n 0, 1) := by decide +kernel
theorem dX5_dividend_59 : decode cX5_dividend 59 = .ok (.getfield 49, 3) := by decide +kernel
theorem dX5_dividend_62 : decode cX5_dividend 62 = .ok (.iload_n 3, 1) := by decide +kernel
theorem dX5_dividend_63 : decode cX5_dividend 63 = .ok (.aload_n 0, 1) := by decide +kernel
theorem dX5_dividend_64 : decode cX5_dividend 64 = .ok (.aload_n 0, 1) := by decide +kernel
theorem dX5_dividend_65 : decode cX5_dividend 65 = .ok (.getfield 14, 3) := by decide +kernel
theorem dX5_dividend_68 : decode cX5_dividend 68 = .ok (.getfield 75, 3) := by decide +kernel
theorem dX5_dividend_71 : decode cX5_dividend 71 = .ok (.iload_n 1, 1) := by decide +kernel
theorem dX5_dividend_72 : decode cX5_dividend 72 = .ok (.aaload, 1) := by decide +kernel
theorem dX5_dividend_73 : decode cX5_dividend 73 = .ok (.iload_n 3, 1) := by decide +kernel
theorem dX5_dividend_74 : decode cX5_dividend 74 = .ok (.laload, 1) := by decide +kernel
theorem dX5_dividend_75 : decode cX5_dividend 75 = .ok (.iload_n 3, 1) := by decide +kernel
theorem dX5_dividend_76 : decode cX5_dividend 76 = .ok (.invokevirtual 237, 3) := by decide +kernel
theorem dX5_dividend_79 : decode cX5_dividend 79 = .ok (.lastore, 1) := by decide +kernel
theorem dX5_dividend_80 : decode cX5_dividend 80 = .ok (.iinc 4 1, 3) := by decide +kernel
theorem dX5_dividend_83 : decode cX5_dividend 83 = .ok (.goto (-42), 3) := by decide +kernel
theorem dX5_dividend_86 : decode cX5_dividend 86 = .ok (.aload_n 0, 1) := by decide +kernel
theorem dX5_dividend_87 : decode cX5_dividend 87 = .ok (.getfield 45, 3) := by decide +kernel
theorem dX5_dividend_90 : decode cX5_dividend 90 = .ok (.getfield 185, 3) := by decide +kernel
theorem dX5_dividend_93 : decode cX5_dividend 93 = .ok (.ifCond .eq 9, 3) := by decide +kernel
theorem dX5_dividend_96 : decode cX5_dividend 96 = .ok (.ldc2_w 79, 3) := by decide +kernel
theorem dX5_dividend_99 : decode cX5_dividend 99 = .ok (.goto 9, 3) := by decide +kernel
theorem dX5_dividend_102 : decode cX5_dividend 102 = .ok (.aload_n 0, 1) := by decide +kernel
theorem dX5_dividend_103 : decode cX5_dividend 103 = .ok (.getfield 49, 3) := by decide +kernel
theorem dX5_dividend_106 : decode cX5_dividend 106 = .ok (.iload_n 2, 1) := by decide +kernel
theorem dX5_dividend_107 : decode cX5_dividend 107 = .ok (.laload, 1) := by decide +kernel
theorem dX5_dividend_108 : decode cX5_dividend 108 = .ok (.lreturn, 1) := by decide +kernel
set_option maxRecDepth 20000 in
theorem ggX5_swings_X0_hasPartner : GoodIn wsX5_swings wsX0_hasPartner := goodIn_r _ [6, 7, 59, 60, 61, 62, 63, 64, 65] (by decide +kernel) (by decide +kernel)
set_option maxRecDepth 20000 in
theorem gX5_swings_X0_hasPartner : GoodIn wsX5_swings (wsV RX5 81 RX0 yX0_hasPartner wsX0_hasPartner) := goodIn_app (goodIn_of _ (by decide +kernel)) ggX5_swings_X0_hasPartner
set_option maxRecDepth 20000 in
theorem ggX5_swings_X5_swingsBySets : GoodIn wsX5_swings wsX5_swingsBySets := goodIn_r _ [12, 1, 13, 14, 15, 5, 16, 7, 17, 18, 19, 20, 21, 11, 22, 23, 24, 25, 26, 27, 28, 29, 30, 31, 32, 49, 50, 51, 52, 53, 54, 55, 56, 57, 58, 59, 60, 61, 62, 63, 64, 65] (by decide +kernel) (by decide +kernel)
set_option maxRecDepth 20000 in
theorem gX5_swings_X5_swingsBySets : GoodIn wsX5_swings (wsV RX5 241 RX5 yX5_swingsBySets wsX5_swingsBySets) := goodIn_app (goodIn_of _ (by decide +kernel)) ggX5_swings_X5_swingsBySets
set_option maxRecDepth 20000 in
theorem ggX5_swings_X5_swingsBySums : GoodIn wsX5_swings wsX5_swingsBySums := goodIn_r _ [36, 1, 37, 38, 39, 40, 41, 42, 11, 43, 44, 45, 46, 47, 48, 49, 50, 51, 52, 53, 54, 55, 56, 57, 58, 59, 60, 61, 62, 63, 64, 65] (by decide +kernel) (by decide +kernel)
set_option maxRecDepth 20000 in
theorem gX5_swings_X5_swingsBySums : GoodIn wsX5_swings (wsV RX5 244 RX5 yX5_swingsBySums wsX5_swingsBySums) := goodIn_app (goodIn_of _ (by decide +kernel)) ggX5_swings_X5_swingsBySums
theorem dX5_swings_0 : decode cX5_swings 0 = .ok (.aload_n 0, 1) := by decide +kernel
theorem dX5_swings_1 : decode cX5_swings 1 = .ok (.getfield 14, 3) := by decide +kernel
theorem dX5_swings_4 : decode cX5_swings 4 = .ok (.iload_n 1, 1) := by decide +kernel
theorem dX5_swings_5 : decode cX5_swings 5 = .ok (.invokevirtual 81, 3) := by decide +kernel
theorem dX5_swings_8 : decode cX5_swings 8 = .ok (.ifCond .eq 12, 3) := by decide +kernel
theorem dX5_swings_11 : decode cX5_swings 11 = .ok (.iload_n 2, 1) := by decide +kernel
theorem dX5_swings_12 : decode cX5_swings 12 = .ok (.ifCond .eq 10, 3) := by decide +kernel
theorem dX5_swings_15 : decode cX5_swings 15 = .ok (.iload_n 2, 1) := by decide +kernel
theorem dX5_swings_16 : decode cX5_swings 16 = .ok (.iconst 1, 1) := by decide +kernel
theorem dX5_swings_17 : decode cX5_swings 17 = .ok (.if_icmp .eq 5, 3) := by decide +kernel
theorem dX5_swings_20 : decode cX5_swings 20 = .ok (.iconst (-1), 1) := by decide +kernel
theorem dX5_swings_21 : decode cX5_swings 21 = .ok (.ireturn, 1) := by decide +kernel
theorem dX5_swings_22 : decode cX5_swings 22 = .ok (.iload_n 2, 1) := by decide +kernel
theorem dX5_swings_23 : decode cX5_swings 23 = .ok (.ifCond .ne 11, 3) := by decide +kernel
theorem dX5_swings_26 : decode cX5_swings 26 = .ok (.aload_n 0, 1) := by decide +kernel
theorem dX5_swings_27 : decode cX5_swings 27 = .ok (.iload_n 1, 1) := by decide +kernel
theorem dX5_swings_28 : decode cX5_swings 28 = .ok (.invokevirtual 241, 3) := by decide +kernel
theorem dX5_swings_31 : decode cX5_swings 31 = .ok (.goto 8, 3) := by decide +kernel
theorem dX5_swings_34 : decode cX5_swings 34 = .ok (.aload_n 0, 1) := by decide +kernel
theorem dX5_swings_35 : decode cX5_swings 35 = .ok (.iload_n 1, 1) := by decide +kernel
theorem dX5_swings_36 : decode cX5_swings 36 = .ok (.invokevirtual 244, 3) := by decide +kernel
theorem dX5_swings_39 : decode cX5_swings 39 = .ok (.ireturn, 1) := by decide +kernel
set_option maxRecDepth 20000 in
theorem ggX5_pivots_X0_hasPartner : GoodIn wsX5_pivots wsX0_hasPartner := goodIn_r _ [8, 9, 69, 70, 71, 72, 73, 74, 75] (by decide +kernel) (by decide +kernel)
set_option maxRecDepth 20000 in
theorem gX5_pivots_X0_hasPartner : GoodIn wsX5_pivots (wsV RX5 81 RX0 yX0_hasPartner wsX0_hasPartner) := goodIn_app (goodIn_of _ (by decide +kernel)) ggX5_pivots_X0_hasPartner
set_option maxRecDepth 20000 in
theorem ggX5_pivots_X5_isPart : GoodIn wsX5_pivots wsX5_isPart := goodIn_r _ [13] (by decide +kernel) (by decide +kernel)
set_option maxRecDepth 20000 in
theorem gX5_pivots_X5_isPart : GoodIn wsX5_pivots (va_wsS RX5 211 yX5_isPart wsX5_isPart) := goodIn_app (goodIn_of _ (by decide +kernel)) ggX5_pivots_X5_isPart
set_option maxRecDepth 20000 in
theorem ggX5_pivots_X0_sets : GoodIn wsX5_pivots wsX0_sets := goodIn_r _ [17, 9, 69, 70, 71, 72, 73, 74, 75] (by decide +kernel) (by decide +kernel)
set_option maxRecDepth 20000 in
theorem gX5_pivots_X0_sets : GoodIn wsX5_pivots (wsV RX5 126 RX0 yX0_sets wsX0_sets) := goodIn_app (goodIn_of _ (by decide +kernel)) ggX5_pivots_X0_sets
set_option maxRecDepth 20000 in
theorem ggX5_pivots_X0_isSwing : GoodIn wsX5_pivots wsX0_isSwing := goodIn_r _ [21, 22, 12, 23, 24, 25, 26, 7, 27, 28, 29, 30, 31, 32, 9, 33, 69, 70, 71, 72, 73, 74, 75] (by decide +kernel) (by decide +kernel)
set_option maxRecDepth 20000 in
theorem gX5_pivots_X0_isSwing : GoodIn wsX5_pivots (wsV RX5 208 RX0 yX0_isSwing wsX0_isSwing) := goodIn_app (goodIn_of _ (by decide +kernel)) ggX5_pivots_X0_isSwing
set_option maxRecDepth 20000 in
theorem ggX5_pivots_X5_ordersAround : GoodIn wsX5_pivots wsX5_ordersAround := goodIn_r _ [37, 1, 3, 38, 39, 40, 41, 42, 43, 44, 45, 46, 12, 47, 48, 59, 60, 61, 62, 63, 64, 65, 66, 67, 68, 69, 70, 71, 72, 73, 74, 75] (by decide +kernel) (by decide +kernel)
set_option maxRecDepth 20000 in
theorem gX5_pivots_X5_ordersAround : GoodIn wsX5_pivots (wsV RX5 247 RX5 yX5_ordersAround wsX5_ordersAround) := goodIn_app (goodIn_of _ (by decide +kernel)) ggX5_pivots_X5_ordersAround
set_option maxRecDepth 20000 in
theorem ggX5_pivots_X5_factorial : GoodIn wsX5_pivots wsX5_factorial := goodIn_r _ [47, 48] (by decide +kernel) (by decide +kernel)
set_option maxRecDepth 20000 in
theorem gX5_pivots_X5_factorial : GoodIn wsX5_pivots (va_wsS RX5 217 yX5_factorial wsX5_factorial) := goodIn_app (goodIn_of _ (by decide +kernel)) ggX5_pivots_X5_factorial
set_option maxRecDepth 20000 in
theorem ggX5_pivots_X5_lowest : GoodIn wsX5_pivots wsX5_lowest := goodIn_r _ [51, 2, 52, 53, 12, 54, 55, 56, 57, 58] (by decide +kernel) (by decide +kernel)
set_option maxRecDepth 20000 in
theorem gX5_pivots_X5_lowest : GoodIn wsX5_pivots (va_wsS RX5 220 yX5_lowest wsX5_lowest) := goodIn_app (goodIn_of _ (by decide +kernel)) ggX5_pivots_X5_lowest
theorem dX5_pivots_0 : decode cX5_pivots 0 = .ok (.aload_n 0, 1) := by decide +kernel
theorem dX5_pivots_1 : decode cX5_pivots 1 = .ok (.getfield 14, 3) := by decide +kernel
theorem dX5_pivots_4 : decode cX5_pivots 4 = .ok (.iload_n 1, 1) := by decide +kernel
theorem dX5_pivots_5 : decode cX5_pivots 5 = .ok (.invokevirtual 81, 3) := by decide +kernel
theorem dX5_pivots_8 : decode cX5_pivots 8 = .ok (.ifCond .eq 10, 3) := by decide +kernel
theorem dX5_pivots_11 : decode cX5_pivots 11 = .ok (.iload_n 2, 1) := by decide +kernel
theorem dX5_pivots_12 : decode cX5_pivots 12 = .ok (.invokestatic 211, 3) := by decide +kernel
theorem dX5_pivots_15 : decode cX5_pivots 15 = .ok (.ifCond .ne 7, 3) := by decide +kernel
theorem dX5_pivots_18 : decode cX5_pivots 18 = .ok (.ldc2_w 79, 3) := by decide +kernel
theorem dX5_pivots_21 : decode cX5_pivots 21 = .ok (.lreturn, 1) := by decide +kernel
theorem dX5_pivots_22 : decode cX5_pivots 22 = .ok (.lconst 0, 1) := by decide +kernel
theorem dX5_pivots_23 : decode cX5_pivots 23 = .ok (.lstore_n 3, 1) := by decide +kernel
theorem dX5_pivots_24 : decode cX5_pivots 24 = .ok (.iconst 0, 1) := by decide +kernel
theorem dX5_pivots_25 : decode cX5_pivots 25 = .ok (.istore 5, 2) := by decide +kernel
theorem dX5_pivots_27 : decode cX5_pivots 27 = .ok (.iload 5, 2) := by decide +kernel
theorem dX5_pivots_29 : decode cX5_pivots 29 = .ok (.aload_n 0, 1) := by decide +kernel
theorem dX5_pivots_30 : decode cX5_pivots 30 = .ok (.getfield 14, 3) := by decide +kernel
theorem dX5_pivots_33 : decode cX5_pivots 33 = .ok (.invokevirtual 126, 3) := by decide +kernel
theorem dX5_pivots_36 : decode cX5_pivots 36 = .ok (.if_icmp .ge 32, 3) := by decide +kernel
theorem dX5_pivots_39 : decode cX5_pivots 39 = .ok (.aload_n 0, 1) := by decide +kernel
theorem dX5_pivots_40 : decode cX5_pivots 40 = .ok (.getfield 14, 3) := by decide +kernel
theorem dX5_pivots_43 : decode cX5_pivots 43 = .ok (.iload 5, 2) := by decide +kernel
theorem dX5_pivots_45 : decode cX5_pivots 45 = .ok (.iload_n 1, 1) := by decide +kernel
theorem dX5_pivots_46 : decode cX5_pivots 46 = .ok (.invokevirtual 208, 3) := by decide +kernel
theorem dX5_pivots_49 : decode cX5_pivots 49 = .ok (.ifCond .eq 13, 3) := by decide +kernel
theorem dX5_pivots_52 : decode cX5_pivots 52 = .ok (.lload_n 3, 1) := by decide +kernel
theorem dX5_pivots_53 : decode cX5_pivots 53 = .ok (.aload_n 0, 1) := by decide +kernel
theorem dX5_pivots_54 : decode cX5_pivots 54 = .ok (.iload 5, 2) := by decide +kernel
theorem dX5_pivots_56 : decode cX5_pivots 56 = .ok (.invokevirtual 247, 3) := by decide +kernel
theorem dX5_pivots_59 : decode cX5_pivots 59 = .ok (.i2l, 1) := by decide +kernel
theorem dX5_pivots_60 : decode cX5_pivots 60 = .ok (.ladd, 1) := by decide +kernel
theorem dX5_pivots_61 : decode cX5_pivots 61 = .ok (.lstore_n 3, 1) := by decide +kernel
theorem dX5_pivots_62 : decode cX5_pivots 62 = .ok (.iinc 5 1, 3) := by decide +kernel
theorem dX5_pivots_65 : decode cX5_pivots 65 = .ok (.goto (-38), 3) := by decide +kernel
theorem dX5_pivots_68 : decode cX5_pivots 68 = .ok (.lload_n 3, 1) := by decide +kernel
theorem dX5_pivots_69 : decode cX5_pivots 69 = .ok (.aload_n 0, 1) := by decide +kernel
theorem dX5_pivots_70 : decode cX5_pivots 70 = .ok (.getfield 14, 3) := by decide +kernel
theorem dX5_pivots_73 : decode cX5_pivots 73 = .ok (.getfield 136, 3) := by decide +kernel
theorem dX5_pivots_76 : decode cX5_pivots 76 = .ok (.invokestatic 217, 3) := by decide +kernel
theorem dX5_pivots_79 : decode cX5_pivots 79 = .ok (.i2l, 1) := by decide +kernel
theorem dX5_pivots_80 : decode cX5_pivots 80 = .ok (.iload_n 2, 1) := by decide +kernel
theorem dX5_pivots_81 : decode cX5_pivots 81 = .ok (.invokestatic 220, 3) := by decide +kernel
theorem dX5_pivots_84 : decode cX5_pivots 84 = .ok (.lreturn, 1) := by decide +kernel
set_option maxRecDepth 20000 in
theorem ggX5_holder_X0_hasPartner : GoodIn wsX5_holder wsX0_hasPartner := goodIn_r _ [8, 9, 62, 63, 64, 65, 66, 67, 68] (by decide +kernel) (by decide +kernel)
set_option maxRecDepth 20000 in
theorem gX5_holder_X0_hasPartner : GoodIn wsX5_holder (wsV RX5 81 RX0 yX0_hasPartner wsX0_hasPartner) := goodIn_app (goodIn_of _ (by decide +kernel)) ggX5_holder_X0_hasPartner
set_option maxRecDepth 20000 in
theorem ggX5_holder_X5_isPart : GoodIn wsX5_holder wsX5_isPart := goodIn_r _ [13] (by decide +kernel) (by decide +kernel)
set_option maxRecDepth 20000 in
theorem gX5_holder_X5_isPart : GoodIn wsX5_holder (va_wsS RX5 211 yX5_isPart wsX5_isPart) := goodIn_app (goodIn_of _ (by decide +kernel)) ggX5_holder_X5_isPart
set_option maxRecDepth 20000 in
theorem ggX5_holder_X0_sets : GoodIn wsX5_holder wsX0_sets := goodIn_r _ [17, 9, 62, 63, 64, 65, 66, 67, 68] (by decide +kernel) (by decide +kernel)
set_option maxRecDepth 20000 in
theorem gX5_holder_X0_sets : GoodIn wsX5_holder (wsV RX5 126 RX0 yX0_sets wsX0_sets) := goodIn_app (goodIn_of _ (by decide +kernel)) ggX5_holder_X0_sets
set_option maxRecDepth 20000 in
theorem ggX5_holder_X0_winsBarely : GoodIn wsX5_holder wsX0_winsBarely := goodIn_r _ [21, 9, 22, 23, 24, 7, 25, 26, 27, 28, 29, 30, 31, 32, 12, 33, 62, 63, 64, 65, 66, 67, 68] (by decide +kernel) (by decide +kernel)
set_option maxRecDepth 20000 in
theorem gX5_holder_X0_winsBarely : GoodIn wsX5_holder (wsV RX5 250 RX0 yX0_winsBarely wsX0_winsBarely) := goodIn_app (goodIn_of _ (by decide +kernel)) ggX5_holder_X0_winsBarely
set_option maxRecDepth 20000 in
theorem ggX5_holder_X5_has : GoodIn wsX5_holder wsX5_has := goodIn_r _ [33] (by decide +kernel) (by decide +kernel)
set_option maxRecDepth 20000 in
theorem gX5_holder_X5_has : GoodIn wsX5_holder (va_wsS RX5 192 yX5_has wsX5_has) := goodIn_app (goodIn_of _ (by decide +kernel)) ggX5_holder_X5_has
set_option maxRecDepth 20000 in
theorem ggX5_holder_J6_bitCount_0f7a4 : GoodIn wsX5_holder wsJ6_bitCount_0f7a4 := goodIn_r _ [38, 39, 40, 41] (by decide +kernel) (by decide +kernel)
set_option maxRecDepth 20000 in
theorem gX5_holder_J6_bitCount_0f7a4 : GoodIn wsX5_holder (va_wsS RX5 153 yJ6_bitCount_0f7a4 wsJ6_bitCount_0f7a4) := goodIn_app (goodIn_of _ (by decide +kernel)) ggX5_holder_J6_bitCount_0f7a4
set_option maxRecDepth 20000 in
theorem ggX5_holder_X5_lowest : GoodIn wsX5_holder wsX5_lowest := goodIn_r _ [44, 2, 45, 46, 12, 47, 48, 49, 50, 51] (by decide +kernel) (by decide +kernel)
set_option maxRecDepth 20000 in
theorem gX5_holder_X5_lowest : GoodIn wsX5_holder (va_wsS RX5 220 yX5_lowest wsX5_lowest) := goodIn_app (goodIn_of _ (by decide +kernel)) ggX5_holder_X5_lowest
theorem dX5_holder_0 : decode cX5_holder 0 = .ok (.aload_n 0, 1) := by decide +kernel
theorem dX5_holder_1 : decode cX5_holder 1 = .ok (.getfield 14, 3) := by decide +kernel
theorem dX5_holder_4 : decode cX5_holder 4 = .ok (.iload_n 1, 1) := by decide +kernel
theorem dX5_holder_5 : decode cX5_holder 5 = .ok (.invokevirtual 81, 3) := by decide +kernel
theorem dX5_holder_8 : decode cX5_holder 8 = .ok (.ifCond .eq 10, 3) := by decide +kernel
theorem dX5_holder_11 : decode cX5_holder 11 = .ok (.iload_n 2, 1) := by decide +kernel
theorem dX5_holder_12 : decode cX5_holder 12 = .ok (.invokestatic 211, 3) := by decide +kernel
theorem dX5_holder_15 : decode cX5_holder 15 = .ok (.ifCond .ne 7, 3) := by decide +kernel
theorem dX5_holder_18 : decode cX5_holder 18 = .ok (.ldc2_w 79, 3) := by decide +kernel
theorem dX5_holder_21 : decode cX5_holder 21 = .ok (.lreturn, 1) := by decide +kernel
theorem dX5_holder_22 : decode cX5_holder 22 = .ok (.iconst 0, 1) := by decide +kernel
theorem dX5_holder_23 : decode cX5_holder 23 = .ok (.istore_n 3, 1) := by decide +kernel
theorem dX5_holder_24 : decode cX5_holder 24 = .ok (.lconst 0, 1) := by decide +kernel
theorem dX5_holder_25 : decode cX5_holder 25 = .ok (.lstore 4, 2) := by decide +kernel
theorem dX5_holder_27 : decode cX5_holder 27 = .ok (.iconst 1, 1) := by decide +kernel
theorem dX5_holder_28 : decode cX5_holder 28 = .ok (.istore 6, 2) := by decide +kernel
theorem dX5_holder_30 : decode cX5_holder 30 = .ok (.iload 6, 2) := by decide +kernel
theorem dX5_holder_32 : decode cX5_holder 32 = .ok (.aload_n 0, 1) := by decide +kernel
theorem dX5_holder_33 : decode cX5_holder 33 = .ok (.getfield 14, 3) := by decide +kernel
theorem dX5_holder_36 : decode cX5_holder 36 = .ok (.invokevirtual 126, 3) := by decide +kernel
theorem dX5_holder_39 : decode cX5_holder 39 = .ok (.if_icmp .ge 52, 3) := by decide +kernel
theorem dX5_holder_42 : decode cX5_holder 42 = .ok (.aload_n 0, 1) := by decide +kernel
theorem dX5_holder_43 : decode cX5_holder 43 = .ok (.getfield 14, 3) := by decide +kernel
theorem dX5_holder_46 : decode cX5_holder 46 = .ok (.iload 6, 2) := by decide +kernel
theorem dX5_holder_48 : decode cX5_holder 48 = .ok (.invokevirtual 250, 3) := by decide +kernel
theorem dX5_holder_51 : decode cX5_holder 51 = .ok (.ifCond .eq 34, 3) := by decide +kernel
theorem dX5_holder_54 : decode cX5_holder 54 = .ok (.iinc 3 1, 3) := by decide +kernel
theorem dX5_holder_57 : decode cX5_holder 57 = .ok (.lload 4, 2) := by decide +kernel
theorem dX5_holder_59 : decode cX5_holder 59 = .ok (.iload 6, 2) := by decide +kernel
theorem dX5_holder_61 : decode cX5_holder 61 = .ok (.iload_n 1, 1) := by decide +kernel
theorem dX5_holder_62 : decode cX5_holder 62 = .ok (.invokestatic 192, 3) := by decide +kernel
theorem dX5_holder_65 : decode cX5_holder 65 = .ok (.ifCond .eq 16, 3) := by decide +kernel
theorem dX5_holder_68 : decode cX5_holder 68 = .ok (.sipush 2520, 3) := by decide +kernel
theorem dX5_holder_71 : decode cX5_holder 71 = .ok (.iload 6, 2) := by decide +kernel
theorem dX5_holder_73 : decode cX5_holder 73 = .ok (.invokestatic 153, 3) := by decide +kernel
theorem dX5_holder_76 : decode cX5_holder 76 = .ok (.idiv, 1) := by decide +kernel
theorem dX5_holder_77 : decode cX5_holder 77 = .ok (.i2l, 1) := by decide +kernel
theorem dX5_holder_78 : decode cX5_holder 78 = .ok (.goto 4, 3) := by decide +kernel
theorem dX5_holder_81 : decode cX5_holder 81 = .ok (.lconst 0, 1) := by decide +kernel
theorem dX5_holder_82 : decode cX5_holder 82 = .ok (.ladd, 1) := by decide +kernel
theorem dX5_holder_83 : decode cX5_holder 83 = .ok (.lstore 4, 2) := by decide +kernel
theorem dX5_holder_85 : decode cX5_holder 85 = .ok (.iinc 6 1, 3) := by decide +kernel
theorem dX5_holder_88 : decode cX5_holder 88 = .ok (.goto (-58), 3) := by decide +kernel
theorem dX5_holder_91 : decode cX5_holder 91 = .ok (.iload_n 3, 1) := by decide +kernel
theorem dX5_holder_92 : decode cX5_holder 92 = .ok (.ifCond .ne 6, 3) := by decide +kernel
theorem dX5_holder_95 : decode cX5_holder 95 = .ok (.iload_n 2, 1) := by decide +kernel
theorem dX5_holder_96 : decode cX5_holder 96 = .ok (.i2l, 1) := by decide +kernel
theorem dX5_holder_97 : decode cX5_holder 97 = .ok (.lreturn, 1) := by decide +kernel
theorem dX5_holder_98 : decode cX5_holder 98 = .ok (.lload 4, 2) := by decide +kernel
theorem dX5_holder_100 : decode cX5_holder 100 = .ok (.ldc2_w 253, 3) := by decide +kernel
theorem dX5_holder_103 : decode cX5_holder 103 = .ok (.iload_n 3, 1) := by decide +kernel
theorem dX5_holder_104 : decode cX5_holder 104 = .ok (.i2l, 1) := by decide +kernel
theorem dX5_holder_105 : decode cX5_holder 105 = .ok (.lmul, 1) := by decide +kernel
theorem dX5_holder_106 : decode cX5_holder 106 = .ok (.iload_n 2, 1) := by decide +kernel
theorem dX5_holder_107 : decode cX5_holder 107 = .ok (.invokestatic 220, 3) := by decide +kernel
theorem dX5_holder_110 : decode cX5_holder 110 = .ok (.lreturn, 1) := by decide +kernel
set_option maxRecDepth 20000 in
theorem ggX5_votes_X5_countWinning : GoodIn wsX5_votes wsX5_countWinning := goodIn_r _ [5, 6, 7, 8, 9, 10, 11, 12, 13, 14, 15, 16, 17, 18, 19, 20, 21, 22, 23, 4, 24, 45, 46, 47, 48, 49, 50, 51, 52, 53, 54, 55, 56, 57, 58, 59, 60, 61] (by decide +kernel) (by decide +kernel)
set_option maxRecDepth 20000 in
theorem gX5_votes_X5_countWinning : GoodIn wsX5_votes (wsV RX5 255 RX5 yX5_countWinning wsX5_countWinning) := goodIn_app (goodIn_of _ (by decide +kernel)) ggX5_votes_X5_countWinning
set_option maxRecDepth 20000 in
theorem ggX5_votes_X5_countBarelyWinning : GoodIn wsX5_votes wsX5_countBarelyWinning := goodIn_r _ [28, 6, 7, 8, 9, 10, 11, 12, 29, 30, 31, 32, 33, 14, 15, 16, 17, 18, 19, 20, 21, 22, 23, 4, 24, 45, 46, 47, 48, 49, 50, 51, 52, 53, 54, 55, 56, 57, 58, 59, 60, 61] (by decide +kernel) (by decide +kernel)
set_option maxRecDepth 20000 in
theorem gX5_votes_X5_countBarelyWinning : GoodIn wsX5_votes (wsV RX5 258 RX5 yX5_countBarelyWinning wsX5_countBarelyWinning) := goodIn_app (goodIn_of _ (by decide +kernel)) ggX5_votes_X5_countBarelyWinning
set_option maxRecDepth 20000 in
theorem ggX5_votes_X5_smallestWinning : GoodIn wsX5_votes wsX5_smallestWinning := goodIn_r _ [37, 6, 7, 8, 9, 10, 11, 12, 38, 39, 40, 41, 42, 43, 44, 13, 14, 15, 16, 17, 18, 19, 20, 21, 22, 23, 4, 24, 45, 46, 47, 48, 49, 50, 51, 52, 53, 54, 55, 56, 57, 58, 59, 60, 61] (by decide +kernel) (by decide +kernel)
set_option maxRecDepth 20000 in
theorem gX5_votes_X5_smallestWinning : GoodIn wsX5_votes (wsV RX5 261 RX5 yX5_smallestWinning wsX5_smallestWinning) := goodIn_app (goodIn_of _ (by decide +kernel)) ggX5_votes_X5_smallestWinning
theorem dX5_votes_0 : decode cX5_votes 0 = .ok (.iload_n 1, 1) := by decide +kernel
theorem dX5_votes_1 : decode cX5_votes 1 = .ok (.tableswitch 42 0 2 #[27, 32, 37], 27) := by decide +kernel
theorem dX5_votes_28 : decode cX5_votes 28 = .ok (.aload_n 0, 1) := by decide +kernel
theorem dX5_votes_29 : decode cX5_votes 29 = .ok (.invokevirtual 255, 3) := by decide +kernel
theorem dX5_votes_32 : decode cX5_votes 32 = .ok (.ireturn, 1) := by decide +kernel
theorem dX5_votes_33 : decode cX5_votes 33 = .ok (.aload_n 0, 1) := by decide +kernel
theorem dX5_votes_34 : decode cX5_votes 34 = .ok (.invokevirtual 258, 3) := by decide +kernel
theorem dX5_votes_37 : decode cX5_votes 37 = .ok (.ireturn, 1) := by decide +kernel
theorem dX5_votes_38 : decode cX5_votes 38 = .ok (.aload_n 0, 1) := by decide +kernel
theorem dX5_votes_39 : decode cX5_votes 39 = .ok (.invokevirtual 261, 3) := by decide +kernel
theorem dX5_votes_42 : decode cX5_votes 42 = .ok (.ireturn, 1) := by decide +kernel
theorem dX5_votes_43 : decode cX5_votes 43 = .ok (.iconst (-1), 1) := by decide +kernel
theorem dX5_votes_44 : decode cX5_votes 44 = .ok (.ireturn, 1) := by decide +kernel
set_option maxRecDepth 20000 in
theorem ggX5_kind_X5_isGame : GoodIn wsX5_kind wsX5_isGame := goodIn_r _ [7] (by decide +kernel) (by decide +kernel)
set_option maxRecDepth 20000 in
theorem gX5_kind_X5_isGame : GoodIn wsX5_kind (va_wsS RX5 64 yX5_isGame wsX5_isGame) := goodIn_app (goodIn_of _ (by decide +kernel)) ggX5_kind_X5_isGame
set_option maxRecDepth 20000 in
theorem ggX5_kind_X5_isOfKind : GoodIn wsX5_kind wsX5_isOfKind := goodIn_r _ [11, 12, 13, 14, 6, 15, 1, 16, 17, 18, 19, 20, 21, 22, 23, 24, 25, 26, 27, 28, 29, 30, 31, 32, 33, 34, 35, 36, 37, 38, 39, 40, 41, 42, 43, 44, 45, 46, 47, 48, 49, 50, 51, 52, 53, 54, 62, 55, 56, 57, 58, 59, 60, 61] (by decide +kernel) (by decide +kernel)
set_option maxRecDepth 20000 in
theorem gX5_kind_X5_isOfKind : GoodIn wsX5_kind (wsV RX5 264 RX5 yX5_isOfKind wsX5_isOfKind) := goodIn_app (goodIn_of _ (by decide +kernel)) ggX5_kind_X5_isOfKind
theorem dX5_kind_0 : decode cX5_kind 0 = .ok (.iload_n 1, 1) := by decide +kernel
theorem dX5_kind_1 : decode cX5_kind 1 = .ok (.invokestatic 64, 3) := by decide +kernel
theorem dX5_kind_4 : decode cX5_kind 4 = .ok (.ifCond .eq 12, 3) := by decide +kernel
theorem dX5_kind_7 : decode cX5_kind 7 = .ok (.iload_n 2, 1) := by decide +kernel
theorem dX5_kind_8 : decode cX5_kind 8 = .ok (.ifCond .lt 8, 3) := by decide +kernel
theorem dX5_kind_11 : decode cX5_kind 11 = .ok (.iload_n 2, 1) := by decide +kernel
theorem dX5_kind_12 : decode cX5_kind 12 = .ok (.iconst 2, 1) := by decide +kernel
theorem dX5_kind_13 : decode cX5_kind 13 = .ok (.if_icmp .le 5, 3) := by decide +kernel
theorem dX5_kind_16 : decode cX5_kind 16 = .ok (.iconst (-1), 1) := by decide +kernel
theorem dX5_kind_17 : decode cX5_kind 17 = .ok (.ireturn, 1) := by decide +kernel
theorem dX5_kind_18 : decode cX5_kind 18 = .ok (.iconst 0, 1) := by decide +kernel
theorem dX5_kind_19 : decode cX5_kind 19 = .ok (.istore_n 3, 1) := by decide +kernel
theorem dX5_kind_20 : decode cX5_kind 20 = .ok (.iconst 0, 1) := by decide +kernel
theorem dX5_kind_21 : decode cX5_kind 21 = .ok (.istore 4, 2) := by decide +kernel
theorem dX5_kind_23 : decode cX5_kind 23 = .ok (.iload 4, 2) := by decide +kernel
theorem dX5_kind_25 : decode cX5_kind 25 = .ok (.aload_n 0, 1) := by decide +kernel
theorem dX5_kind_26 : decode cX5_kind 26 = .ok (.getfield 14, 3) := by decide +kernel
theorem dX5_kind_29 : decode cX5_kind 29 = .ok (.getfield 136, 3) := by decide +kernel
theorem dX5_kind_32 : decode cX5_kind 32 = .ok (.if_icmp .ge 35, 3) := by decide +kernel
theorem dX5_kind_35 : decode cX5_kind 35 = .ok (.aload_n 0, 1) := by decide +kernel
theorem dX5_kind_36 : decode cX5_kind 36 = .ok (.aload_n 0, 1) := by decide +kernel
theorem dX5_kind_37 : decode cX5_kind 37 = .ok (.getfield 14, 3) := by decide +kernel
theorem dX5_kind_40 : decode cX5_kind 40 = .ok (.getfield 75, 3) := by decide +kernel
theorem dX5_kind_43 : decode cX5_kind 43 = .ok (.iload_n 1, 1) := by decide +kernel
theorem dX5_kind_44 : decode cX5_kind 44 = .ok (.aaload, 1) := by decide +kernel
theorem dX5_kind_45 : decode cX5_kind 45 = .ok (.iload 4, 2) := by decide +kernel
theorem dX5_kind_47 : decode cX5_kind 47 = .ok (.iload_n 2, 1) := by decide +kernel
theorem dX5_kind_48 : decode cX5_kind 48 = .ok (.invokevirtual 264, 3) := by decide +kernel
theorem dX5_kind_51 : decode cX5_kind 51 = .ok (.ifCond .eq 10, 3) := by decide +kernel
theorem dX5_kind_54 : decode cX5_kind 54 = .ok (.iload_n 3, 1) := by decide +kernel
theorem dX5_kind_55 : decode cX5_kind 55 = .ok (.iconst 1, 1) := by decide +kernel
theorem dX5_kind_56 : decode cX5_kind 56 = .ok (.iload 4, 2) := by decide +kernel
theorem dX5_kind_58 : decode cX5_kind 58 = .ok (.ishl, 1) := by decide +kernel
theorem dX5_kind_59 : decode cX5_kind 59 = .ok (.ior, 1) := by decide +kernel
theorem dX5_kind_60 : decode cX5_kind 60 = .ok (.istore_n 3, 1) := by decide +kernel
theorem dX5_kind_61 : decode cX5_kind 61 = .ok (.iinc 4 1, 3) := by decide +kernel
theorem dX5_kind_64 : decode cX5_kind 64 = .ok (.goto (-41), 3) := by decide +kernel
theorem dX5_kind_67 : decode cX5_kind 67 = .ok (.iload_n 3, 1) := by decide +kernel
theorem dX5_kind_68 : decode cX5_kind 68 = .ok (.ireturn, 1) := by decide +kernel
set_option maxRecDepth 20000 in
theorem ggX5_alike_X5_isGame : GoodIn wsX5_alike wsX5_isGame := goodIn_r _ [7] (by decide +kernel) (by decide +kernel)
set_option maxRecDepth 20000 in
theorem gX5_alike_X5_isGame : GoodIn wsX5_alike (va_wsS RX5 64 yX5_isGame wsX5_isGame) := goodIn_app (goodIn_of _ (by decide +kernel)) ggX5_alike_X5_isGame
set_option maxRecDepth 20000 in
theorem ggX5_alike_X0_hasPartner : GoodIn wsX5_alike wsX0_hasPartner := goodIn_r _ [12, 13, 35, 36, 37, 38, 39, 40, 41] (by decide +kernel) (by decide +kernel)
set_option maxRecDepth 20000 in
theorem gX5_alike_X0_hasPartner : GoodIn wsX5_alike (wsV RX5 81 RX0 yX0_hasPartner wsX0_hasPartner) := goodIn_app (goodIn_of _ (by decide +kernel)) ggX5_alike_X0_hasPartner
set_option maxRecDepth 20000 in
theorem ggX5_alike_X5_areAlike : GoodIn wsX5_alike wsX5_areAlike := goodIn_r _ [17, 1, 18, 19, 20, 11, 21, 13, 22, 23, 6, 24, 25, 26, 27, 28, 29, 30, 31, 32, 33, 34, 35, 36, 37, 38, 39, 40, 41] (by decide +kernel) (by decide +kernel)
set_option maxRecDepth 20000 in
theorem gX5_alike_X5_areAlike : GoodIn wsX5_alike (wsV RX5 268 RX5 yX5_areAlike wsX5_areAlike) := goodIn_app (goodIn_of _ (by decide +kernel)) ggX5_alike_X5_areAlike
theorem dX5_alike_0 : decode cX5_alike 0 = .ok (.iload_n 1, 1) := by decide +kernel
theorem dX5_alike_1 : decode cX5_alike 1 = .ok (.invokestatic 64, 3) := by decide +kernel
theorem dX5_alike_4 : decode cX5_alike 4 = .ok (.ifCond .eq 14, 3) := by decide +kernel
theorem dX5_alike_7 : decode cX5_alike 7 = .ok (.aload_n 0, 1) := by decide +kernel
theorem dX5_alike_8 : decode cX5_alike 8 = .ok (.getfield 14, 3) := by decide +kernel
theorem dX5_alike_11 : decode cX5_alike 11 = .ok (.iload_n 2, 1) := by decide +kernel
theorem dX5_alike_12 : decode cX5_alike 12 = .ok (.invokevirtual 81, 3) := by decide +kernel
theorem dX5_alike_15 : decode cX5_alike 15 = .ok (.ifCond .ne 5, 3) := by decide +kernel
theorem dX5_alike_18 : decode cX5_alike 18 = .ok (.iconst (-1), 1) := by decide +kernel
theorem dX5_alike_19 : decode cX5_alike 19 = .ok (.ireturn, 1) := by decide +kernel
theorem dX5_alike_20 : decode cX5_alike 20 = .ok (.iconst 0, 1) := by decide +kernel
theorem dX5_alike_21 : decode cX5_alike 21 = .ok (.istore_n 3, 1) := by decide +kernel
theorem dX5_alike_22 : decode cX5_alike 22 = .ok (.iconst 0, 1) := by decide +kernel
theorem dX5_alike_23 : decode cX5_alike 23 = .ok (.istore 4, 2) := by decide +kernel
theorem dX5_alike_25 : decode cX5_alike 25 = .ok (.iload 4, 2) := by decide +kernel
theorem dX5_alike_27 : decode cX5_alike 27 = .ok (.aload_n 0, 1) := by decide +kernel
theorem dX5_alike_28 : decode cX5_alike 28 = .ok (.getfield 14, 3) := by decide +kernel
theorem dX5_alike_31 : decode cX5_alike 31 = .ok (.getfield 136, 3) := by decide +kernel
theorem dX5_alike_34 : decode cX5_alike 34 = .ok (.if_icmp .ge 35, 3) := by decide +kernel
theorem dX5_alike_37 : decode cX5_alike 37 = .ok (.aload_n 0, 1) := by decide +kernel
theorem dX5_alike_38 : decode cX5_alike 38 = .ok (.aload_n 0, 1) := by decide +kernel
theorem dX5_alike_39 : decode cX5_alike 39 = .ok (.getfield 14, 3) := by decide +kernel
theorem dX5_alike_42 : decode cX5_alike 42 = .ok (.getfield 75, 3) := by decide +kernel
theorem dX5_alike_45 : decode cX5_alike 45 = .ok (.iload_n 1, 1) := by decide +kernel
theorem dX5_alike_46 : decode cX5_alike 46 = .ok (.aaload, 1) := by decide +kernel
theorem dX5_alike_47 : decode cX5_alike 47 = .ok (.iload_n 2, 1) := by decide +kernel
theorem dX5_alike_48 : decode cX5_alike 48 = .ok (.iload 4, 2) := by decide +kernel
theorem dX5_alike_50 : decode cX5_alike 50 = .ok (.invokevirtual 268, 3) := by decide +kernel
theorem dX5_alike_53 : decode cX5_alike 53 = .ok (.ifCond .eq 10, 3) := by decide +kernel
theorem dX5_alike_56 : decode cX5_alike 56 = .ok (.iload_n 3, 1) := by decide +kernel
theorem dX5_alike_57 : decode cX5_alike 57 = .ok (.iconst 1, 1) := by decide +kernel
theorem dX5_alike_58 : decode cX5_alike 58 = .ok (.iload 4, 2) := by decide +kernel
theorem dX5_alike_60 : decode cX5_alike 60 = .ok (.ishl, 1) := by decide +kernel
theorem dX5_alike_61 : decode cX5_alike 61 = .ok (.ior, 1) := by decide +kernel
theorem dX5_alike_62 : decode cX5_alike 62 = .ok (.istore_n 3, 1) := by decide +kernel
theorem dX5_alike_63 : decode cX5_alike 63 = .ok (.iinc 4 1, 3) := by decide +kernel
theorem dX5_alike_66 : decode cX5_alike 66 = .ok (.goto (-41), 3) := by decide +kernel
theorem dX5_alike_69 : decode cX5_alike 69 = .ok (.iload_n 3, 1) := by decide +kernel
theorem dX5_alike_70 : decode cX5_alike 70 = .ok (.ireturn, 1) := by decide +kernel
set_option maxRecDepth 20000 in
theorem ggX5_carrier_X5_isGame : GoodIn wsX5_carrier wsX5_isGame := goodIn_r _ [5] (by decide +kernel) (by decide +kernel)
set_option maxRecDepth 20000 in
theorem gX5_carrier_X5_isGame : GoodIn wsX5_carrier (va_wsS RX5 64 yX5_isGame wsX5_isGame) := goodIn_app (goodIn_of _ (by decide +kernel)) ggX5_carrier_X5_isGame
set_option maxRecDepth 20000 in
theorem ggX5_carrier_X0_everyone : GoodIn wsX5_carrier wsX0_everyone := goodIn_r _ [10, 11, 63, 64, 65, 66, 67, 68, 69] (by decide +kernel) (by decide +kernel)
set_option maxRecDepth 20000 in
theorem gX5_carrier_X0_everyone : GoodIn wsX5_carrier (wsV RX5 175 RX0 yX0_everyone wsX0_everyone) := goodIn_app (goodIn_of _ (by decide +kernel)) ggX5_carrier_X0_everyone
set_option maxRecDepth 20000 in
theorem ggX5_carrier_X5_kind : GoodIn wsX5_carrier wsX5_kind := goodIn_r _ [15, 1, 16, 17, 2, 3, 4, 5, 18, 19, 20, 21, 22, 23, 24, 25, 26, 27, 28, 29, 30, 9, 31, 11, 32, 33, 34, 35, 36, 37, 38, 39, 40, 41, 42, 43, 44, 45, 46, 47, 48, 49, 50, 51, 52, 53, 54, 55, 56, 57, 58, 59, 60, 61, 62, 63, 64, 65, 66, 67, 68, 69, 70] (by decide +kernel) (by decide +kernel)
set_option maxRecDepth 20000 in
theorem gX5_carrier_X5_kind : GoodIn wsX5_carrier (wsV RX5 271 RX5 yX5_kind wsX5_kind) := goodIn_app (goodIn_of _ (by decide +kernel)) ggX5_carrier_X5_kind
theorem dX5_carrier_0 : decode cX5_carrier 0 = .ok (.iload_n 1, 1) := by decide +kernel
theorem dX5_carrier_1 : decode cX5_carrier 1 = .ok (.invokestatic 64, 3) := by decide +kernel
theorem dX5_carrier_4 : decode cX5_carrier 4 = .ok (.ifCond .eq 22, 3) := by decide +kernel
theorem dX5_carrier_7 : decode cX5_carrier 7 = .ok (.aload_n 0, 1) := by decide +kernel
theorem dX5_carrier_8 : decode cX5_carrier 8 = .ok (.getfield 14, 3) := by decide +kernel
theorem dX5_carrier_11 : decode cX5_carrier 11 = .ok (.invokevirtual 175, 3) := by decide +kernel
theorem dX5_carrier_14 : decode cX5_carrier 14 = .ok (.aload_n 0, 1) := by decide +kernel
theorem dX5_carrier_15 : decode cX5_carrier 15 = .ok (.iload_n 1, 1) := by decide +kernel
theorem dX5_carrier_16 : decode cX5_carrier 16 = .ok (.iconst 0, 1) := by decide +kernel
theorem dX5_carrier_17 : decode cX5_carrier 17 = .ok (.invokevirtual 271, 3) := by decide +kernel
theorem dX5_carrier_20 : decode cX5_carrier 20 = .ok (.iconst (-1), 1) := by decide +kernel
theorem dX5_carrier_21 : decode cX5_carrier 21 = .ok (.ixor, 1) := by decide +kernel
theorem dX5_carrier_22 : decode cX5_carrier 22 = .ok (.iand, 1) := by decide +kernel
theorem dX5_carrier_23 : decode cX5_carrier 23 = .ok (.goto 4, 3) := by decide +kernel
theorem dX5_carrier_26 : decode cX5_carrier 26 = .ok (.iconst (-1), 1) := by decide +kernel
theorem dX5_carrier_27 : decode cX5_carrier 27 = .ok (.ireturn, 1) := by decide +kernel
set_option maxRecDepth 20000 in
theorem ggX5_is_X5_isGame : GoodIn wsX5_is wsX5_isGame := goodIn_r _ [6] (by decide +kernel) (by decide +kernel)
set_option maxRecDepth 20000 in
theorem gX5_is_X5_isGame : GoodIn wsX5_is (va_wsS RX5 64 yX5_isGame wsX5_isGame) := goodIn_app (goodIn_of _ (by decide +kernel)) ggX5_is_X5_isGame
set_option maxRecDepth 20000 in
theorem ggX5_is_X5_isMonotone : GoodIn wsX5_is wsX5_isMonotone := goodIn_r _ [10, 1, 11, 12, 13, 14, 15, 16, 17, 18, 19, 5, 20, 37, 38, 39, 40, 41, 42, 43, 44, 45, 46, 47, 48, 49, 50, 51, 52, 53] (by decide +kernel) (by decide +kernel)
set_option maxRecDepth 20000 in
theorem gX5_is_X5_isMonotone : GoodIn wsX5_is (wsV RX5 274 RX5 yX5_isMonotone wsX5_isMonotone) := goodIn_app (goodIn_of _ (by decide +kernel)) ggX5_is_X5_isMonotone
set_option maxRecDepth 20000 in
theorem ggX5_is_X5_gainsTogether : GoodIn wsX5_is wsX5_gainsTogether := goodIn_r _ [24, 25, 1, 26, 27, 28, 29, 30, 31, 32, 12, 13, 14, 15, 16, 17, 33, 34, 35, 36, 37, 38, 39, 40, 41, 42, 43, 44, 45, 46, 54, 47, 48, 49, 50, 51, 52, 53] (by decide +kernel) (by decide +kernel)
set_option maxRecDepth 20000 in
theorem gX5_is_X5_gainsTogether : GoodIn wsX5_is (wsV RX5 278 RX5 yX5_gainsTogether wsX5_gainsTogether) := goodIn_app (goodIn_of _ (by decide +kernel)) ggX5_is_X5_gainsTogether
theorem dX5_is_0 : decode cX5_is 0 = .ok (.iload_n 1, 1) := by decide +kernel
theorem dX5_is_1 : decode cX5_is 1 = .ok (.invokestatic 64, 3) := by decide +kernel
theorem dX5_is_4 : decode cX5_is 4 = .ok (.ifCond .ne 5, 3) := by decide +kernel
theorem dX5_is_7 : decode cX5_is 7 = .ok (.iconst (-1), 1) := by decide +kernel
theorem dX5_is_8 : decode cX5_is 8 = .ok (.ireturn, 1) := by decide +kernel
theorem dX5_is_9 : decode cX5_is 9 = .ok (.iload_n 2, 1) := by decide +kernel
theorem dX5_is_10 : decode cX5_is 10 = .ok (.tableswitch 78 0 2 #[26, 48, 63], 26) := by decide +kernel
theorem dX5_is_36 : decode cX5_is 36 = .ok (.aload_n 0, 1) := by decide +kernel
theorem dX5_is_37 : decode cX5_is 37 = .ok (.aload_n 0, 1) := by decide +kernel
theorem dX5_is_38 : decode cX5_is 38 = .ok (.getfield 14, 3) := by decide +kernel
theorem dX5_is_41 : decode cX5_is 41 = .ok (.getfield 75, 3) := by decide +kernel
theorem dX5_is_44 : decode cX5_is 44 = .ok (.iload_n 1, 1) := by decide +kernel
theorem dX5_is_45 : decode cX5_is 45 = .ok (.aaload, 1) := by decide +kernel
theorem dX5_is_46 : decode cX5_is 46 = .ok (.invokevirtual 274, 3) := by decide +kernel
theorem dX5_is_49 : decode cX5_is 49 = .ok (.ifCond .eq 7, 3) := by decide +kernel
theorem dX5_is_52 : decode cX5_is 52 = .ok (.iconst 1, 1) := by decide +kernel
theorem dX5_is_53 : decode cX5_is 53 = .ok (.goto 4, 3) := by decide +kernel
theorem dX5_is_56 : decode cX5_is 56 = .ok (.iconst 0, 1) := by decide +kernel
theorem dX5_is_57 : decode cX5_is 57 = .ok (.ireturn, 1) := by decide +kernel
theorem dX5_is_58 : decode cX5_is 58 = .ok (.aload_n 0, 1) := by decide +kernel
theorem dX5_is_59 : decode cX5_is 59 = .ok (.aload_n 0, 1) := by decide +kernel
theorem dX5_is_60 : decode cX5_is 60 = .ok (.getfield 14, 3) := by decide +kernel
theorem dX5_is_63 : decode cX5_is 63 = .ok (.getfield 75, 3) := by decide +kernel
theorem dX5_is_66 : decode cX5_is 66 = .ok (.iload_n 1, 1) := by decide +kernel
theorem dX5_is_67 : decode cX5_is 67 = .ok (.aaload, 1) := by decide +kernel
theorem dX5_is_68 : decode cX5_is 68 = .ok (.iconst 0, 1) := by decide +kernel
theorem dX5_is_69 : decode cX5_is 69 = .ok (.invokevirtual 278, 3) := by decide +kernel
theorem dX5_is_72 : decode cX5_is 72 = .ok (.ireturn, 1) := by decide +kernel
theorem dX5_is_73 : decode cX5_is 73 = .ok (.aload_n 0, 1) := by decide +kernel
theorem dX5_is_74 : decode cX5_is 74 = .ok (.aload_n 0, 1) := by decide +kernel
theorem dX5_is_75 : decode cX5_is 75 = .ok (.getfield 14, 3) := by decide +kernel
theorem dX5_is_78 : decode cX5_is 78 = .ok (.getfield 75, 3) := by decide +kernel
theorem dX5_is_81 : decode cX5_is 81 = .ok (.iload_n 1, 1) := by decide +kernel
theorem dX5_is_82 : decode cX5_is 82 = .ok (.aaload, 1) := by decide +kernel
theorem dX5_is_83 : decode cX5_is 83 = .ok (.iconst 1, 1) := by decide +kernel
theorem dX5_is_84 : decode cX5_is 84 = .ok (.invokevirtual 278, 3) := by decide +kernel
theorem dX5_is_87 : decode cX5_is 87 = .ok (.ireturn, 1) := by decide +kernel
theorem dX5_is_88 : decode cX5_is 88 = .ok (.iconst (-1), 1) := by decide +kernel
theorem dX5_is_89 : decode cX5_is 89 = .ok (.ireturn, 1) := by decide +kernel
set_option maxRecDepth 20000 in
theorem ggX5_union_X0_hasPartner : GoodIn wsX5_union wsX0_hasPartner := goodIn_r _ [7, 8, 26, 27, 28, 29, 30, 31, 32] (by decide +kernel) (by decide +kernel)
set_option maxRecDepth 20000 in
theorem gX5_union_X0_hasPartner : GoodIn wsX5_union (wsV RX5 81 RX0 yX0_hasPartner wsX0_hasPartner) := goodIn_app (goodIn_of _ (by decide +kernel)) ggX5_union_X0_hasPartner
set_option maxRecDepth 20000 in
theorem ggX5_union_X5_leastOf : GoodIn wsX5_union wsX5_leastOf := goodIn_r _ [12, 13, 14, 11, 15] (by decide +kernel) (by decide +kernel)
set_option maxRecDepth 20000 in
theorem gX5_union_X5_leastOf : GoodIn wsX5_union (va_wsS RX5 112 yX5_leastOf wsX5_leastOf) := goodIn_app (goodIn_of _ (by decide +kernel)) ggX5_union_X5_leastOf
theorem dX5_union_0 : decode cX5_union 0 = .ok (.aload_n 0, 1) := by decide +kernel
theorem dX5_union_1 : decode cX5_union 1 = .ok (.getfield 14, 3) := by decide +kernel
theorem dX5_union_4 : decode cX5_union 4 = .ok (.iload_n 1, 1) := by decide +kernel
theorem dX5_union_5 : decode cX5_union 5 = .ok (.invokevirtual 81, 3) := by decide +kernel
theorem dX5_union_8 : decode cX5_union 8 = .ok (.ifCond .eq 18, 3) := by decide +kernel
theorem dX5_union_11 : decode cX5_union 11 = .ok (.aload_n 0, 1) := by decide +kernel
theorem dX5_union_12 : decode cX5_union 12 = .ok (.getfield 14, 3) := by decide +kernel
theorem dX5_union_15 : decode cX5_union 15 = .ok (.getfield 109, 3) := by decide +kernel
theorem dX5_union_18 : decode cX5_union 18 = .ok (.iload_n 1, 1) := by decide +kernel
theorem dX5_union_19 : decode cX5_union 19 = .ok (.iaload, 1) := by decide +kernel
theorem dX5_union_20 : decode cX5_union 20 = .ok (.invokestatic 112, 3) := by decide +kernel
theorem dX5_union_23 : decode cX5_union 23 = .ok (.goto 4, 3) := by decide +kernel
theorem dX5_union_26 : decode cX5_union 26 = .ok (.iconst (-1), 1) := by decide +kernel
theorem dX5_union_27 : decode cX5_union 27 = .ok (.ireturn, 1) := by decide +kernel
set_option maxRecDepth 20000 in
theorem ggX5_stable_X5_isGame : GoodIn wsX5_stable wsX5_isGame := goodIn_r _ [10] (by decide +kernel) (by decide +kernel)
set_option maxRecDepth 20000 in
theorem gX5_stable_X5_isGame : GoodIn wsX5_stable (va_wsS RX5 64 yX5_isGame wsX5_isGame) := goodIn_app (goodIn_of _ (by decide +kernel)) ggX5_stable_X5_isGame
set_option maxRecDepth 20000 in
theorem ggX5_stable_X5_isRow : GoodIn wsX5_stable wsX5_isRow := goodIn_r _ [13] (by decide +kernel) (by decide +kernel)
set_option maxRecDepth 20000 in
theorem gX5_stable_X5_isRow : GoodIn wsX5_stable (va_wsS RX5 205 yX5_isRow wsX5_isRow) := goodIn_app (goodIn_of _ (by decide +kernel)) ggX5_stable_X5_isRow
set_option maxRecDepth 20000 in
theorem ggX5_stable_X3_holds : GoodIn wsX5_stable wsX3_holds := goodIn_r _ [18, 19, 12, 9, 13, 66, 67] (by decide +kernel) (by decide +kernel)
set_option maxRecDepth 20000 in
theorem gX5_stable_X3_holds : GoodIn wsX5_stable (wsV RX5 282 RX3 yX3_holds wsX3_holds) := goodIn_app (goodIn_of _ (by decide +kernel)) ggX5_stable_X3_holds
set_option maxRecDepth 20000 in
theorem ggX5_stable_X1_begin : GoodIn wsX5_stable wsX1_begin := goodIn_r _ [24, 25, 65] (by decide +kernel) (by decide +kernel)
set_option maxRecDepth 20000 in
theorem gX5_stable_X1_begin : GoodIn wsX5_stable (wsV RX5 163 RX1 yX1_begin wsX1_begin) := goodIn_app (goodIn_of _ (by decide +kernel)) ggX5_stable_X1_begin
set_option maxRecDepth 20000 in
theorem ggX5_stable_X0_everyone : GoodIn wsX5_stable wsX0_everyone := goodIn_r _ [30, 31, 58, 59, 60, 61, 62, 63, 64] (by decide +kernel) (by decide +kernel)
set_option maxRecDepth 20000 in
theorem gX5_stable_X0_everyone : GoodIn wsX5_stable (wsV RX5 175 RX0 yX0_everyone wsX0_everyone) := goodIn_app (goodIn_of _ (by decide +kernel)) ggX5_stable_X0_everyone
set_option maxRecDepth 20000 in
theorem ggX5_stable_X5_toldSum : GoodIn wsX5_stable wsX5_toldSum := goodIn_r _ [35, 2, 3, 1, 5, 36, 37, 38, 9, 39, 14, 15, 16, 17, 18, 19, 12, 13, 40, 41, 42, 23, 43, 25, 48, 49, 50, 51, 52, 53, 54, 55, 56, 57, 58, 59, 60, 61, 62, 63, 64, 66, 67, 65] (by decide +kernel) (by decide +kernel)
set_option maxRecDepth 20000 in
theorem gX5_stable_X5_toldSum : GoodIn wsX5_stable (wsV RX5 286 RX5 yX5_toldSum wsX5_toldSum) := goodIn_app (goodIn_of _ (by decide +kernel)) ggX5_stable_X5_toldSum
set_option maxRecDepth 20000 in
theorem ggX5_stable_X0_sets : GoodIn wsX5_stable wsX0_sets := goodIn_r _ [47, 31, 58, 59, 60, 61, 62, 63, 64] (by decide +kernel) (by decide +kernel)
set_option maxRecDepth 20000 in
theorem gX5_stable_X0_sets : GoodIn wsX5_stable (wsV RX5 126 RX0 yX0_sets wsX0_sets) := goodIn_app (goodIn_of _ (by decide +kernel)) ggX5_stable_X0_sets
theorem dX5_stable_0 : decode cX5_stable 0 = .ok (.iload_n 1, 1) := by decide +kernel
theorem dX5_stable_1 : decode cX5_stable 1 = .ok (.invokestatic 64, 3) := by decide +kernel
theorem dX5_stable_4 : decode cX5_stable 4 = .ok (.ifCond .eq 10, 3) := by decide +kernel
theorem dX5_stable_7 : decode cX5_stable 7 = .ok (.iload_n 2, 1) := by decide +kernel
theorem dX5_stable_8 : decode cX5_stable 8 = .ok (.invokestatic 205, 3) := by decide +kernel
theorem dX5_stable_11 : decode cX5_stable 11 = .ok (.ifCond .ne 5, 3) := by decide +kernel
theorem dX5_stable_14 : decode cX5_stable 14 = .ok (.iconst (-1), 1) := by decide +kernel
theorem dX5_stable_15 : decode cX5_stable 15 = .ok (.ireturn, 1) := by decide +kernel
theorem dX5_stable_16 : decode cX5_stable 16 = .ok (.aload_n 0, 1) := by decide +kernel
theorem dX5_stable_17 : decode cX5_stable 17 = .ok (.getfield 38, 3) := by decide +kernel
theorem dX5_stable_20 : decode cX5_stable 20 = .ok (.iload_n 2, 1) := by decide +kernel
theorem dX5_stable_21 : decode cX5_stable 21 = .ok (.iload_n 3, 1) := by decide +kernel
theorem dX5_stable_22 : decode cX5_stable 22 = .ok (.aload_n 0, 1) := by decide +kernel
theorem dX5_stable_23 : decode cX5_stable 23 = .ok (.getfield 14, 3) := by decide +kernel
theorem dX5_stable_26 : decode cX5_stable 26 = .ok (.getfield 136, 3) := by decide +kernel
theorem dX5_stable_29 : decode cX5_stable 29 = .ok (.invokevirtual 282, 3) := by decide +kernel
theorem dX5_stable_32 : decode cX5_stable 32 = .ok (.ifCond .ne 6, 3) := by decide +kernel
theorem dX5_stable_35 : decode cX5_stable 35 = .ok (.bipush (-3), 2) := by decide +kernel
theorem dX5_stable_37 : decode cX5_stable 37 = .ok (.ireturn, 1) := by decide +kernel
theorem dX5_stable_38 : decode cX5_stable 38 = .ok (.aload_n 0, 1) := by decide +kernel
theorem dX5_stable_39 : decode cX5_stable 39 = .ok (.getfield 14, 3) := by decide +kernel
theorem dX5_stable_42 : decode cX5_stable 42 = .ok (.getfield 75, 3) := by decide +kernel
theorem dX5_stable_45 : decode cX5_stable 45 = .ok (.iload_n 1, 1) := by decide +kernel
theorem dX5_stable_46 : decode cX5_stable 46 = .ok (.aaload, 1) := by decide +kernel
theorem dX5_stable_47 : decode cX5_stable 47 = .ok (.astore 4, 2) := by decide +kernel
theorem dX5_stable_49 : decode cX5_stable 49 = .ok (.aload_n 0, 1) := by decide +kernel
theorem dX5_stable_50 : decode cX5_stable 50 = .ok (.getfield 45, 3) := by decide +kernel
theorem dX5_stable_53 : decode cX5_stable 53 = .ok (.invokevirtual 163, 3) := by decide +kernel
theorem dX5_stable_56 : decode cX5_stable 56 = .ok (.aload_n 0, 1) := by decide +kernel
theorem dX5_stable_57 : decode cX5_stable 57 = .ok (.iload_n 2, 1) := by decide +kernel
theorem dX5_stable_58 : decode cX5_stable 58 = .ok (.iload_n 3, 1) := by decide +kernel
theorem dX5_stable_59 : decode cX5_stable 59 = .ok (.aload_n 0, 1) := by decide +kernel
theorem dX5_stable_60 : decode cX5_stable 60 = .ok (.getfield 14, 3) := by decide +kernel
theorem dX5_stable_63 : decode cX5_stable 63 = .ok (.invokevirtual 175, 3) := by decide +kernel
theorem dX5_stable_66 : decode cX5_stable 66 = .ok (.invokevirtual 286, 3) := by decide +kernel
theorem dX5_stable_69 : decode cX5_stable 69 = .ok (.lstore 5, 2) := by decide +kernel
theorem dX5_stable_71 : decode cX5_stable 71 = .ok (.aload_n 0, 1) := by decide +kernel
theorem dX5_stable_72 : decode cX5_stable 72 = .ok (.getfield 45, 3) := by decide +kernel
theorem dX5_stable_75 : decode cX5_stable 75 = .ok (.getfield 185, 3) := by decide +kernel
theorem dX5_stable_78 : decode cX5_stable 78 = .ok (.ifCond .eq 6, 3) := by decide +kernel
theorem dX5_stable_81 : decode cX5_stable 81 = .ok (.bipush (-6), 2) := by decide +kernel
theorem dX5_stable_83 : decode cX5_stable 83 = .ok (.ireturn, 1) := by decide +kernel
theorem dX5_stable_84 : decode cX5_stable 84 = .ok (.lload 5, 2) := by decide +kernel
theorem dX5_stable_86 : decode cX5_stable 86 = .ok (.aload 4, 2) := by decide +kernel
theorem dX5_stable_88 : decode cX5_stable 88 = .ok (.aload_n 0, 1) := by decide +kernel
theorem dX5_stable_89 : decode cX5_stable 89 = .ok (.getfield 14, 3) := by decide +kernel
theorem dX5_stable_92 : decode cX5_stable 92 = .ok (.invokevirtual 175, 3) := by decide +kernel
theorem dX5_stable_95 : decode cX5_stable 95 = .ok (.laload, 1) := by decide +kernel
theorem dX5_stable_96 : decode cX5_stable 96 = .ok (.lcmp, 1) := by decide +kernel
theorem dX5_stable_97 : decode cX5_stable 97 = .ok (.ifCond .eq 5, 3) := by decide +kernel
theorem dX5_stable_100 : decode cX5_stable 100 = .ok (.iconst 0, 1) := by decide +kernel
theorem dX5_stable_101 : decode cX5_stable 101 = .ok (.ireturn, 1) := by decide +kernel
theorem dX5_stable_102 : decode cX5_stable 102 = .ok (.iconst 0, 1) := by decide +kernel
theorem dX5_stable_103 : decode cX5_stable 103 = .ok (.istore 7, 2) := by decide +kernel
theorem dX5_stable_105 : decode cX5_stable 105 = .ok (.iload 7, 2) := by decide +kernel
theorem dX5_stable_107 : decode cX5_stable 107 = .ok (.aload_n 0, 1) := by decide +kernel
theorem dX5_stable_108 : decode cX5_stable 108 = .ok (.getfield 14, 3) := by decide +kernel
theorem dX5_stable_111 : decode cX5_stable 111 = .ok (.invokevirtual 126, 3) := by decide +kernel
theorem dX5_stable_114 : decode cX5_stable 114 = .ok (.if_icmp .ge 45, 3) := by decide +kernel
theorem dX5_stable_117 : decode cX5_stable 117 = .ok (.aload_n 0, 1) := by decide +kernel
theorem dX5_stable_118 : decode cX5_stable 118 = .ok (.iload_n 2, 1) := by decide +kernel
theorem dX5_stable_119 : decode cX5_stable 119 = .ok (.iload_n 3, 1) := by decide +kernel
theorem dX5_stable_120 : decode cX5_stable 120 = .ok (.iload 7, 2) := by decide +kernel
theorem dX5_stable_122 : decode cX5_stable 122 = .ok (.invokevirtual 286, 3) := by decide +kernel
theorem dX5_stable_125 : decode cX5_stable 125 = .ok (.lstore 8, 2) := by decide +kernel
theorem dX5_stable_127 : decode cX5_stable 127 = .ok (.aload_n 0, 1) := by decide +kernel
theorem dX5_stable_128 : decode cX5_stable 128 = .ok (.getfield 45, 3) := by decide +kernel
theorem dX5_stable_131 : decode cX5_stable 131 = .ok (.getfield 185, 3) := by decide +kernel
theorem dX5_stable_134 : decode cX5_stable 134 = .ok (.ifCond .eq 6, 3) := by decide +kernel
theorem dX5_stable_137 : decode cX5_stable 137 = .ok (.bipush (-6), 2) := by decide +kernel
theorem dX5_stable_139 : decode cX5_stable 139 = .ok (.ireturn, 1) := by decide +kernel
theorem dX5_stable_140 : decode cX5_stable 140 = .ok (.aload 4, 2) := by decide +kernel
theorem dX5_stable_142 : decode cX5_stable 142 = .ok (.iload 7, 2) := by decide +kernel
theorem dX5_stable_144 : decode cX5_stable 144 = .ok (.laload, 1) := by decide +kernel
theorem dX5_stable_145 : decode cX5_stable 145 = .ok (.lload 8, 2) := by decide +kernel
theorem dX5_stable_147 : decode cX5_stable 147 = .ok (.lcmp, 1) := by decide +kernel
theorem dX5_stable_148 : decode cX5_stable 148 = .ok (.ifCond .le 5, 3) := by decide +kernel
theorem dX5_stable_151 : decode cX5_stable 151 = .ok (.iconst 0, 1) := by decide +kernel
theorem dX5_stable_152 : decode cX5_stable 152 = .ok (.ireturn, 1) := by decide +kernel
theorem dX5_stable_153 : decode cX5_stable 153 = .ok (.iinc 7 1, 3) := by decide +kernel
theorem dX5_stable_156 : decode cX5_stable 156 = .ok (.goto (-51), 3) := by decide +kernel
theorem dX5_stable_159 : decode cX5_stable 159 = .ok (.iconst 1, 1) := by decide +kernel
theorem dX5_stable_160 : decode cX5_stable 160 = .ok (.ireturn, 1) := by decide +kernel
set_option maxRecDepth 20000 in
theorem ggX5_worst_X5_isGame : GoodIn wsX5_worst wsX5_isGame := goodIn_r _ [10] (by decide +kernel) (by decide +kernel)
set_option maxRecDepth 20000 in
theorem gX5_worst_X5_isGame : GoodIn wsX5_worst (va_wsS RX5 64 yX5_isGame wsX5_isGame) := goodIn_app (goodIn_of _ (by decide +kernel)) ggX5_worst_X5_isGame
set_option maxRecDepth 20000 in
theorem ggX5_worst_X5_isRow : GoodIn wsX5_worst wsX5_isRow := goodIn_r _ [13] (by decide +kernel) (by decide +kernel)
set_option maxRecDepth 20000 in
theorem gX5_worst_X5_isRow : GoodIn wsX5_worst (va_wsS RX5 205 yX5_isRow wsX5_isRow) := goodIn_app (goodIn_of _ (by decide +kernel)) ggX5_worst_X5_isRow
set_option maxRecDepth 20000 in
theorem ggX5_worst_X3_holds : GoodIn wsX5_worst wsX3_holds := goodIn_r _ [18, 19, 12, 9, 13, 66, 67] (by decide +kernel) (by decide +kernel)
set_option maxRecDepth 20000 in
theorem gX5_worst_X3_holds : GoodIn wsX5_worst (wsV RX5 282 RX3 yX3_holds wsX3_holds) := goodIn_app (goodIn_of _ (by decide +kernel)) ggX5_worst_X3_holds
set_option maxRecDepth 20000 in
theorem ggX5_worst_X1_begin : GoodIn wsX5_worst wsX1_begin := goodIn_r _ [24, 25, 65] (by decide +kernel) (by decide +kernel)
set_option maxRecDepth 20000 in
theorem gX5_worst_X1_begin : GoodIn wsX5_worst (wsV RX5 163 RX1 yX1_begin wsX1_begin) := goodIn_app (goodIn_of _ (by decide +kernel)) ggX5_worst_X1_begin
set_option maxRecDepth 20000 in
theorem ggX5_worst_X0_everyone : GoodIn wsX5_worst wsX0_everyone := goodIn_r _ [30, 31, 58, 59, 60, 61, 62, 63, 64] (by decide +kernel) (by decide +kernel)
set_option maxRecDepth 20000 in
theorem gX5_worst_X0_everyone : GoodIn wsX5_worst (wsV RX5 175 RX0 yX0_everyone wsX0_everyone) := goodIn_app (goodIn_of _ (by decide +kernel)) ggX5_worst_X0_everyone
set_option maxRecDepth 20000 in
theorem ggX5_worst_X5_toldSum : GoodIn wsX5_worst wsX5_toldSum := goodIn_r _ [35, 2, 3, 1, 4, 36, 37, 38, 9, 39, 14, 15, 16, 17, 18, 19, 12, 13, 40, 41, 42, 23, 43, 25, 48, 49, 50, 51, 52, 53, 54, 55, 56, 57, 58, 59, 60, 61, 62, 63, 64, 66, 67, 65] (by decide +kernel) (by decide +kernel)
set_option maxRecDepth 20000 in
theorem gX5_worst_X5_toldSum : GoodIn wsX5_worst (wsV RX5 286 RX5 yX5_toldSum wsX5_toldSum) := goodIn_app (goodIn_of _ (by decide +kernel)) ggX5_worst_X5_toldSum
set_option maxRecDepth 20000 in
theorem ggX5_worst_X1_less : GoodIn wsX5_worst wsX1_less := goodIn_r _ [47, 25, 65] (by decide +kernel) (by decide +kernel)
set_option maxRecDepth 20000 in
theorem gX5_worst_X1_less : GoodIn wsX5_worst (wsV RX5 178 RX1 yX1_less wsX1_less) := goodIn_app (goodIn_of _ (by decide +kernel)) ggX5_worst_X1_less
theorem dX5_worst_0 : decode cX5_worst 0 = .ok (.iload_n 1, 1) := by decide +kernel
theorem dX5_worst_1 : decode cX5_worst 1 = .ok (.invokestatic 64, 3) := by decide +kernel
theorem dX5_worst_4 : decode cX5_worst 4 = .ok (.ifCond .eq 10, 3) := by decide +kernel
theorem dX5_worst_7 : decode cX5_worst 7 = .ok (.iload_n 2, 1) := by decide +kernel
theorem dX5_worst_8 : decode cX5_worst 8 = .ok (.invokestatic 205, 3) := by decide +kernel
theorem dX5_worst_11 : decode cX5_worst 11 = .ok (.ifCond .ne 5, 3) := by decide +kernel
theorem dX5_worst_14 : decode cX5_worst 14 = .ok (.iconst (-1), 1) := by decide +kernel
theorem dX5_worst_15 : decode cX5_worst 15 = .ok (.ireturn, 1) := by decide +kernel
theorem dX5_worst_16 : decode cX5_worst 16 = .ok (.aload_n 0, 1) := by decide +kernel
theorem dX5_worst_17 : decode cX5_worst 17 = .ok (.getfield 38, 3) := by decide +kernel
theorem dX5_worst_20 : decode cX5_worst 20 = .ok (.iload_n 2, 1) := by decide +kernel
theorem dX5_worst_21 : decode cX5_worst 21 = .ok (.iload_n 3, 1) := by decide +kernel
theorem dX5_worst_22 : decode cX5_worst 22 = .ok (.aload_n 0, 1) := by decide +kernel
theorem dX5_worst_23 : decode cX5_worst 23 = .ok (.getfield 14, 3) := by decide +kernel
theorem dX5_worst_26 : decode cX5_worst 26 = .ok (.getfield 136, 3) := by decide +kernel
theorem dX5_worst_29 : decode cX5_worst 29 = .ok (.invokevirtual 282, 3) := by decide +kernel
theorem dX5_worst_32 : decode cX5_worst 32 = .ok (.ifCond .ne 6, 3) := by decide +kernel
theorem dX5_worst_35 : decode cX5_worst 35 = .ok (.bipush (-3), 2) := by decide +kernel
theorem dX5_worst_37 : decode cX5_worst 37 = .ok (.ireturn, 1) := by decide +kernel
theorem dX5_worst_38 : decode cX5_worst 38 = .ok (.aload_n 0, 1) := by decide +kernel
theorem dX5_worst_39 : decode cX5_worst 39 = .ok (.getfield 45, 3) := by decide +kernel
theorem dX5_worst_42 : decode cX5_worst 42 = .ok (.invokevirtual 163, 3) := by decide +kernel
theorem dX5_worst_45 : decode cX5_worst 45 = .ok (.bipush (-5), 2) := by decide +kernel
theorem dX5_worst_47 : decode cX5_worst 47 = .ok (.istore 4, 2) := by decide +kernel
theorem dX5_worst_49 : decode cX5_worst 49 = .ok (.lconst 0, 1) := by decide +kernel
theorem dX5_worst_50 : decode cX5_worst 50 = .ok (.lstore 5, 2) := by decide +kernel
theorem dX5_worst_52 : decode cX5_worst 52 = .ok (.iconst 1, 1) := by decide +kernel
theorem dX5_worst_53 : decode cX5_worst 53 = .ok (.istore 7, 2) := by decide +kernel
theorem dX5_worst_55 : decode cX5_worst 55 = .ok (.iload 7, 2) := by decide +kernel
theorem dX5_worst_57 : decode cX5_worst 57 = .ok (.aload_n 0, 1) := by decide +kernel
theorem dX5_worst_58 : decode cX5_worst 58 = .ok (.getfield 14, 3) := by decide +kernel
theorem dX5_worst_61 : decode cX5_worst 61 = .ok (.invokevirtual 175, 3) := by decide +kernel
theorem dX5_worst_64 : decode cX5_worst 64 = .ok (.if_icmp .ge 61, 3) := by decide +kernel
theorem dX5_worst_67 : decode cX5_worst 67 = .ok (.aload_n 0, 1) := by decide +kernel
theorem dX5_worst_68 : decode cX5_worst 68 = .ok (.getfield 45, 3) := by decide +kernel
theorem dX5_worst_71 : decode cX5_worst 71 = .ok (.aload_n 0, 1) := by decide +kernel
theorem dX5_worst_72 : decode cX5_worst 72 = .ok (.getfield 14, 3) := by decide +kernel
theorem dX5_worst_75 : decode cX5_worst 75 = .ok (.getfield 75, 3) := by decide +kernel
theorem dX5_worst_78 : decode cX5_worst 78 = .ok (.iload_n 1, 1) := by decide +kernel
theorem dX5_worst_79 : decode cX5_worst 79 = .ok (.aaload, 1) := by decide +kernel
theorem dX5_worst_80 : decode cX5_worst 80 = .ok (.iload 7, 2) := by decide +kernel
theorem dX5_worst_82 : decode cX5_worst 82 = .ok (.laload, 1) := by decide +kernel
theorem dX5_worst_83 : decode cX5_worst 83 = .ok (.aload_n 0, 1) := by decide +kernel
theorem dX5_worst_84 : decode cX5_worst 84 = .ok (.iload_n 2, 1) := by decide +kernel
theorem dX5_worst_85 : decode cX5_worst 85 = .ok (.iload_n 3, 1) := by decide +kernel
theorem dX5_worst_86 : decode cX5_worst 86 = .ok (.iload 7, 2) := by decide +kernel
theorem dX5_worst_88 : decode cX5_worst 88 = .ok (.invokevirtual 286, 3) := by decide +kernel
theorem dX5_worst_91 : decode cX5_worst 91 = .ok (.invokevirtual 178, 3) := by decide +kernel
theorem dX5_worst_94 : decode cX5_worst 94 = .ok (.lstore 8, 2) := by decide +kernel
theorem dX5_worst_96 : decode cX5_worst 96 = .ok (.iload 4, 2) := by decide +kernel
theorem dX5_worst_98 : decode cX5_worst 98 = .ok (.bipush (-5), 2) := by decide +kernel
theorem dX5_worst_100 : decode cX5_worst 100 = .ok (.if_icmp .eq 11, 3) := by decide +kernel
theorem dX5_worst_103 : decode cX5_worst 103 = .ok (.lload 8, 2) := by decide +kernel
theorem dX5_worst_105 : decode cX5_worst 105 = .ok (.lload 5, 2) := by decide +kernel
theorem dX5_worst_107 : decode cX5_worst 107 = .ok (.lcmp, 1) := by decide +kernel
theorem dX5_worst_108 : decode cX5_worst 108 = .ok (.ifCond .le 11, 3) := by decide +kernel
theorem dX5_worst_111 : decode cX5_worst 111 = .ok (.iload 7, 2) := by decide +kernel
theorem dX5_worst_113 : decode cX5_worst 113 = .ok (.istore 4, 2) := by decide +kernel
theorem dX5_worst_115 : decode cX5_worst 115 = .ok (.lload 8, 2) := by decide +kernel
theorem dX5_worst_117 : decode cX5_worst 117 = .ok (.lstore 5, 2) := by decide +kernel
theorem dX5_worst_119 : decode cX5_worst 119 = .ok (.iinc 7 1, 3) := by decide +kernel
theorem dX5_worst_122 : decode cX5_worst 122 = .ok (.goto (-67), 3) := by decide +kernel
theorem dX5_worst_125 : decode cX5_worst 125 = .ok (.aload_n 0, 1) := by decide +kernel
theorem dX5_worst_126 : decode cX5_worst 126 = .ok (.getfield 45, 3) := by decide +kernel
theorem dX5_worst_129 : decode cX5_worst 129 = .ok (.getfield 185, 3) := by decide +kernel
theorem dX5_worst_132 : decode cX5_worst 132 = .ok (.ifCond .eq 8, 3) := by decide +kernel
theorem dX5_worst_135 : decode cX5_worst 135 = .ok (.bipush (-6), 2) := by decide +kernel
theorem dX5_worst_137 : decode cX5_worst 137 = .ok (.goto 5, 3) := by decide +kernel
theorem dX5_worst_140 : decode cX5_worst 140 = .ok (.iload 4, 2) := by decide +kernel
theorem dX5_worst_142 : decode cX5_worst 142 = .ok (.ireturn, 1) := by decide +kernel
set_option maxRecDepth 20000 in
theorem ggX5_excess_X5_isGame : GoodIn wsX5_excess wsX5_isGame := goodIn_r _ [11] (by decide +kernel) (by decide +kernel)
set_option maxRecDepth 20000 in
theorem gX5_excess_X5_isGame : GoodIn wsX5_excess (va_wsS RX5 64 yX5_isGame wsX5_isGame) := goodIn_app (goodIn_of _ (by decide +kernel)) ggX5_excess_X5_isGame
set_option maxRecDepth 20000 in
theorem ggX5_excess_X0_hasSet : GoodIn wsX5_excess wsX0_hasSet := goodIn_r _ [16, 17, 18, 19, 15, 20, 21, 62, 63, 64, 65, 66, 67, 68] (by decide +kernel) (by decide +kernel)
set_option maxRecDepth 20000 in
theorem gX5_excess_X0_hasSet : GoodIn wsX5_excess (wsV RX5 68 RX0 yX0_hasSet wsX0_hasSet) := goodIn_app (goodIn_of _ (by decide +kernel)) ggX5_excess_X0_hasSet
set_option maxRecDepth 20000 in
theorem ggX5_excess_X3_holds : GoodIn wsX5_excess wsX3_holds := goodIn_r _ [26, 27, 28, 10, 29, 70, 71] (by decide +kernel) (by decide +kernel)
set_option maxRecDepth 20000 in
theorem gX5_excess_X3_holds : GoodIn wsX5_excess (wsV RX5 282 RX3 yX3_holds wsX3_holds) := goodIn_app (goodIn_of _ (by decide +kernel)) ggX5_excess_X3_holds
set_option maxRecDepth 20000 in
theorem ggX5_excess_X1_begin : GoodIn wsX5_excess wsX1_begin := goodIn_r _ [34, 35, 69] (by decide +kernel) (by decide +kernel)
set_option maxRecDepth 20000 in
theorem gX5_excess_X1_begin : GoodIn wsX5_excess (wsV RX5 163 RX1 yX1_begin wsX1_begin) := goodIn_app (goodIn_of _ (by decide +kernel)) ggX5_excess_X1_begin
set_option maxRecDepth 20000 in
theorem ggX5_excess_X5_toldSum : GoodIn wsX5_excess wsX5_toldSum := goodIn_r _ [39, 1, 3, 2, 5, 40, 41, 42, 10, 43, 22, 23, 24, 25, 26, 27, 28, 29, 44, 45, 46, 33, 47, 35, 52, 53, 54, 55, 56, 57, 58, 59, 60, 61, 62, 63, 64, 65, 66, 67, 68, 70, 71, 69] (by decide +kernel) (by decide +kernel)
set_option maxRecDepth 20000 in
theorem gX5_excess_X5_toldSum : GoodIn wsX5_excess (wsV RX5 286 RX5 yX5_toldSum wsX5_toldSum) := goodIn_app (goodIn_of _ (by decide +kernel)) ggX5_excess_X5_toldSum
set_option maxRecDepth 20000 in
theorem ggX5_excess_X1_less : GoodIn wsX5_excess wsX1_less := goodIn_r _ [51, 35, 69] (by decide +kernel) (by decide +kernel)
set_option maxRecDepth 20000 in
theorem gX5_excess_X1_less : GoodIn wsX5_excess (wsV RX5 178 RX1 yX1_less wsX1_less) := goodIn_app (goodIn_of _ (by decide +kernel)) ggX5_excess_X1_less
