theorem dX6_agree_0 : decode cX6_agree 0 = .ok (.iload_n 2, 1) := by decide +kernel
theorem dX6_agree_1 : decode cX6_agree 1 = .ok (.ifCond .ne 35, 3) := by decide +kernel
theorem dX6_agree_4 : decode cX6_agree 4 = .ok (.iload_n 3, 1) := by decide +kernel
theorem dX6_agree_5 : decode cX6_agree 5 = .ok (.iload 4, 2) := by decide +kernel
theorem dX6_agree_7 : decode cX6_agree 7 = .ok (.iconst (-1), 1) := by decide +kernel
theorem dX6_agree_8 : decode cX6_agree 8 = .ok (.ixor, 1) := by decide +kernel
theorem dX6_agree_9 : decode cX6_agree 9 = .ok (.iand, 1) := by decide +kernel
theorem dX6_agree_10 : decode cX6_agree 10 = .ok (.ifCond .ne 20, 3) := by decide +kernel
theorem dX6_agree_13 : decode cX6_agree 13 = .ok (.aload_n 0, 1) := by decide +kernel
theorem dX6_agree_14 : decode cX6_agree 14 = .ok (.iload_n 1, 1) := by decide +kernel
theorem dX6_agree_15 : decode cX6_agree 15 = .ok (.iload_n 3, 1) := by decide +kernel
theorem dX6_agree_16 : decode cX6_agree 16 = .ok (.invokevirtual 95, 3) := by decide +kernel
theorem dX6_agree_19 : decode cX6_agree 19 = .ok (.aload_n 0, 1) := by decide +kernel
theorem dX6_agree_20 : decode cX6_agree 20 = .ok (.iload_n 1, 1) := by decide +kernel
theorem dX6_agree_21 : decode cX6_agree 21 = .ok (.iload 4, 2) := by decide +kernel
theorem dX6_agree_23 : decode cX6_agree 23 = .ok (.invokevirtual 95, 3) := by decide +kernel
theorem dX6_agree_26 : decode cX6_agree 26 = .ok (.lcmp, 1) := by decide +kernel
theorem dX6_agree_27 : decode cX6_agree 27 = .ok (.ifCond .gt 7, 3) := by decide +kernel
theorem dX6_agree_30 : decode cX6_agree 30 = .ok (.iconst 1, 1) := by decide +kernel
theorem dX6_agree_31 : decode cX6_agree 31 = .ok (.goto 4, 3) := by decide +kernel
theorem dX6_agree_34 : decode cX6_agree 34 = .ok (.iconst 0, 1) := by decide +kernel
theorem dX6_agree_35 : decode cX6_agree 35 = .ok (.ireturn, 1) := by decide +kernel
theorem dX6_agree_36 : decode cX6_agree 36 = .ok (.iload_n 2, 1) := by decide +kernel
theorem dX6_agree_37 : decode cX6_agree 37 = .ok (.iconst 2, 1) := by decide +kernel
theorem dX6_agree_38 : decode cX6_agree 38 = .ok (.if_icmp .ne 12, 3) := by decide +kernel
theorem dX6_agree_41 : decode cX6_agree 41 = .ok (.iload_n 3, 1) := by decide +kernel
theorem dX6_agree_42 : decode cX6_agree 42 = .ok (.iload 4, 2) := by decide +kernel
theorem dX6_agree_44 : decode cX6_agree 44 = .ok (.iand, 1) := by decide +kernel
theorem dX6_agree_45 : decode cX6_agree 45 = .ok (.ifCond .eq 5, 3) := by decide +kernel
theorem dX6_agree_48 : decode cX6_agree 48 = .ok (.iconst 1, 1) := by decide +kernel
theorem dX6_agree_49 : decode cX6_agree 49 = .ok (.ireturn, 1) := by decide +kernel
theorem dX6_agree_50 : decode cX6_agree 50 = .ok (.aload_n 0, 1) := by decide +kernel
theorem dX6_agree_51 : decode cX6_agree 51 = .ok (.aload_n 0, 1) := by decide +kernel
theorem dX6_agree_52 : decode cX6_agree 52 = .ok (.iload_n 1, 1) := by decide +kernel
theorem dX6_agree_53 : decode cX6_agree 53 = .ok (.iload_n 3, 1) := by decide +kernel
theorem dX6_agree_54 : decode cX6_agree 54 = .ok (.invokevirtual 95, 3) := by decide +kernel
theorem dX6_agree_57 : decode cX6_agree 57 = .ok (.aload_n 0, 1) := by decide +kernel
theorem dX6_agree_58 : decode cX6_agree 58 = .ok (.iload_n 1, 1) := by decide +kernel
theorem dX6_agree_59 : decode cX6_agree 59 = .ok (.iload 4, 2) := by decide +kernel
theorem dX6_agree_61 : decode cX6_agree 61 = .ok (.invokevirtual 95, 3) := by decide +kernel
theorem dX6_agree_64 : decode cX6_agree 64 = .ok (.invokevirtual 196, 3) := by decide +kernel
theorem dX6_agree_67 : decode cX6_agree 67 = .ok (.lstore 5, 2) := by decide +kernel
theorem dX6_agree_69 : decode cX6_agree 69 = .ok (.lload 5, 2) := by decide +kernel
theorem dX6_agree_71 : decode cX6_agree 71 = .ok (.iload_n 2, 1) := by decide +kernel
theorem dX6_agree_72 : decode cX6_agree 72 = .ok (.iconst 2, 1) := by decide +kernel
theorem dX6_agree_73 : decode cX6_agree 73 = .ok (.if_icmp .ne 15, 3) := by decide +kernel
theorem dX6_agree_76 : decode cX6_agree 76 = .ok (.aload_n 0, 1) := by decide +kernel
theorem dX6_agree_77 : decode cX6_agree 77 = .ok (.iload_n 1, 1) := by decide +kernel
theorem dX6_agree_78 : decode cX6_agree 78 = .ok (.iload_n 3, 1) := by decide +kernel
theorem dX6_agree_79 : decode cX6_agree 79 = .ok (.iload 4, 2) := by decide +kernel
theorem dX6_agree_81 : decode cX6_agree 81 = .ok (.ior, 1) := by decide +kernel
theorem dX6_agree_82 : decode cX6_agree 82 = .ok (.invokevirtual 95, 3) := by decide +kernel
theorem dX6_agree_85 : decode cX6_agree 85 = .ok (.goto 25, 3) := by decide +kernel
theorem dX6_agree_88 : decode cX6_agree 88 = .ok (.aload_n 0, 1) := by decide +kernel
theorem dX6_agree_89 : decode cX6_agree 89 = .ok (.aload_n 0, 1) := by decide +kernel
theorem dX6_agree_90 : decode cX6_agree 90 = .ok (.iload_n 1, 1) := by decide +kernel
theorem dX6_agree_91 : decode cX6_agree 91 = .ok (.iload_n 3, 1) := by decide +kernel
theorem dX6_agree_92 : decode cX6_agree 92 = .ok (.iload 4, 2) := by decide +kernel
theorem dX6_agree_94 : decode cX6_agree 94 = .ok (.iand, 1) := by decide +kernel
theorem dX6_agree_95 : decode cX6_agree 95 = .ok (.invokevirtual 95, 3) := by decide +kernel
theorem dX6_agree_98 : decode cX6_agree 98 = .ok (.aload_n 0, 1) := by decide +kernel
theorem dX6_agree_99 : decode cX6_agree 99 = .ok (.iload_n 1, 1) := by decide +kernel
theorem dX6_agree_100 : decode cX6_agree 100 = .ok (.iload_n 3, 1) := by decide +kernel
theorem dX6_agree_101 : decode cX6_agree 101 = .ok (.iload 4, 2) := by decide +kernel
theorem dX6_agree_103 : decode cX6_agree 103 = .ok (.ior, 1) := by decide +kernel
theorem dX6_agree_104 : decode cX6_agree 104 = .ok (.invokevirtual 95, 3) := by decide +kernel
theorem dX6_agree_107 : decode cX6_agree 107 = .ok (.invokevirtual 196, 3) := by decide +kernel
theorem dX6_agree_110 : decode cX6_agree 110 = .ok (.lcmp, 1) := by decide +kernel
theorem dX6_agree_111 : decode cX6_agree 111 = .ok (.ifCond .gt 7, 3) := by decide +kernel
theorem dX6_agree_114 : decode cX6_agree 114 = .ok (.iconst 1, 1) := by decide +kernel
theorem dX6_agree_115 : decode cX6_agree 115 = .ok (.goto 4, 3) := by decide +kernel
theorem dX6_agree_118 : decode cX6_agree 118 = .ok (.iconst 0, 1) := by decide +kernel
theorem dX6_agree_119 : decode cX6_agree 119 = .ok (.ireturn, 1) := by decide +kernel
set_option maxRecDepth 20000 in
theorem ggX6_is_X6_isGame : GoodIn wsX6_is wsX6_isGame := goodIn_r _ [6, 7, 8, 9, 5, 10] (by decide +kernel) (by decide +kernel)
set_option maxRecDepth 20000 in
theorem gX6_is_X6_isGame : GoodIn wsX6_is (va_wsS RX6 85 yX6_isGame wsX6_isGame) := goodIn_app (goodIn_of _ (by decide +kernel)) ggX6_is_X6_isGame
set_option maxRecDepth 20000 in
theorem ggX6_is_X6_isIn : GoodIn wsX6_is wsX6_isIn := goodIn_r _ [10] (by decide +kernel) (by decide +kernel)
set_option maxRecDepth 20000 in
theorem gX6_is_X6_isIn : GoodIn wsX6_is (va_wsS RX6 70 yX6_isIn wsX6_isIn) := goodIn_app (goodIn_of _ (by decide +kernel)) ggX6_is_X6_isIn
set_option maxRecDepth 20000 in
theorem ggX6_is_X6_all : GoodIn wsX6_is wsX6_all := goodIn_r _ [14, 15, 16, 17, 5, 18, 19, 32, 33, 34, 35, 36, 37, 38, 39, 40, 41, 42, 43, 44, 45, 46, 47] (by decide +kernel) (by decide +kernel)
set_option maxRecDepth 20000 in
theorem gX6_is_X6_all : GoodIn wsX6_is (wsV RX6 80 RX6 yX6_all wsX6_all) := goodIn_app (goodIn_of _ (by decide +kernel)) ggX6_is_X6_all
set_option maxRecDepth 20000 in
theorem ggX6_is_X6_agree : GoodIn wsX6_is wsX6_agree := goodIn_r _ [23, 24, 25, 26, 5, 27, 19, 28, 29, 30, 31, 2, 32, 33, 34, 35, 36, 37, 38, 39, 40, 41, 42, 43, 44, 45, 46, 47] (by decide +kernel) (by decide +kernel)
set_option maxRecDepth 20000 in
theorem gX6_is_X6_agree : GoodIn wsX6_is (wsV RX6 279 RX6 yX6_agree wsX6_agree) := goodIn_app (goodIn_of _ (by decide +kernel)) ggX6_is_X6_agree
theorem dX6_is_0 : decode cX6_is 0 = .ok (.iload_n 1, 1) := by decide +kernel
theorem dX6_is_1 : decode cX6_is 1 = .ok (.invokestatic 85, 3) := by decide +kernel
theorem dX6_is_4 : decode cX6_is 4 = .ok (.ifCond .eq 15, 3) := by decide +kernel
theorem dX6_is_7 : decode cX6_is 7 = .ok (.iload_n 2, 1) := by decide +kernel
theorem dX6_is_8 : decode cX6_is 8 = .ok (.i2l, 1) := by decide +kernel
theorem dX6_is_9 : decode cX6_is 9 = .ok (.lconst 0, 1) := by decide +kernel
theorem dX6_is_10 : decode cX6_is 10 = .ok (.ldc2_w 263, 3) := by decide +kernel
theorem dX6_is_13 : decode cX6_is 13 = .ok (.invokestatic 70, 3) := by decide +kernel
theorem dX6_is_16 : decode cX6_is 16 = .ok (.ifCond .ne 5, 3) := by decide +kernel
theorem dX6_is_19 : decode cX6_is 19 = .ok (.iconst (-1), 1) := by decide +kernel
theorem dX6_is_20 : decode cX6_is 20 = .ok (.ireturn, 1) := by decide +kernel
theorem dX6_is_21 : decode cX6_is 21 = .ok (.aload_n 0, 1) := by decide +kernel
theorem dX6_is_22 : decode cX6_is 22 = .ok (.iconst 0, 1) := by decide +kernel
theorem dX6_is_23 : decode cX6_is 23 = .ok (.putfield 54, 3) := by decide +kernel
theorem dX6_is_26 : decode cX6_is 26 = .ok (.iconst 0, 1) := by decide +kernel
theorem dX6_is_27 : decode cX6_is 27 = .ok (.istore_n 3, 1) := by decide +kernel
theorem dX6_is_28 : decode cX6_is 28 = .ok (.iload_n 3, 1) := by decide +kernel
theorem dX6_is_29 : decode cX6_is 29 = .ok (.aload_n 0, 1) := by decide +kernel
theorem dX6_is_30 : decode cX6_is 30 = .ok (.invokevirtual 80, 3) := by decide +kernel
theorem dX6_is_33 : decode cX6_is 33 = .ok (.if_icmp .gt 57, 3) := by decide +kernel
theorem dX6_is_36 : decode cX6_is 36 = .ok (.iload_n 3, 1) := by decide +kernel
theorem dX6_is_37 : decode cX6_is 37 = .ok (.iconst 1, 1) := by decide +kernel
theorem dX6_is_38 : decode cX6_is 38 = .ok (.iadd, 1) := by decide +kernel
theorem dX6_is_39 : decode cX6_is 39 = .ok (.istore 4, 2) := by decide +kernel
theorem dX6_is_41 : decode cX6_is 41 = .ok (.iload 4, 2) := by decide +kernel
theorem dX6_is_43 : decode cX6_is 43 = .ok (.aload_n 0, 1) := by decide +kernel
theorem dX6_is_44 : decode cX6_is 44 = .ok (.invokevirtual 80, 3) := by decide +kernel
theorem dX6_is_47 : decode cX6_is 47 = .ok (.if_icmp .gt 37, 3) := by decide +kernel
theorem dX6_is_50 : decode cX6_is 50 = .ok (.aload_n 0, 1) := by decide +kernel
theorem dX6_is_51 : decode cX6_is 51 = .ok (.iload_n 1, 1) := by decide +kernel
theorem dX6_is_52 : decode cX6_is 52 = .ok (.iload_n 2, 1) := by decide +kernel
theorem dX6_is_53 : decode cX6_is 53 = .ok (.iload_n 3, 1) := by decide +kernel
theorem dX6_is_54 : decode cX6_is 54 = .ok (.iload 4, 2) := by decide +kernel
theorem dX6_is_56 : decode cX6_is 56 = .ok (.invokevirtual 279, 3) := by decide +kernel
theorem dX6_is_59 : decode cX6_is 59 = .ok (.istore 5, 2) := by decide +kernel
theorem dX6_is_61 : decode cX6_is 61 = .ok (.aload_n 0, 1) := by decide +kernel
theorem dX6_is_62 : decode cX6_is 62 = .ok (.getfield 54, 3) := by decide +kernel
theorem dX6_is_65 : decode cX6_is 65 = .ok (.ifCond .eq 6, 3) := by decide +kernel
theorem dX6_is_68 : decode cX6_is 68 = .ok (.bipush (-6), 2) := by decide +kernel
theorem dX6_is_70 : decode cX6_is 70 = .ok (.ireturn, 1) := by decide +kernel
theorem dX6_is_71 : decode cX6_is 71 = .ok (.iload 5, 2) := by decide +kernel
theorem dX6_is_73 : decode cX6_is 73 = .ok (.ifCond .ne 5, 3) := by decide +kernel
theorem dX6_is_76 : decode cX6_is 76 = .ok (.iconst 0, 1) := by decide +kernel
theorem dX6_is_77 : decode cX6_is 77 = .ok (.ireturn, 1) := by decide +kernel
theorem dX6_is_78 : decode cX6_is 78 = .ok (.iinc 4 1, 3) := by decide +kernel
theorem dX6_is_81 : decode cX6_is 81 = .ok (.goto (-40), 3) := by decide +kernel
theorem dX6_is_84 : decode cX6_is 84 = .ok (.iinc 3 1, 3) := by decide +kernel
theorem dX6_is_87 : decode cX6_is 87 = .ok (.goto (-59), 3) := by decide +kernel
theorem dX6_is_90 : decode cX6_is 90 = .ok (.iconst 1, 1) := by decide +kernel
theorem dX6_is_91 : decode cX6_is 91 = .ok (.ireturn, 1) := by decide +kernel
set_option maxRecDepth 20000 in
theorem ggX6_summed_X6_n : GoodIn wsX6_summed wsX6_n := goodIn_r _ [6, 7, 16, 17, 18, 19, 20, 21, 22, 23, 24, 25, 26, 27, 28, 29, 30, 31] (by decide +kernel) (by decide +kernel)
set_option maxRecDepth 20000 in
theorem gX6_summed_X6_n : GoodIn wsX6_summed (wsV RX6 66 RX6 yX6_n wsX6_n) := goodIn_app (goodIn_of _ (by decide +kernel)) ggX6_summed_X6_n
set_option maxRecDepth 20000 in
theorem ggX6_summed_X6_has : GoodIn wsX6_summed wsX6_has := goodIn_r _ [10] (by decide +kernel) (by decide +kernel)
set_option maxRecDepth 20000 in
theorem gX6_summed_X6_has : GoodIn wsX6_summed (va_wsS RX6 164 yX6_has wsX6_has) := goodIn_app (goodIn_of _ (by decide +kernel)) ggX6_summed_X6_has
set_option maxRecDepth 20000 in
theorem ggX6_summed_X6_plus : GoodIn wsX6_summed wsX6_plus := goodIn_r _ [14, 15, 16, 17, 18, 19, 20, 21, 22, 23, 24, 25, 26, 27, 28, 29, 30, 31] (by decide +kernel) (by decide +kernel)
set_option maxRecDepth 20000 in
theorem gX6_summed_X6_plus : GoodIn wsX6_summed (wsV RX6 196 RX6 yX6_plus wsX6_plus) := goodIn_app (goodIn_of _ (by decide +kernel)) ggX6_summed_X6_plus
theorem dX6_summed_0 : decode cX6_summed 0 = .ok (.lconst 0, 1) := by decide +kernel
theorem dX6_summed_1 : decode cX6_summed 1 = .ok (.lstore 4, 2) := by decide +kernel
theorem dX6_summed_3 : decode cX6_summed 3 = .ok (.iconst 0, 1) := by decide +kernel
theorem dX6_summed_4 : decode cX6_summed 4 = .ok (.istore 6, 2) := by decide +kernel
theorem dX6_summed_6 : decode cX6_summed 6 = .ok (.iload 6, 2) := by decide +kernel
theorem dX6_summed_8 : decode cX6_summed 8 = .ok (.aload_n 0, 1) := by decide +kernel
theorem dX6_summed_9 : decode cX6_summed 9 = .ok (.invokevirtual 66, 3) := by decide +kernel
theorem dX6_summed_12 : decode cX6_summed 12 = .ok (.if_icmp .ge 40, 3) := by decide +kernel
theorem dX6_summed_15 : decode cX6_summed 15 = .ok (.iload_n 3, 1) := by decide +kernel
theorem dX6_summed_16 : decode cX6_summed 16 = .ok (.iload 6, 2) := by decide +kernel
theorem dX6_summed_18 : decode cX6_summed 18 = .ok (.invokestatic 164, 3) := by decide +kernel
theorem dX6_summed_21 : decode cX6_summed 21 = .ok (.ifCond .eq 25, 3) := by decide +kernel
theorem dX6_summed_24 : decode cX6_summed 24 = .ok (.aload_n 0, 1) := by decide +kernel
theorem dX6_summed_25 : decode cX6_summed 25 = .ok (.lload 4, 2) := by decide +kernel
theorem dX6_summed_27 : decode cX6_summed 27 = .ok (.aload_n 0, 1) := by decide +kernel
theorem dX6_summed_28 : decode cX6_summed 28 = .ok (.getfield 47, 3) := by decide +kernel
theorem dX6_summed_31 : decode cX6_summed 31 = .ok (.bipush 20, 2) := by decide +kernel
theorem dX6_summed_33 : decode cX6_summed 33 = .ok (.iload_n 1, 1) := by decide +kernel
theorem dX6_summed_34 : decode cX6_summed 34 = .ok (.imul, 1) := by decide +kernel
theorem dX6_summed_35 : decode cX6_summed 35 = .ok (.iload_n 2, 1) := by decide +kernel
theorem dX6_summed_36 : decode cX6_summed 36 = .ok (.iadd, 1) := by decide +kernel
theorem dX6_summed_37 : decode cX6_summed 37 = .ok (.iload 6, 2) := by decide +kernel
theorem dX6_summed_39 : decode cX6_summed 39 = .ok (.iadd, 1) := by decide +kernel
theorem dX6_summed_40 : decode cX6_summed 40 = .ok (.laload, 1) := by decide +kernel
theorem dX6_summed_41 : decode cX6_summed 41 = .ok (.invokevirtual 196, 3) := by decide +kernel
theorem dX6_summed_44 : decode cX6_summed 44 = .ok (.lstore 4, 2) := by decide +kernel
theorem dX6_summed_46 : decode cX6_summed 46 = .ok (.iinc 6 1, 3) := by decide +kernel
theorem dX6_summed_49 : decode cX6_summed 49 = .ok (.goto (-43), 3) := by decide +kernel
theorem dX6_summed_52 : decode cX6_summed 52 = .ok (.lload 4, 2) := by decide +kernel
theorem dX6_summed_54 : decode cX6_summed 54 = .ok (.lreturn, 1) := by decide +kernel
set_option maxRecDepth 20000 in
theorem ggX6_stable_X6_isGame : GoodIn wsX6_stable wsX6_isGame := goodIn_r _ [5, 6, 7, 8, 4, 9] (by decide +kernel) (by decide +kernel)
set_option maxRecDepth 20000 in
theorem gX6_stable_X6_isGame : GoodIn wsX6_stable (va_wsS RX6 85 yX6_isGame wsX6_isGame) := goodIn_app (goodIn_of _ (by decide +kernel)) ggX6_stable_X6_isGame
set_option maxRecDepth 20000 in
theorem ggX6_stable_X6_isRow : GoodIn wsX6_stable wsX6_isRow := goodIn_r _ [12, 6, 7, 8, 4, 9] (by decide +kernel) (by decide +kernel)
set_option maxRecDepth 20000 in
theorem gX6_stable_X6_isRow : GoodIn wsX6_stable (va_wsS RX6 216 yX6_isRow wsX6_isRow) := goodIn_app (goodIn_of _ (by decide +kernel)) ggX6_stable_X6_isRow
set_option maxRecDepth 20000 in
theorem ggX6_stable_X6_isThere : GoodIn wsX6_stable wsX6_isThere := goodIn_r _ [16, 17, 18, 19, 20, 4, 21, 22, 43, 44, 45, 46, 47, 48, 49, 50, 51, 52, 53, 54, 55, 56, 57, 58] (by decide +kernel) (by decide +kernel)
set_option maxRecDepth 20000 in
theorem gX6_stable_X6_isThere : GoodIn wsX6_stable (wsV RX6 213 RX6 yX6_isThere wsX6_isThere) := goodIn_app (goodIn_of _ (by decide +kernel)) ggX6_stable_X6_isThere
set_option maxRecDepth 20000 in
theorem ggX6_stable_X6_all : GoodIn wsX6_stable wsX6_all := goodIn_r _ [26, 18, 19, 20, 4, 21, 22, 43, 44, 45, 46, 47, 48, 49, 50, 51, 52, 53, 54, 55, 56, 57, 58] (by decide +kernel) (by decide +kernel)
set_option maxRecDepth 20000 in
theorem gX6_stable_X6_all : GoodIn wsX6_stable (wsV RX6 80 RX6 yX6_all wsX6_all) := goodIn_app (goodIn_of _ (by decide +kernel)) ggX6_stable_X6_all
set_option maxRecDepth 20000 in
theorem ggX6_stable_X6_summed : GoodIn wsX6_stable wsX6_summed := goodIn_r _ [30, 31, 18, 19, 20, 4, 21, 22, 32, 33, 34, 35, 36, 37, 38, 1, 43, 44, 45, 46, 47, 48, 49, 50, 51, 52, 53, 54, 55, 56, 57, 58] (by decide +kernel) (by decide +kernel)
set_option maxRecDepth 20000 in
theorem gX6_stable_X6_summed : GoodIn wsX6_stable (wsV RX6 282 RX6 yX6_summed wsX6_summed) := goodIn_app (goodIn_of _ (by decide +kernel)) ggX6_stable_X6_summed
set_option maxRecDepth 20000 in
theorem ggX6_stable_X6_v : GoodIn wsX6_stable wsX6_v := goodIn_r _ [42, 22, 43, 44, 45, 46, 47, 48, 49, 50, 51, 52, 53, 54, 55, 56, 57, 58] (by decide +kernel) (by decide +kernel)
set_option maxRecDepth 20000 in
theorem gX6_stable_X6_v : GoodIn wsX6_stable (wsV RX6 95 RX6 yX6_v wsX6_v) := goodIn_app (goodIn_of _ (by decide +kernel)) ggX6_stable_X6_v
theorem dX6_stable_0 : decode cX6_stable 0 = .ok (.iload_n 1, 1) := by decide +kernel
theorem dX6_stable_1 : decode cX6_stable 1 = .ok (.invokestatic 85, 3) := by decide +kernel
theorem dX6_stable_4 : decode cX6_stable 4 = .ok (.ifCond .eq 10, 3) := by decide +kernel
theorem dX6_stable_7 : decode cX6_stable 7 = .ok (.iload_n 2, 1) := by decide +kernel
theorem dX6_stable_8 : decode cX6_stable 8 = .ok (.invokestatic 216, 3) := by decide +kernel
theorem dX6_stable_11 : decode cX6_stable 11 = .ok (.ifCond .ne 5, 3) := by decide +kernel
theorem dX6_stable_14 : decode cX6_stable 14 = .ok (.iconst (-1), 1) := by decide +kernel
theorem dX6_stable_15 : decode cX6_stable 15 = .ok (.ireturn, 1) := by decide +kernel
theorem dX6_stable_16 : decode cX6_stable 16 = .ok (.aload_n 0, 1) := by decide +kernel
theorem dX6_stable_17 : decode cX6_stable 17 = .ok (.iload_n 2, 1) := by decide +kernel
theorem dX6_stable_18 : decode cX6_stable 18 = .ok (.iload_n 3, 1) := by decide +kernel
theorem dX6_stable_19 : decode cX6_stable 19 = .ok (.invokevirtual 213, 3) := by decide +kernel
theorem dX6_stable_22 : decode cX6_stable 22 = .ok (.ifCond .ne 6, 3) := by decide +kernel
theorem dX6_stable_25 : decode cX6_stable 25 = .ok (.bipush (-3), 2) := by decide +kernel
theorem dX6_stable_27 : decode cX6_stable 27 = .ok (.ireturn, 1) := by decide +kernel
theorem dX6_stable_28 : decode cX6_stable 28 = .ok (.aload_n 0, 1) := by decide +kernel
theorem dX6_stable_29 : decode cX6_stable 29 = .ok (.iconst 0, 1) := by decide +kernel
theorem dX6_stable_30 : decode cX6_stable 30 = .ok (.putfield 54, 3) := by decide +kernel
theorem dX6_stable_33 : decode cX6_stable 33 = .ok (.aload_n 0, 1) := by decide +kernel
theorem dX6_stable_34 : decode cX6_stable 34 = .ok (.iload_n 2, 1) := by decide +kernel
theorem dX6_stable_35 : decode cX6_stable 35 = .ok (.iload_n 3, 1) := by decide +kernel
theorem dX6_stable_36 : decode cX6_stable 36 = .ok (.aload_n 0, 1) := by decide +kernel
theorem dX6_stable_37 : decode cX6_stable 37 = .ok (.invokevirtual 80, 3) := by decide +kernel
theorem dX6_stable_40 : decode cX6_stable 40 = .ok (.invokevirtual 282, 3) := by decide +kernel
theorem dX6_stable_43 : decode cX6_stable 43 = .ok (.aload_n 0, 1) := by decide +kernel
theorem dX6_stable_44 : decode cX6_stable 44 = .ok (.iload_n 1, 1) := by decide +kernel
theorem dX6_stable_45 : decode cX6_stable 45 = .ok (.aload_n 0, 1) := by decide +kernel
theorem dX6_stable_46 : decode cX6_stable 46 = .ok (.invokevirtual 80, 3) := by decide +kernel
theorem dX6_stable_49 : decode cX6_stable 49 = .ok (.invokevirtual 95, 3) := by decide +kernel
theorem dX6_stable_52 : decode cX6_stable 52 = .ok (.lcmp, 1) := by decide +kernel
theorem dX6_stable_53 : decode cX6_stable 53 = .ok (.ifCond .ne 7, 3) := by decide +kernel
theorem dX6_stable_56 : decode cX6_stable 56 = .ok (.iconst 1, 1) := by decide +kernel
theorem dX6_stable_57 : decode cX6_stable 57 = .ok (.goto 4, 3) := by decide +kernel
theorem dX6_stable_60 : decode cX6_stable 60 = .ok (.iconst 0, 1) := by decide +kernel
theorem dX6_stable_61 : decode cX6_stable 61 = .ok (.istore 4, 2) := by decide +kernel
theorem dX6_stable_63 : decode cX6_stable 63 = .ok (.iconst 1, 1) := by decide +kernel
theorem dX6_stable_64 : decode cX6_stable 64 = .ok (.istore 5, 2) := by decide +kernel
theorem dX6_stable_66 : decode cX6_stable 66 = .ok (.iload 5, 2) := by decide +kernel
theorem dX6_stable_68 : decode cX6_stable 68 = .ok (.aload_n 0, 1) := by decide +kernel
theorem dX6_stable_69 : decode cX6_stable 69 = .ok (.invokevirtual 80, 3) := by decide +kernel
theorem dX6_stable_72 : decode cX6_stable 72 = .ok (.if_icmp .gt 47, 3) := by decide +kernel
theorem dX6_stable_75 : decode cX6_stable 75 = .ok (.iload 4, 2) := by decide +kernel
theorem dX6_stable_77 : decode cX6_stable 77 = .ok (.ifCond .eq 42, 3) := by decide +kernel
theorem dX6_stable_80 : decode cX6_stable 80 = .ok (.aload_n 0, 1) := by decide +kernel
theorem dX6_stable_81 : decode cX6_stable 81 = .ok (.getfield 54, 3) := by decide +kernel
theorem dX6_stable_84 : decode cX6_stable 84 = .ok (.ifCond .ne 35, 3) := by decide +kernel
theorem dX6_stable_87 : decode cX6_stable 87 = .ok (.aload_n 0, 1) := by decide +kernel
theorem dX6_stable_88 : decode cX6_stable 88 = .ok (.iload_n 1, 1) := by decide +kernel
theorem dX6_stable_89 : decode cX6_stable 89 = .ok (.iload 5, 2) := by decide +kernel
theorem dX6_stable_91 : decode cX6_stable 91 = .ok (.invokevirtual 95, 3) := by decide +kernel
theorem dX6_stable_94 : decode cX6_stable 94 = .ok (.aload_n 0, 1) := by decide +kernel
theorem dX6_stable_95 : decode cX6_stable 95 = .ok (.iload_n 2, 1) := by decide +kernel
theorem dX6_stable_96 : decode cX6_stable 96 = .ok (.iload_n 3, 1) := by decide +kernel
theorem dX6_stable_97 : decode cX6_stable 97 = .ok (.iload 5, 2) := by decide +kernel
theorem dX6_stable_99 : decode cX6_stable 99 = .ok (.invokevirtual 282, 3) := by decide +kernel
theorem dX6_stable_102 : decode cX6_stable 102 = .ok (.lcmp, 1) := by decide +kernel
theorem dX6_stable_103 : decode cX6_stable 103 = .ok (.ifCond .gt 7, 3) := by decide +kernel
theorem dX6_stable_106 : decode cX6_stable 106 = .ok (.iconst 1, 1) := by decide +kernel
theorem dX6_stable_107 : decode cX6_stable 107 = .ok (.goto 4, 3) := by decide +kernel
theorem dX6_stable_110 : decode cX6_stable 110 = .ok (.iconst 0, 1) := by decide +kernel
theorem dX6_stable_111 : decode cX6_stable 111 = .ok (.istore 4, 2) := by decide +kernel
theorem dX6_stable_113 : decode cX6_stable 113 = .ok (.iinc 5 1, 3) := by decide +kernel
theorem dX6_stable_116 : decode cX6_stable 116 = .ok (.goto (-50), 3) := by decide +kernel
theorem dX6_stable_119 : decode cX6_stable 119 = .ok (.aload_n 0, 1) := by decide +kernel
theorem dX6_stable_120 : decode cX6_stable 120 = .ok (.getfield 54, 3) := by decide +kernel
theorem dX6_stable_123 : decode cX6_stable 123 = .ok (.ifCond .eq 8, 3) := by decide +kernel
theorem dX6_stable_126 : decode cX6_stable 126 = .ok (.bipush (-6), 2) := by decide +kernel
theorem dX6_stable_128 : decode cX6_stable 128 = .ok (.goto 13, 3) := by decide +kernel
theorem dX6_stable_131 : decode cX6_stable 131 = .ok (.iload 4, 2) := by decide +kernel
theorem dX6_stable_133 : decode cX6_stable 133 = .ok (.ifCond .eq 7, 3) := by decide +kernel
theorem dX6_stable_136 : decode cX6_stable 136 = .ok (.iconst 1, 1) := by decide +kernel
theorem dX6_stable_137 : decode cX6_stable 137 = .ok (.goto 4, 3) := by decide +kernel
theorem dX6_stable_140 : decode cX6_stable 140 = .ok (.iconst 0, 1) := by decide +kernel
theorem dX6_stable_141 : decode cX6_stable 141 = .ok (.ireturn, 1) := by decide +kernel
set_option maxRecDepth 20000 in
theorem ggX6_worst_X6_isGame : GoodIn wsX6_worst wsX6_isGame := goodIn_r _ [5, 6, 7, 8, 4, 9] (by decide +kernel) (by decide +kernel)
set_option maxRecDepth 20000 in
theorem gX6_worst_X6_isGame : GoodIn wsX6_worst (va_wsS RX6 85 yX6_isGame wsX6_isGame) := goodIn_app (goodIn_of _ (by decide +kernel)) ggX6_worst_X6_isGame
set_option maxRecDepth 20000 in
theorem ggX6_worst_X6_isRow : GoodIn wsX6_worst wsX6_isRow := goodIn_r _ [12, 6, 7, 8, 4, 9] (by decide +kernel) (by decide +kernel)
set_option maxRecDepth 20000 in
theorem gX6_worst_X6_isRow : GoodIn wsX6_worst (va_wsS RX6 216 yX6_isRow wsX6_isRow) := goodIn_app (goodIn_of _ (by decide +kernel)) ggX6_worst_X6_isRow
set_option maxRecDepth 20000 in
theorem ggX6_worst_X6_isThere : GoodIn wsX6_worst wsX6_isThere := goodIn_r _ [16, 17, 18, 19, 20, 4, 21, 22, 47, 48, 49, 50, 51, 52, 53, 54, 55, 56, 57, 58, 59, 60, 61, 62] (by decide +kernel) (by decide +kernel)
set_option maxRecDepth 20000 in
theorem gX6_worst_X6_isThere : GoodIn wsX6_worst (wsV RX6 213 RX6 yX6_isThere wsX6_isThere) := goodIn_app (goodIn_of _ (by decide +kernel)) ggX6_worst_X6_isThere
set_option maxRecDepth 20000 in
theorem ggX6_worst_X6_all : GoodIn wsX6_worst wsX6_all := goodIn_r _ [26, 18, 19, 20, 4, 21, 22, 47, 48, 49, 50, 51, 52, 53, 54, 55, 56, 57, 58, 59, 60, 61, 62] (by decide +kernel) (by decide +kernel)
set_option maxRecDepth 20000 in
theorem gX6_worst_X6_all : GoodIn wsX6_worst (wsV RX6 80 RX6 yX6_all wsX6_all) := goodIn_app (goodIn_of _ (by decide +kernel)) ggX6_worst_X6_all
set_option maxRecDepth 20000 in
theorem ggX6_worst_X6_v : GoodIn wsX6_worst wsX6_v := goodIn_r _ [30, 22, 47, 48, 49, 50, 51, 52, 53, 54, 55, 56, 57, 58, 59, 60, 61, 62] (by decide +kernel) (by decide +kernel)
set_option maxRecDepth 20000 in
theorem gX6_worst_X6_v : GoodIn wsX6_worst (wsV RX6 95 RX6 yX6_v wsX6_v) := goodIn_app (goodIn_of _ (by decide +kernel)) ggX6_worst_X6_v
set_option maxRecDepth 20000 in
theorem ggX6_worst_X6_summed : GoodIn wsX6_worst wsX6_summed := goodIn_r _ [34, 35, 18, 19, 20, 4, 21, 22, 36, 37, 38, 39, 40, 41, 42, 1, 47, 48, 49, 50, 51, 52, 53, 54, 55, 56, 57, 58, 59, 60, 61, 62] (by decide +kernel) (by decide +kernel)
set_option maxRecDepth 20000 in
theorem gX6_worst_X6_summed : GoodIn wsX6_worst (wsV RX6 282 RX6 yX6_summed wsX6_summed) := goodIn_app (goodIn_of _ (by decide +kernel)) ggX6_worst_X6_summed
set_option maxRecDepth 20000 in
theorem ggX6_worst_X6_minus : GoodIn wsX6_worst wsX6_minus := goodIn_r _ [46, 1, 47, 48, 49, 50, 51, 52, 53, 54, 55, 56, 57, 58, 59, 60, 61, 62] (by decide +kernel) (by decide +kernel)
set_option maxRecDepth 20000 in
theorem gX6_worst_X6_minus : GoodIn wsX6_worst (wsV RX6 207 RX6 yX6_minus wsX6_minus) := goodIn_app (goodIn_of _ (by decide +kernel)) ggX6_worst_X6_minus
theorem dX6_worst_0 : decode cX6_worst 0 = .ok (.iload_n 1, 1) := by decide +kernel
theorem dX6_worst_1 : decode cX6_worst 1 = .ok (.invokestatic 85, 3) := by decide +kernel
theorem dX6_worst_4 : decode cX6_worst 4 = .ok (.ifCond .eq 10, 3) := by decide +kernel
theorem dX6_worst_7 : decode cX6_worst 7 = .ok (.iload_n 2, 1) := by decide +kernel
theorem dX6_worst_8 : decode cX6_worst 8 = .ok (.invokestatic 216, 3) := by decide +kernel
theorem dX6_worst_11 : decode cX6_worst 11 = .ok (.ifCond .ne 5, 3) := by decide +kernel
theorem dX6_worst_14 : decode cX6_worst 14 = .ok (.iconst (-1), 1) := by decide +kernel
theorem dX6_worst_15 : decode cX6_worst 15 = .ok (.ireturn, 1) := by decide +kernel
theorem dX6_worst_16 : decode cX6_worst 16 = .ok (.aload_n 0, 1) := by decide +kernel
theorem dX6_worst_17 : decode cX6_worst 17 = .ok (.iload_n 2, 1) := by decide +kernel
theorem dX6_worst_18 : decode cX6_worst 18 = .ok (.iload_n 3, 1) := by decide +kernel
theorem dX6_worst_19 : decode cX6_worst 19 = .ok (.invokevirtual 213, 3) := by decide +kernel
theorem dX6_worst_22 : decode cX6_worst 22 = .ok (.ifCond .ne 6, 3) := by decide +kernel
theorem dX6_worst_25 : decode cX6_worst 25 = .ok (.bipush (-3), 2) := by decide +kernel
theorem dX6_worst_27 : decode cX6_worst 27 = .ok (.ireturn, 1) := by decide +kernel
theorem dX6_worst_28 : decode cX6_worst 28 = .ok (.aload_n 0, 1) := by decide +kernel
theorem dX6_worst_29 : decode cX6_worst 29 = .ok (.iconst 0, 1) := by decide +kernel
theorem dX6_worst_30 : decode cX6_worst 30 = .ok (.putfield 54, 3) := by decide +kernel
theorem dX6_worst_33 : decode cX6_worst 33 = .ok (.bipush (-5), 2) := by decide +kernel
theorem dX6_worst_35 : decode cX6_worst 35 = .ok (.istore 4, 2) := by decide +kernel
theorem dX6_worst_37 : decode cX6_worst 37 = .ok (.lconst 0, 1) := by decide +kernel
theorem dX6_worst_38 : decode cX6_worst 38 = .ok (.lstore 5, 2) := by decide +kernel
theorem dX6_worst_40 : decode cX6_worst 40 = .ok (.iconst 1, 1) := by decide +kernel
theorem dX6_worst_41 : decode cX6_worst 41 = .ok (.istore 7, 2) := by decide +kernel
theorem dX6_worst_43 : decode cX6_worst 43 = .ok (.iload 7, 2) := by decide +kernel
theorem dX6_worst_45 : decode cX6_worst 45 = .ok (.aload_n 0, 1) := by decide +kernel
theorem dX6_worst_46 : decode cX6_worst 46 = .ok (.invokevirtual 80, 3) := by decide +kernel
theorem dX6_worst_49 : decode cX6_worst 49 = .ok (.if_icmp .ge 54, 3) := by decide +kernel
theorem dX6_worst_52 : decode cX6_worst 52 = .ok (.aload_n 0, 1) := by decide +kernel
theorem dX6_worst_53 : decode cX6_worst 53 = .ok (.aload_n 0, 1) := by decide +kernel
theorem dX6_worst_54 : decode cX6_worst 54 = .ok (.iload_n 1, 1) := by decide +kernel
theorem dX6_worst_55 : decode cX6_worst 55 = .ok (.iload 7, 2) := by decide +kernel
theorem dX6_worst_57 : decode cX6_worst 57 = .ok (.invokevirtual 95, 3) := by decide +kernel
theorem dX6_worst_60 : decode cX6_worst 60 = .ok (.aload_n 0, 1) := by decide +kernel
theorem dX6_worst_61 : decode cX6_worst 61 = .ok (.iload_n 2, 1) := by decide +kernel
theorem dX6_worst_62 : decode cX6_worst 62 = .ok (.iload_n 3, 1) := by decide +kernel
theorem dX6_worst_63 : decode cX6_worst 63 = .ok (.iload 7, 2) := by decide +kernel
theorem dX6_worst_65 : decode cX6_worst 65 = .ok (.invokevirtual 282, 3) := by decide +kernel
theorem dX6_worst_68 : decode cX6_worst 68 = .ok (.invokevirtual 207, 3) := by decide +kernel
theorem dX6_worst_71 : decode cX6_worst 71 = .ok (.lstore 8, 2) := by decide +kernel
theorem dX6_worst_73 : decode cX6_worst 73 = .ok (.iload 4, 2) := by decide +kernel
theorem dX6_worst_75 : decode cX6_worst 75 = .ok (.ifCond .lt 14, 3) := by decide +kernel
theorem dX6_worst_78 : decode cX6_worst 78 = .ok (.lload 8, 2) := by decide +kernel
theorem dX6_worst_80 : decode cX6_worst 80 = .ok (.lload 5, 2) := by decide +kernel
theorem dX6_worst_82 : decode cX6_worst 82 = .ok (.lcmp, 1) := by decide +kernel
theorem dX6_worst_83 : decode cX6_worst 83 = .ok (.ifCond .gt 6, 3) := by decide +kernel
theorem dX6_worst_86 : decode cX6_worst 86 = .ok (.goto 11, 3) := by decide +kernel
theorem dX6_worst_89 : decode cX6_worst 89 = .ok (.iload 7, 2) := by decide +kernel
theorem dX6_worst_91 : decode cX6_worst 91 = .ok (.istore 4, 2) := by decide +kernel
theorem dX6_worst_93 : decode cX6_worst 93 = .ok (.lload 8, 2) := by decide +kernel
theorem dX6_worst_95 : decode cX6_worst 95 = .ok (.lstore 5, 2) := by decide +kernel
theorem dX6_worst_97 : decode cX6_worst 97 = .ok (.iinc 7 1, 3) := by decide +kernel
theorem dX6_worst_100 : decode cX6_worst 100 = .ok (.goto (-57), 3) := by decide +kernel
theorem dX6_worst_103 : decode cX6_worst 103 = .ok (.aload_n 0, 1) := by decide +kernel
theorem dX6_worst_104 : decode cX6_worst 104 = .ok (.getfield 54, 3) := by decide +kernel
theorem dX6_worst_107 : decode cX6_worst 107 = .ok (.ifCond .eq 8, 3) := by decide +kernel
theorem dX6_worst_110 : decode cX6_worst 110 = .ok (.bipush (-6), 2) := by decide +kernel
theorem dX6_worst_112 : decode cX6_worst 112 = .ok (.goto 5, 3) := by decide +kernel
theorem dX6_worst_115 : decode cX6_worst 115 = .ok (.iload 4, 2) := by decide +kernel
theorem dX6_worst_117 : decode cX6_worst 117 = .ok (.ireturn, 1) := by decide +kernel
set_option maxRecDepth 20000 in
theorem ggX6_excess_X6_isGame : GoodIn wsX6_excess wsX6_isGame := goodIn_r _ [6, 7, 8, 9, 5, 10] (by decide +kernel) (by decide +kernel)
set_option maxRecDepth 20000 in
theorem gX6_excess_X6_isGame : GoodIn wsX6_excess (va_wsS RX6 85 yX6_isGame wsX6_isGame) := goodIn_app (goodIn_of _ (by decide +kernel)) ggX6_excess_X6_isGame
set_option maxRecDepth 20000 in
theorem ggX6_excess_X6_isRow : GoodIn wsX6_excess wsX6_isRow := goodIn_r _ [13, 7, 8, 9, 5, 10] (by decide +kernel) (by decide +kernel)
set_option maxRecDepth 20000 in
theorem gX6_excess_X6_isRow : GoodIn wsX6_excess (va_wsS RX6 216 yX6_isRow wsX6_isRow) := goodIn_app (goodIn_of _ (by decide +kernel)) ggX6_excess_X6_isRow
set_option maxRecDepth 20000 in
theorem ggX6_excess_X6_isSet : GoodIn wsX6_excess wsX6_isSet := goodIn_r _ [17, 18, 19, 20, 5, 21, 22, 23, 24, 25, 26, 8, 9, 10, 52, 53, 54, 55, 56, 57, 58, 59, 60, 61, 62, 63, 64, 65, 66, 67] (by decide +kernel) (by decide +kernel)
set_option maxRecDepth 20000 in
theorem gX6_excess_X6_isSet : GoodIn wsX6_excess (wsV RX6 88 RX6 yX6_isSet wsX6_isSet) := goodIn_app (goodIn_of _ (by decide +kernel)) ggX6_excess_X6_isSet
set_option maxRecDepth 20000 in
theorem ggX6_excess_X6_isThere : GoodIn wsX6_excess wsX6_isThere := goodIn_r _ [30, 31, 22, 23, 24, 5, 25, 26, 52, 53, 54, 55, 56, 57, 58, 59, 60, 61, 62, 63, 64, 65, 66, 67] (by decide +kernel) (by decide +kernel)
set_option maxRecDepth 20000 in
theorem gX6_excess_X6_isThere : GoodIn wsX6_excess (wsV RX6 213 RX6 yX6_isThere wsX6_isThere) := goodIn_app (goodIn_of _ (by decide +kernel)) ggX6_excess_X6_isThere
set_option maxRecDepth 20000 in
theorem ggX6_excess_X6_v : GoodIn wsX6_excess wsX6_v := goodIn_r _ [35, 26, 52, 53, 54, 55, 56, 57, 58, 59, 60, 61, 62, 63, 64, 65, 66, 67] (by decide +kernel) (by decide +kernel)
set_option maxRecDepth 20000 in
theorem gX6_excess_X6_v : GoodIn wsX6_excess (wsV RX6 95 RX6 yX6_v wsX6_v) := goodIn_app (goodIn_of _ (by decide +kernel)) ggX6_excess_X6_v
set_option maxRecDepth 20000 in
theorem ggX6_excess_X6_summed : GoodIn wsX6_excess wsX6_summed := goodIn_r _ [39, 40, 22, 23, 24, 5, 25, 26, 41, 42, 43, 44, 45, 46, 47, 2, 52, 53, 54, 55, 56, 57, 58, 59, 60, 61, 62, 63, 64, 65, 66, 67] (by decide +kernel) (by decide +kernel)
set_option maxRecDepth 20000 in
theorem gX6_excess_X6_summed : GoodIn wsX6_excess (wsV RX6 282 RX6 yX6_summed wsX6_summed) := goodIn_app (goodIn_of _ (by decide +kernel)) ggX6_excess_X6_summed
set_option maxRecDepth 20000 in
theorem ggX6_excess_X6_minus : GoodIn wsX6_excess wsX6_minus := goodIn_r _ [51, 2, 52, 53, 54, 55, 56, 57, 58, 59, 60, 61, 62, 63, 64, 65, 66, 67] (by decide +kernel) (by decide +kernel)
set_option maxRecDepth 20000 in
theorem gX6_excess_X6_minus : GoodIn wsX6_excess (wsV RX6 207 RX6 yX6_minus wsX6_minus) := goodIn_app (goodIn_of _ (by decide +kernel)) ggX6_excess_X6_minus
theorem dX6_excess_0 : decode cX6_excess 0 = .ok (.iload_n 1, 1) := by decide +kernel
theorem dX6_excess_1 : decode cX6_excess 1 = .ok (.invokestatic 85, 3) := by decide +kernel
theorem dX6_excess_4 : decode cX6_excess 4 = .ok (.ifCond .eq 28, 3) := by decide +kernel
theorem dX6_excess_7 : decode cX6_excess 7 = .ok (.iload_n 2, 1) := by decide +kernel
theorem dX6_excess_8 : decode cX6_excess 8 = .ok (.invokestatic 216, 3) := by decide +kernel
theorem dX6_excess_11 : decode cX6_excess 11 = .ok (.ifCond .eq 21, 3) := by decide +kernel
theorem dX6_excess_14 : decode cX6_excess 14 = .ok (.aload_n 0, 1) := by decide +kernel
theorem dX6_excess_15 : decode cX6_excess 15 = .ok (.iload 4, 2) := by decide +kernel
theorem dX6_excess_17 : decode cX6_excess 17 = .ok (.invokevirtual 88, 3) := by decide +kernel
theorem dX6_excess_20 : decode cX6_excess 20 = .ok (.ifCond .eq 12, 3) := by decide +kernel
theorem dX6_excess_23 : decode cX6_excess 23 = .ok (.aload_n 0, 1) := by decide +kernel
theorem dX6_excess_24 : decode cX6_excess 24 = .ok (.iload_n 2, 1) := by decide +kernel
theorem dX6_excess_25 : decode cX6_excess 25 = .ok (.iload_n 3, 1) := by decide +kernel
theorem dX6_excess_26 : decode cX6_excess 26 = .ok (.invokevirtual 213, 3) := by decide +kernel
theorem dX6_excess_29 : decode cX6_excess 29 = .ok (.ifCond .ne 7, 3) := by decide +kernel
theorem dX6_excess_32 : decode cX6_excess 32 = .ok (.ldc2_w 60, 3) := by decide +kernel
theorem dX6_excess_35 : decode cX6_excess 35 = .ok (.lreturn, 1) := by decide +kernel
theorem dX6_excess_36 : decode cX6_excess 36 = .ok (.aload_n 0, 1) := by decide +kernel
theorem dX6_excess_37 : decode cX6_excess 37 = .ok (.iconst 0, 1) := by decide +kernel
theorem dX6_excess_38 : decode cX6_excess 38 = .ok (.putfield 54, 3) := by decide +kernel
theorem dX6_excess_41 : decode cX6_excess 41 = .ok (.aload_n 0, 1) := by decide +kernel
theorem dX6_excess_42 : decode cX6_excess 42 = .ok (.aload_n 0, 1) := by decide +kernel
theorem dX6_excess_43 : decode cX6_excess 43 = .ok (.iload_n 1, 1) := by decide +kernel
theorem dX6_excess_44 : decode cX6_excess 44 = .ok (.iload 4, 2) := by decide +kernel
theorem dX6_excess_46 : decode cX6_excess 46 = .ok (.invokevirtual 95, 3) := by decide +kernel
theorem dX6_excess_49 : decode cX6_excess 49 = .ok (.aload_n 0, 1) := by decide +kernel
theorem dX6_excess_50 : decode cX6_excess 50 = .ok (.iload_n 2, 1) := by decide +kernel
theorem dX6_excess_51 : decode cX6_excess 51 = .ok (.iload_n 3, 1) := by decide +kernel
theorem dX6_excess_52 : decode cX6_excess 52 = .ok (.iload 4, 2) := by decide +kernel
theorem dX6_excess_54 : decode cX6_excess 54 = .ok (.invokevirtual 282, 3) := by decide +kernel
theorem dX6_excess_57 : decode cX6_excess 57 = .ok (.invokevirtual 207, 3) := by decide +kernel
theorem dX6_excess_60 : decode cX6_excess 60 = .ok (.lstore 5, 2) := by decide +kernel
theorem dX6_excess_62 : decode cX6_excess 62 = .ok (.aload_n 0, 1) := by decide +kernel
theorem dX6_excess_63 : decode cX6_excess 63 = .ok (.getfield 54, 3) := by decide +kernel
theorem dX6_excess_66 : decode cX6_excess 66 = .ok (.ifCond .eq 9, 3) := by decide +kernel
theorem dX6_excess_69 : decode cX6_excess 69 = .ok (.ldc2_w 60, 3) := by decide +kernel
theorem dX6_excess_72 : decode cX6_excess 72 = .ok (.goto 5, 3) := by decide +kernel
theorem dX6_excess_75 : decode cX6_excess 75 = .ok (.lload 5, 2) := by decide +kernel
theorem dX6_excess_77 : decode cX6_excess 77 = .ok (.lreturn, 1) := by decide +kernel
set_option maxRecDepth 20000 in
theorem ggX6_spell_X6_isGame : GoodIn wsX6_spell wsX6_isGame := goodIn_r _ [11, 12, 13, 14, 10, 15] (by decide +kernel) (by decide +kernel)
set_option maxRecDepth 20000 in
theorem gX6_spell_X6_isGame : GoodIn wsX6_spell (va_wsS RX6 85 yX6_isGame wsX6_isGame) := goodIn_app (goodIn_of _ (by decide +kernel)) ggX6_spell_X6_isGame
set_option maxRecDepth 20000 in
theorem ggX6_spell_X6_n : GoodIn wsX6_spell wsX6_n := goodIn_r _ [19, 20, 301, 302, 303, 304, 305, 306, 307, 308, 309, 310, 311, 312, 313, 314, 315, 316] (by decide +kernel) (by decide +kernel)
set_option maxRecDepth 20000 in
theorem gX6_spell_X6_n : GoodIn wsX6_spell (wsV RX6 66 RX6 yX6_n wsX6_n) := goodIn_app (goodIn_of _ (by decide +kernel)) ggX6_spell_X6_n
set_option maxRecDepth 20000 in
theorem ggX6_spell_X6_shares : GoodIn wsX6_spell wsX6_shares := goodIn_r _ [24, 1, 2, 3, 25, 26, 27, 10, 28, 16, 17, 18, 19, 20, 29, 30, 31, 32, 33, 34, 35, 36, 37, 38, 39, 40, 41, 42, 43, 44, 45, 46, 47, 48, 49, 50, 51, 52, 53, 54, 55, 56, 301, 302, 303, 304, 305, 306, 307, 308, 309, 310, 311, 312, 313, 314, 315, 316] (by decide +kernel) (by decide +kernel)
set_option maxRecDepth 20000 in
theorem gX6_spell_X6_shares : GoodIn wsX6_spell (wsV RX6 234 RX6 yX6_shares wsX6_shares) := goodIn_app (goodIn_of _ (by decide +kernel)) ggX6_spell_X6_shares
set_option maxRecDepth 20000 in
theorem ggX6_spell_X6_part : GoodIn wsX6_spell wsX6_part := goodIn_r _ [59, 60, 61, 10, 62] (by decide +kernel) (by decide +kernel)
set_option maxRecDepth 20000 in
theorem gX6_spell_X6_part : GoodIn wsX6_spell (va_wsS RX6 238 yX6_part wsX6_part) := goodIn_app (goodIn_of _ (by decide +kernel)) ggX6_spell_X6_part
set_option maxRecDepth 20000 in
theorem ggX6_spell_J4_init_da8c8 : GoodIn wsX6_spell wsJ4_init_da8c8 := goodIn_r _ [65, 66, 67, 68, 69, 70, 71, 72, 73, 74, 75, 76, 77, 78, 79, 80, 81, 82, 83, 84, 317, 318, 319, 320] (by decide +kernel) (by decide +kernel)
set_option maxRecDepth 20000 in
theorem gX6_spell_J4_init_da8c8 : GoodIn wsX6_spell (wsJ4_init_da8c8) := ggX6_spell_J4_init_da8c8
set_option maxRecDepth 20000 in
theorem ggX6_spell_J4_append_15ec4 : GoodIn wsX6_spell wsJ4_append_15ec4 := goodIn_r _ [88, 89, 90, 91, 92, 68, 93, 94, 95, 96, 97, 98, 99, 75, 100, 101, 102, 103, 104, 76, 105, 106, 107, 108, 109, 110, 111, 112, 113, 114, 115, 116, 117, 118, 119, 120, 121, 122, 123, 124, 125, 126, 127, 128, 129, 130, 131, 132, 74, 133, 134, 135, 136, 137, 138, 139, 140, 141, 142, 143, 144, 73, 145, 146, 79, 147, 148, 149, 150, 151, 152, 153, 154, 155, 156, 157, 158, 159, 160, 161, 162, 163, 164, 165, 166, 167, 168, 169, 170, 171, 172, 173, 174, 175, 176, 177, 178, 179, 180, 181, 182, 183, 184, 185, 186, 187, 188, 189, 190, 191, 192, 193, 194, 195, 77, 78, 80, 81, 82, 83, 84, 196, 197, 198, 199, 200, 201, 202, 203, 204, 205, 206, 207, 208, 209, 210, 211, 212, 213, 214, 215, 216, 217, 317, 318, 319, 320, 321, 322, 323, 324] (by decide +kernel) (by decide +kernel)
set_option maxRecDepth 20000 in
theorem gX6_spell_J4_append_15ec4 : GoodIn wsX6_spell (wsV RX6 288 RJ4 yJ4_append_15ec4 wsJ4_append_15ec4) := goodIn_app (goodIn_of _ (by decide +kernel)) ggX6_spell_J4_append_15ec4
set_option maxRecDepth 20000 in
theorem ggX6_spell_J4_append_f7089 : GoodIn wsX6_spell wsJ4_append_f7089 := goodIn_r _ [221, 222, 223, 91, 224, 68, 225, 94, 75, 226, 227, 228, 229, 230, 231, 100, 101, 102, 103, 104, 76, 105, 106, 107, 108, 109, 110, 111, 112, 113, 114, 115, 116, 117, 118, 119, 120, 121, 122, 123, 124, 125, 126, 127, 128, 129, 130, 131, 132, 74, 133, 134, 135, 136, 137, 138, 139, 140, 141, 142, 143, 144, 73, 232, 233, 234, 235, 236, 237, 238, 239, 240, 79, 241, 148, 149, 150, 151, 152, 153, 154, 155, 156, 157, 158, 159, 160, 161, 162, 163, 242, 243, 244, 245, 246, 247, 248, 164, 165, 166, 167, 168, 317, 318, 319, 320] (by decide +kernel) (by decide +kernel)
set_option maxRecDepth 20000 in
theorem gX6_spell_J4_append_f7089 : GoodIn wsX6_spell (wsV RX6 294 RJ4 yJ4_append_f7089 wsJ4_append_f7089) := goodIn_app (goodIn_of _ (by decide +kernel)) ggX6_spell_J4_append_f7089
set_option maxRecDepth 20000 in
theorem ggX6_spell_J4_toString_0e30d : GoodIn wsX6_spell wsJ4_toString_0e30d := goodIn_r _ [252, 253, 254, 157, 255, 256, 257, 258, 259, 260, 261, 71, 72, 179, 173, 178, 262, 263, 264, 265, 266, 68, 267, 75, 268, 269, 270, 271, 272, 6, 273, 274, 91, 275, 276, 94, 277, 141, 142, 143, 144, 73, 76, 278, 279, 125, 280, 127, 128, 129, 130, 131, 132, 281, 282, 283, 74, 133, 134, 117, 135, 136, 137, 138, 139, 284, 285, 286, 287, 288, 79, 289, 290, 291, 292, 203, 204, 205, 152, 153, 154, 206, 207, 208, 159, 209, 210, 162, 211, 293, 294, 295, 148, 167, 168, 81, 82, 83, 84, 296, 297, 298, 299, 321, 322, 323, 324, 317, 318, 319, 320] (by decide +kernel) (by decide +kernel)
set_option maxRecDepth 20000 in
theorem gX6_spell_J4_toString_0e30d : GoodIn wsX6_spell (wsV RX6 299 RJ4 yJ4_toString_0e30d wsJ4_toString_0e30d) := goodIn_app (goodIn_of _ (by decide +kernel)) ggX6_spell_J4_toString_0e30d
set_option maxRecDepth 20000 in
theorem ggX6_spell_J0_length_8abf5 : GoodIn wsX6_spell wsJ0_length_8abf5 := goodIn_r _ [172, 173, 174, 175, 176, 157, 177, 178, 179, 321, 322, 323, 324] (by decide +kernel) (by decide +kernel)
set_option maxRecDepth 20000 in
theorem gX6_spell_J0_length_8abf5 : GoodIn wsX6_spell (wsV RX6 303 RJ0 yJ0_length_8abf5 wsJ0_length_8abf5) := goodIn_app (goodIn_of _ (by decide +kernel)) ggX6_spell_J0_length_8abf5
theorem dX6_spell_0 : decode cX6_spell 0 = .ok (.iload_n 1, 1) := by decide +kernel
theorem dX6_spell_1 : decode cX6_spell 1 = .ok (.invokestatic 85, 3) := by decide +kernel
theorem dX6_spell_4 : decode cX6_spell 4 = .ok (.ifCond .ne 5, 3) := by decide +kernel
theorem dX6_spell_7 : decode cX6_spell 7 = .ok (.iconst (-1), 1) := by decide +kernel
theorem dX6_spell_8 : decode cX6_spell 8 = .ok (.ireturn, 1) := by decide +kernel
theorem dX6_spell_9 : decode cX6_spell 9 = .ok (.ldc 34, 2) := by decide +kernel
theorem dX6_spell_11 : decode cX6_spell 11 = .ok (.astore_n 2, 1) := by decide +kernel
theorem dX6_spell_12 : decode cX6_spell 12 = .ok (.iconst 0, 1) := by decide +kernel
theorem dX6_spell_13 : decode cX6_spell 13 = .ok (.istore_n 3, 1) := by decide +kernel
theorem dX6_spell_14 : decode cX6_spell 14 = .ok (.iload_n 3, 1) := by decide +kernel
theorem dX6_spell_15 : decode cX6_spell 15 = .ok (.aload_n 0, 1) := by decide +kernel
theorem dX6_spell_16 : decode cX6_spell 16 = .ok (.invokevirtual 66, 3) := by decide +kernel
theorem dX6_spell_19 : decode cX6_spell 19 = .ok (.if_icmp .ge 130, 3) := by decide +kernel
theorem dX6_spell_22 : decode cX6_spell 22 = .ok (.aload_n 0, 1) := by decide +kernel
theorem dX6_spell_23 : decode cX6_spell 23 = .ok (.iload_n 1, 1) := by decide +kernel
theorem dX6_spell_24 : decode cX6_spell 24 = .ok (.iload_n 3, 1) := by decide +kernel
theorem dX6_spell_25 : decode cX6_spell 25 = .ok (.invokevirtual 234, 3) := by decide +kernel
theorem dX6_spell_28 : decode cX6_spell 28 = .ok (.aload_n 0, 1) := by decide +kernel
theorem dX6_spell_29 : decode cX6_spell 29 = .ok (.getfield 54, 3) := by decide +kernel
theorem dX6_spell_32 : decode cX6_spell 32 = .ok (.ifCond .eq 6, 3) := by decide +kernel
theorem dX6_spell_35 : decode cX6_spell 35 = .ok (.bipush (-6), 2) := by decide +kernel
theorem dX6_spell_37 : decode cX6_spell 37 = .ok (.ireturn, 1) := by decide +kernel
theorem dX6_spell_38 : decode cX6_spell 38 = .ok (.aload_n 0, 1) := by decide +kernel
theorem dX6_spell_39 : decode cX6_spell 39 = .ok (.getfield 226, 3) := by decide +kernel
theorem dX6_spell_42 : decode cX6_spell 42 = .ok (.aload_n 0, 1) := by decide +kernel
theorem dX6_spell_43 : decode cX6_spell 43 = .ok (.getfield 21, 3) := by decide +kernel
theorem dX6_spell_46 : decode cX6_spell 46 = .ok (.aload_n 0, 1) := by decide +kernel
theorem dX6_spell_47 : decode cX6_spell 47 = .ok (.invokevirtual 66, 3) := by decide +kernel
theorem dX6_spell_50 : decode cX6_spell 50 = .ok (.laload, 1) := by decide +kernel
theorem dX6_spell_51 : decode cX6_spell 51 = .ok (.iconst 1, 1) := by decide +kernel
theorem dX6_spell_52 : decode cX6_spell 52 = .ok (.invokestatic 238, 3) := by decide +kernel
theorem dX6_spell_55 : decode cX6_spell 55 = .ok (.lstore 4, 2) := by decide +kernel
theorem dX6_spell_57 : decode cX6_spell 57 = .ok (.new 285, 3) := by decide +kernel
theorem dX6_spell_60 : decode cX6_spell 60 = .ok (.dup, 1) := by decide +kernel
theorem dX6_spell_61 : decode cX6_spell 61 = .ok (.invokespecial 287, 3) := by decide +kernel
theorem dX6_spell_64 : decode cX6_spell 64 = .ok (.aload_n 2, 1) := by decide +kernel
theorem dX6_spell_65 : decode cX6_spell 65 = .ok (.invokevirtual 288, 3) := by decide +kernel
theorem dX6_spell_68 : decode cX6_spell 68 = .ok (.iload_n 3, 1) := by decide +kernel
theorem dX6_spell_69 : decode cX6_spell 69 = .ok (.ifCond .ne 8, 3) := by decide +kernel
theorem dX6_spell_72 : decode cX6_spell 72 = .ok (.ldc 34, 2) := by decide +kernel
theorem dX6_spell_74 : decode cX6_spell 74 = .ok (.goto 6, 3) := by decide +kernel
theorem dX6_spell_77 : decode cX6_spell 77 = .ok (.ldc_w 292, 3) := by decide +kernel
theorem dX6_spell_80 : decode cX6_spell 80 = .ok (.invokevirtual 288, 3) := by decide +kernel
theorem dX6_spell_83 : decode cX6_spell 83 = .ok (.aload_n 0, 1) := by decide +kernel
theorem dX6_spell_84 : decode cX6_spell 84 = .ok (.getfield 226, 3) := by decide +kernel
theorem dX6_spell_87 : decode cX6_spell 87 = .ok (.aload_n 0, 1) := by decide +kernel
theorem dX6_spell_88 : decode cX6_spell 88 = .ok (.getfield 21, 3) := by decide +kernel
theorem dX6_spell_91 : decode cX6_spell 91 = .ok (.aload_n 0, 1) := by decide +kernel
theorem dX6_spell_92 : decode cX6_spell 92 = .ok (.invokevirtual 66, 3) := by decide +kernel
theorem dX6_spell_95 : decode cX6_spell 95 = .ok (.laload, 1) := by decide +kernel
theorem dX6_spell_96 : decode cX6_spell 96 = .ok (.iconst 0, 1) := by decide +kernel
theorem dX6_spell_97 : decode cX6_spell 97 = .ok (.invokestatic 238, 3) := by decide +kernel
theorem dX6_spell_100 : decode cX6_spell 100 = .ok (.invokevirtual 294, 3) := by decide +kernel
theorem dX6_spell_103 : decode cX6_spell 103 = .ok (.lload 4, 2) := by decide +kernel
theorem dX6_spell_105 : decode cX6_spell 105 = .ok (.lconst 1, 1) := by decide +kernel
theorem dX6_spell_106 : decode cX6_spell 106 = .ok (.lcmp, 1) := by decide +kernel
theorem dX6_spell_107 : decode cX6_spell 107 = .ok (.ifCond .ne 8, 3) := by decide +kernel
theorem dX6_spell_110 : decode cX6_spell 110 = .ok (.ldc 34, 2) := by decide +kernel
theorem dX6_spell_112 : decode cX6_spell 112 = .ok (.goto 24, 3) := by decide +kernel
theorem dX6_spell_115 : decode cX6_spell 115 = .ok (.new 285, 3) := by decide +kernel
theorem dX6_spell_118 : decode cX6_spell 118 = .ok (.dup, 1) := by decide +kernel
theorem dX6_spell_119 : decode cX6_spell 119 = .ok (.invokespecial 287, 3) := by decide +kernel
theorem dX6_spell_122 : decode cX6_spell 122 = .ok (.ldc_w 297, 3) := by decide +kernel
theorem dX6_spell_125 : decode cX6_spell 125 = .ok (.invokevirtual 288, 3) := by decide +kernel
theorem dX6_spell_128 : decode cX6_spell 128 = .ok (.lload 4, 2) := by decide +kernel
theorem dX6_spell_130 : decode cX6_spell 130 = .ok (.invokevirtual 294, 3) := by decide +kernel
theorem dX6_spell_133 : decode cX6_spell 133 = .ok (.invokevirtual 299, 3) := by decide +kernel
theorem dX6_spell_136 : decode cX6_spell 136 = .ok (.invokevirtual 288, 3) := by decide +kernel
theorem dX6_spell_139 : decode cX6_spell 139 = .ok (.invokevirtual 299, 3) := by decide +kernel
theorem dX6_spell_142 : decode cX6_spell 142 = .ok (.astore_n 2, 1) := by decide +kernel
theorem dX6_spell_143 : decode cX6_spell 143 = .ok (.iinc 3 1, 3) := by decide +kernel
theorem dX6_spell_146 : decode cX6_spell 146 = .ok (.goto (-132), 3) := by decide +kernel
theorem dX6_spell_149 : decode cX6_spell 149 = .ok (.aload_n 0, 1) := by decide +kernel
theorem dX6_spell_150 : decode cX6_spell 150 = .ok (.aload_n 2, 1) := by decide +kernel
theorem dX6_spell_151 : decode cX6_spell 151 = .ok (.putfield 36, 3) := by decide +kernel
theorem dX6_spell_154 : decode cX6_spell 154 = .ok (.aload_n 2, 1) := by decide +kernel
theorem dX6_spell_155 : decode cX6_spell 155 = .ok (.invokevirtual 303, 3) := by decide +kernel
theorem dX6_spell_158 : decode cX6_spell 158 = .ok (.ireturn, 1) := by decide +kernel
set_option maxRecDepth 20000 in
theorem ggX6_paper_J0_length_8abf5 : GoodIn wsX6_paper wsJ0_length_8abf5 := goodIn_r _ [6, 7, 8, 9, 10, 5, 11, 12, 13, 71, 72, 73, 74] (by decide +kernel) (by decide +kernel)
set_option maxRecDepth 20000 in
theorem gX6_paper_J0_length_8abf5 : GoodIn wsX6_paper (wsV RX6 303 RJ0 yJ0_length_8abf5 wsJ0_length_8abf5) := goodIn_app (goodIn_of _ (by decide +kernel)) ggX6_paper_J0_length_8abf5
set_option maxRecDepth 20000 in
theorem ggX6_paper_X6_isIn : GoodIn wsX6_paper wsX6_isIn := goodIn_r _ [17] (by decide +kernel) (by decide +kernel)
set_option maxRecDepth 20000 in
theorem gX6_paper_X6_isIn : GoodIn wsX6_paper (va_wsS RX6 70 yX6_isIn wsX6_isIn) := goodIn_app (goodIn_of _ (by decide +kernel)) ggX6_paper_X6_isIn
set_option maxRecDepth 20000 in
theorem ggX6_paper_J0_charAt_5068e : GoodIn wsX6_paper wsJ0_charAt_5068e := goodIn_r _ [21, 7, 22, 23, 24, 5, 25, 12, 13, 26, 27, 28, 29, 30, 31, 32, 33, 34, 35, 36, 37, 38, 39, 40, 41, 42, 43, 44, 45, 46, 47, 48, 49, 50, 51, 52, 53, 54, 71, 72, 73, 74] (by decide +kernel) (by decide +kernel)
set_option maxRecDepth 20000 in
theorem gX6_paper_J0_charAt_5068e : GoodIn wsX6_paper (wsV RX6 308 RJ0 yJ0_charAt_5068e wsJ0_charAt_5068e) := goodIn_app (goodIn_of _ (by decide +kernel)) ggX6_paper_J0_charAt_5068e
theorem dX6_paper_0 : decode cX6_paper 0 = .ok (.iload_n 1, 1) := by decide +kernel
theorem dX6_paper_1 : decode cX6_paper 1 = .ok (.i2l, 1) := by decide +kernel
theorem dX6_paper_2 : decode cX6_paper 2 = .ok (.lconst 0, 1) := by decide +kernel
theorem dX6_paper_3 : decode cX6_paper 3 = .ok (.aload_n 0, 1) := by decide +kernel
theorem dX6_paper_4 : decode cX6_paper 4 = .ok (.getfield 36, 3) := by decide +kernel
theorem dX6_paper_7 : decode cX6_paper 7 = .ok (.invokevirtual 303, 3) := by decide +kernel
theorem dX6_paper_10 : decode cX6_paper 10 = .ok (.iconst 1, 1) := by decide +kernel
theorem dX6_paper_11 : decode cX6_paper 11 = .ok (.isub, 1) := by decide +kernel
theorem dX6_paper_12 : decode cX6_paper 12 = .ok (.i2l, 1) := by decide +kernel
theorem dX6_paper_13 : decode cX6_paper 13 = .ok (.invokestatic 70, 3) := by decide +kernel
theorem dX6_paper_16 : decode cX6_paper 16 = .ok (.ifCond .eq 14, 3) := by decide +kernel
theorem dX6_paper_19 : decode cX6_paper 19 = .ok (.aload_n 0, 1) := by decide +kernel
theorem dX6_paper_20 : decode cX6_paper 20 = .ok (.getfield 36, 3) := by decide +kernel
theorem dX6_paper_23 : decode cX6_paper 23 = .ok (.iload_n 1, 1) := by decide +kernel
theorem dX6_paper_24 : decode cX6_paper 24 = .ok (.invokevirtual 308, 3) := by decide +kernel
theorem dX6_paper_27 : decode cX6_paper 27 = .ok (.goto 4, 3) := by decide +kernel
theorem dX6_paper_30 : decode cX6_paper 30 = .ok (.iconst (-1), 1) := by decide +kernel
theorem dX6_paper_31 : decode cX6_paper 31 = .ok (.ireturn, 1) := by decide +kernel
theorem dX6_edges_0 : decode cX6_edges 0 = .ok (.iconst 0, 1) := by decide +kernel
theorem dX6_edges_1 : decode cX6_edges 1 = .ok (.istore_n 1, 1) := by decide +kernel
theorem dX6_edges_2 : decode cX6_edges 2 = .ok (.iconst 0, 1) := by decide +kernel
theorem dX6_edges_3 : decode cX6_edges 3 = .ok (.istore_n 2, 1) := by decide +kernel
theorem dX6_edges_4 : decode cX6_edges 4 = .ok (.iload_n 2, 1) := by decide +kernel
theorem dX6_edges_5 : decode cX6_edges 5 = .ok (.bipush 81, 2) := by decide +kernel
theorem dX6_edges_7 : decode cX6_edges 7 = .ok (.if_icmp .ge 22, 3) := by decide +kernel
theorem dX6_edges_10 : decode cX6_edges 10 = .ok (.iload_n 1, 1) := by decide +kernel
theorem dX6_edges_11 : decode cX6_edges 11 = .ok (.aload_n 0, 1) := by decide +kernel
theorem dX6_edges_12 : decode cX6_edges 12 = .ok (.getfield 11, 3) := by decide +kernel
theorem dX6_edges_15 : decode cX6_edges 15 = .ok (.bipush 21, 2) := by decide +kernel
theorem dX6_edges_17 : decode cX6_edges 17 = .ok (.iload_n 2, 1) := by decide +kernel
theorem dX6_edges_18 : decode cX6_edges 18 = .ok (.iadd, 1) := by decide +kernel
theorem dX6_edges_19 : decode cX6_edges 19 = .ok (.laload, 1) := by decide +kernel
theorem dX6_edges_20 : decode cX6_edges 20 = .ok (.l2i, 1) := by decide +kernel
theorem dX6_edges_21 : decode cX6_edges 21 = .ok (.iadd, 1) := by decide +kernel
theorem dX6_edges_22 : decode cX6_edges 22 = .ok (.istore_n 1, 1) := by decide +kernel
theorem dX6_edges_23 : decode cX6_edges 23 = .ok (.iinc 2 1, 3) := by decide +kernel
theorem dX6_edges_26 : decode cX6_edges 26 = .ok (.goto (-22), 3) := by decide +kernel
theorem dX6_edges_29 : decode cX6_edges 29 = .ok (.iload_n 1, 1) := by decide +kernel
theorem dX6_edges_30 : decode cX6_edges 30 = .ok (.ireturn, 1) := by decide +kernel
set_option maxRecDepth 20000 in
theorem ggX6_told_X6_edges : GoodIn wsX6_told wsX6_edges := goodIn_r _ [8, 1, 51, 52, 53, 54, 55, 56, 57, 58, 59, 60, 61, 62, 63, 64, 65, 66] (by decide +kernel) (by decide +kernel)
set_option maxRecDepth 20000 in
theorem gX6_told_X6_edges : GoodIn wsX6_told (wsV RX6 312 RX6 yX6_edges wsX6_edges) := goodIn_app (goodIn_of _ (by decide +kernel)) ggX6_told_X6_edges
set_option maxRecDepth 20000 in
theorem ggX6_told_X6_unions : GoodIn wsX6_told wsX6_unions := goodIn_r _ [12, 13, 14, 15, 7, 16, 1, 17, 18, 19, 20, 51, 52, 53, 54, 55, 56, 57, 58, 59, 60, 61, 62, 63, 64, 65, 66] (by decide +kernel) (by decide +kernel)
set_option maxRecDepth 20000 in
theorem gX6_told_X6_unions : GoodIn wsX6_told (wsV RX6 248 RX6 yX6_unions wsX6_unions) := goodIn_app (goodIn_of _ (by decide +kernel)) ggX6_told_X6_unions
set_option maxRecDepth 20000 in
theorem ggX6_told_J0_length_8abf5 : GoodIn wsX6_told wsJ0_length_8abf5 := goodIn_r _ [25, 26, 27, 28, 29, 24, 30, 31, 32, 67, 68, 69, 70] (by decide +kernel) (by decide +kernel)
set_option maxRecDepth 20000 in
theorem gX6_told_J0_length_8abf5 : GoodIn wsX6_told (wsV RX6 303 RJ0 yJ0_length_8abf5 wsJ0_length_8abf5) := goodIn_app (goodIn_of _ (by decide +kernel)) ggX6_told_J0_length_8abf5
set_option maxRecDepth 20000 in
theorem ggX6_told_X6_all : GoodIn wsX6_told wsX6_all := goodIn_r _ [36, 13, 14, 15, 7, 16, 1, 51, 52, 53, 54, 55, 56, 57, 58, 59, 60, 61, 62, 63, 64, 65, 66] (by decide +kernel) (by decide +kernel)
set_option maxRecDepth 20000 in
theorem gX6_told_X6_all : GoodIn wsX6_told (wsV RX6 80 RX6 yX6_all wsX6_all) := goodIn_app (goodIn_of _ (by decide +kernel)) ggX6_told_X6_all
set_option maxRecDepth 20000 in
theorem ggX6_told_X6_weighs : GoodIn wsX6_told wsX6_weighs := goodIn_r _ [40, 1, 13, 14, 15, 7, 16, 41, 42, 43, 51, 52, 53, 54, 55, 56, 57, 58, 59, 60, 61, 62, 63, 64, 65, 66] (by decide +kernel) (by decide +kernel)
set_option maxRecDepth 20000 in
theorem gX6_told_X6_weighs : GoodIn wsX6_told (wsV RX6 167 RX6 yX6_weighs wsX6_weighs) := goodIn_app (goodIn_of _ (by decide +kernel)) ggX6_told_X6_weighs
set_option maxRecDepth 20000 in
theorem ggX6_told_X6_isPartner : GoodIn wsX6_told wsX6_isPartner := goodIn_r _ [47, 13, 14, 15, 7, 16, 1, 48, 49, 50, 51, 52, 53, 54, 55, 56, 57, 58, 59, 60, 61, 62, 63, 64, 65, 66] (by decide +kernel) (by decide +kernel)
set_option maxRecDepth 20000 in
theorem gX6_told_X6_isPartner : GoodIn wsX6_told (wsV RX6 74 RX6 yX6_isPartner wsX6_isPartner) := goodIn_app (goodIn_of _ (by decide +kernel)) ggX6_told_X6_isPartner
theorem dX6_told_0 : decode cX6_told 0 = .ok (.iload_n 1, 1) := by decide +kernel
theorem dX6_told_1 : decode cX6_told 1 = .ok (.tableswitch 88 0 7 #[47, 47, 47, 55, 60, 65, 70, 78], 47) := by decide +kernel
theorem dX6_told_48 : decode cX6_told 48 = .ok (.aload_n 0, 1) := by decide +kernel
theorem dX6_told_49 : decode cX6_told 49 = .ok (.getfield 11, 3) := by decide +kernel
theorem dX6_told_52 : decode cX6_told 52 = .ok (.iload_n 1, 1) := by decide +kernel
theorem dX6_told_53 : decode cX6_told 53 = .ok (.laload, 1) := by decide +kernel
theorem dX6_told_54 : decode cX6_told 54 = .ok (.l2i, 1) := by decide +kernel
theorem dX6_told_55 : decode cX6_told 55 = .ok (.ireturn, 1) := by decide +kernel
theorem dX6_told_56 : decode cX6_told 56 = .ok (.aload_n 0, 1) := by decide +kernel
theorem dX6_told_57 : decode cX6_told 57 = .ok (.invokevirtual 312, 3) := by decide +kernel
theorem dX6_told_60 : decode cX6_told 60 = .ok (.ireturn, 1) := by decide +kernel
theorem dX6_told_61 : decode cX6_told 61 = .ok (.aload_n 0, 1) := by decide +kernel
theorem dX6_told_62 : decode cX6_told 62 = .ok (.invokevirtual 248, 3) := by decide +kernel
theorem dX6_told_65 : decode cX6_told 65 = .ok (.ireturn, 1) := by decide +kernel
theorem dX6_told_66 : decode cX6_told 66 = .ok (.aload_n 0, 1) := by decide +kernel
theorem dX6_told_67 : decode cX6_told 67 = .ok (.getfield 134, 3) := by decide +kernel
theorem dX6_told_70 : decode cX6_told 70 = .ok (.ireturn, 1) := by decide +kernel
theorem dX6_told_71 : decode cX6_told 71 = .ok (.aload_n 0, 1) := by decide +kernel
theorem dX6_told_72 : decode cX6_told 72 = .ok (.getfield 36, 3) := by decide +kernel
theorem dX6_told_75 : decode cX6_told 75 = .ok (.invokevirtual 303, 3) := by decide +kernel
theorem dX6_told_78 : decode cX6_told 78 = .ok (.ireturn, 1) := by decide +kernel
theorem dX6_told_79 : decode cX6_told 79 = .ok (.aload_n 0, 1) := by decide +kernel
theorem dX6_told_80 : decode cX6_told 80 = .ok (.aload_n 0, 1) := by decide +kernel
theorem dX6_told_81 : decode cX6_told 81 = .ok (.invokevirtual 80, 3) := by decide +kernel
theorem dX6_told_84 : decode cX6_told 84 = .ok (.invokevirtual 167, 3) := by decide +kernel
theorem dX6_told_87 : decode cX6_told 87 = .ok (.l2i, 1) := by decide +kernel
theorem dX6_told_88 : decode cX6_told 88 = .ok (.ireturn, 1) := by decide +kernel
theorem dX6_told_89 : decode cX6_told 89 = .ok (.iload_n 1, 1) := by decide +kernel
theorem dX6_told_90 : decode cX6_told 90 = .ok (.bipush 10, 2) := by decide +kernel
theorem dX6_told_92 : decode cX6_told 92 = .ok (.if_icmp .lt 29, 3) := by decide +kernel
theorem dX6_told_95 : decode cX6_told 95 = .ok (.aload_n 0, 1) := by decide +kernel
theorem dX6_told_96 : decode cX6_told 96 = .ok (.iload_n 1, 1) := by decide +kernel
theorem dX6_told_97 : decode cX6_told 97 = .ok (.bipush 10, 2) := by decide +kernel
theorem dX6_told_99 : decode cX6_told 99 = .ok (.isub, 1) := by decide +kernel
theorem dX6_told_100 : decode cX6_told 100 = .ok (.invokevirtual 74, 3) := by decide +kernel
theorem dX6_told_103 : decode cX6_told 103 = .ok (.ifCond .eq 18, 3) := by decide +kernel
theorem dX6_told_106 : decode cX6_told 106 = .ok (.aload_n 0, 1) := by decide +kernel
theorem dX6_told_107 : decode cX6_told 107 = .ok (.getfield 11, 3) := by decide +kernel
theorem dX6_told_110 : decode cX6_told 110 = .ok (.iconst 3, 1) := by decide +kernel
theorem dX6_told_111 : decode cX6_told 111 = .ok (.iload_n 1, 1) := by decide +kernel
theorem dX6_told_112 : decode cX6_told 112 = .ok (.iadd, 1) := by decide +kernel
theorem dX6_told_113 : decode cX6_told 113 = .ok (.bipush 10, 2) := by decide +kernel
theorem dX6_told_115 : decode cX6_told 115 = .ok (.isub, 1) := by decide +kernel
theorem dX6_told_116 : decode cX6_told 116 = .ok (.laload, 1) := by decide +kernel
theorem dX6_told_117 : decode cX6_told 117 = .ok (.l2i, 1) := by decide +kernel
theorem dX6_told_118 : decode cX6_told 118 = .ok (.goto 4, 3) := by decide +kernel
theorem dX6_told_121 : decode cX6_told 121 = .ok (.iconst (-1), 1) := by decide +kernel
theorem dX6_told_122 : decode cX6_told 122 = .ok (.ireturn, 1) := by decide +kernel
theorem dX6_fresh_0 : decode cX6_fresh 0 = .ok (.iconst 4, 1) := by decide +kernel
theorem dX6_fresh_1 : decode cX6_fresh 1 = .ok (.newarray .int, 2) := by decide +kernel
theorem dX6_fresh_3 : decode cX6_fresh 3 = .ok (.astore_n 0, 1) := by decide +kernel
theorem dX6_fresh_4 : decode cX6_fresh 4 = .ok (.iconst 0, 1) := by decide +kernel
theorem dX6_fresh_5 : decode cX6_fresh 5 = .ok (.istore_n 1, 1) := by decide +kernel
theorem dX6_fresh_6 : decode cX6_fresh 6 = .ok (.iload_n 1, 1) := by decide +kernel
theorem dX6_fresh_7 : decode cX6_fresh 7 = .ok (.iconst 4, 1) := by decide +kernel
theorem dX6_fresh_8 : decode cX6_fresh 8 = .ok (.if_icmp .ge 13, 3) := by decide +kernel
theorem dX6_fresh_11 : decode cX6_fresh 11 = .ok (.aload_n 0, 1) := by decide +kernel
theorem dX6_fresh_12 : decode cX6_fresh 12 = .ok (.iload_n 1, 1) := by decide +kernel
theorem dX6_fresh_13 : decode cX6_fresh 13 = .ok (.iconst (-1), 1) := by decide +kernel
theorem dX6_fresh_14 : decode cX6_fresh 14 = .ok (.iastore, 1) := by decide +kernel
theorem dX6_fresh_15 : decode cX6_fresh 15 = .ok (.iinc 1 1, 3) := by decide +kernel
theorem dX6_fresh_18 : decode cX6_fresh 18 = .ok (.goto (-12), 3) := by decide +kernel
theorem dX6_fresh_21 : decode cX6_fresh 21 = .ok (.aload_n 0, 1) := by decide +kernel
theorem dX6_fresh_22 : decode cX6_fresh 22 = .ok (.areturn, 1) := by decide +kernel
set_option maxRecDepth 20000 in
theorem ggX6_row_X6_isRow : GoodIn wsX6_row wsX6_isRow := goodIn_r _ [6, 7, 8, 9, 5, 10] (by decide +kernel) (by decide +kernel)
set_option maxRecDepth 20000 in
theorem gX6_row_X6_isRow : GoodIn wsX6_row (va_wsS RX6 216 yX6_isRow wsX6_isRow) := goodIn_app (goodIn_of _ (by decide +kernel)) ggX6_row_X6_isRow
theorem dX6_row_0 : decode cX6_row 0 = .ok (.iload_n 1, 1) := by decide +kernel
theorem dX6_row_1 : decode cX6_row 1 = .ok (.invokestatic 216, 3) := by decide +kernel
theorem dX6_row_4 : decode cX6_row 4 = .ok (.ifCond .ne 5, 3) := by decide +kernel
theorem dX6_row_7 : decode cX6_row 7 = .ok (.iconst (-1), 1) := by decide +kernel
theorem dX6_row_8 : decode cX6_row 8 = .ok (.ireturn, 1) := by decide +kernel
theorem dX6_row_9 : decode cX6_row 9 = .ok (.iload_n 2, 1) := by decide +kernel
theorem dX6_row_10 : decode cX6_row 10 = .ok (.bipush 20, 2) := by decide +kernel
theorem dX6_row_12 : decode cX6_row 12 = .ok (.if_icmp .le 6, 3) := by decide +kernel
theorem dX6_row_15 : decode cX6_row 15 = .ok (.bipush (-2), 2) := by decide +kernel
theorem dX6_row_17 : decode cX6_row 17 = .ok (.ireturn, 1) := by decide +kernel
theorem dX6_row_18 : decode cX6_row 18 = .ok (.iload_n 2, 1) := by decide +kernel
theorem dX6_row_19 : decode cX6_row 19 = .ok (.ifCond .ge 6, 3) := by decide +kernel
theorem dX6_row_22 : decode cX6_row 22 = .ok (.bipush (-14), 2) := by decide +kernel
theorem dX6_row_24 : decode cX6_row 24 = .ok (.ireturn, 1) := by decide +kernel
theorem dX6_row_25 : decode cX6_row 25 = .ok (.aload_n 0, 1) := by decide +kernel
theorem dX6_row_26 : decode cX6_row 26 = .ok (.getfield 44, 3) := by decide +kernel
theorem dX6_row_29 : decode cX6_row 29 = .ok (.iload_n 1, 1) := by decide +kernel
theorem dX6_row_30 : decode cX6_row 30 = .ok (.iload_n 2, 1) := by decide +kernel
theorem dX6_row_31 : decode cX6_row 31 = .ok (.iastore, 1) := by decide +kernel
theorem dX6_row_32 : decode cX6_row 32 = .ok (.iconst 0, 1) := by decide +kernel
theorem dX6_row_33 : decode cX6_row 33 = .ok (.istore_n 3, 1) := by decide +kernel
theorem dX6_row_34 : decode cX6_row 34 = .ok (.iload_n 3, 1) := by decide +kernel
theorem dX6_row_35 : decode cX6_row 35 = .ok (.iload_n 2, 1) := by decide +kernel
theorem dX6_row_36 : decode cX6_row 36 = .ok (.if_icmp .ge 21, 3) := by decide +kernel
theorem dX6_row_39 : decode cX6_row 39 = .ok (.aload_n 0, 1) := by decide +kernel
theorem dX6_row_40 : decode cX6_row 40 = .ok (.getfield 47, 3) := by decide +kernel
theorem dX6_row_43 : decode cX6_row 43 = .ok (.bipush 20, 2) := by decide +kernel
theorem dX6_row_45 : decode cX6_row 45 = .ok (.iload_n 1, 1) := by decide +kernel
theorem dX6_row_46 : decode cX6_row 46 = .ok (.imul, 1) := by decide +kernel
theorem dX6_row_47 : decode cX6_row 47 = .ok (.iload_n 3, 1) := by decide +kernel
theorem dX6_row_48 : decode cX6_row 48 = .ok (.iadd, 1) := by decide +kernel
theorem dX6_row_49 : decode cX6_row 49 = .ok (.lconst 0, 1) := by decide +kernel
theorem dX6_row_50 : decode cX6_row 50 = .ok (.lastore, 1) := by decide +kernel
theorem dX6_row_51 : decode cX6_row 51 = .ok (.iinc 3 1, 3) := by decide +kernel
theorem dX6_row_54 : decode cX6_row 54 = .ok (.goto (-20), 3) := by decide +kernel
theorem dX6_row_57 : decode cX6_row 57 = .ok (.iconst 1, 1) := by decide +kernel
theorem dX6_row_58 : decode cX6_row 58 = .ok (.ireturn, 1) := by decide +kernel
set_option maxRecDepth 20000 in
theorem ggX6_set_X6_isRow : GoodIn wsX6_set wsX6_isRow := goodIn_r _ [6, 7, 8, 9, 5, 10] (by decide +kernel) (by decide +kernel)
set_option maxRecDepth 20000 in
theorem gX6_set_X6_isRow : GoodIn wsX6_set (va_wsS RX6 216 yX6_isRow wsX6_isRow) := goodIn_app (goodIn_of _ (by decide +kernel)) ggX6_set_X6_isRow
set_option maxRecDepth 20000 in
theorem ggX6_set_X6_isIn : GoodIn wsX6_set wsX6_isIn := goodIn_r _ [10] (by decide +kernel) (by decide +kernel)
set_option maxRecDepth 20000 in
theorem gX6_set_X6_isIn : GoodIn wsX6_set (va_wsS RX6 70 yX6_isIn wsX6_isIn) := goodIn_app (goodIn_of _ (by decide +kernel)) ggX6_set_X6_isIn
theorem dX6_set_0 : decode cX6_set 0 = .ok (.iload_n 1, 1) := by decide +kernel
theorem dX6_set_1 : decode cX6_set 1 = .ok (.invokestatic 216, 3) := by decide +kernel
theorem dX6_set_4 : decode cX6_set 4 = .ok (.ifCond .ne 5, 3) := by decide +kernel
theorem dX6_set_7 : decode cX6_set 7 = .ok (.iconst (-1), 1) := by decide +kernel
theorem dX6_set_8 : decode cX6_set 8 = .ok (.ireturn, 1) := by decide +kernel
theorem dX6_set_9 : decode cX6_set 9 = .ok (.aload_n 0, 1) := by decide +kernel
theorem dX6_set_10 : decode cX6_set 10 = .ok (.getfield 44, 3) := by decide +kernel
theorem dX6_set_13 : decode cX6_set 13 = .ok (.iload_n 1, 1) := by decide +kernel
theorem dX6_set_14 : decode cX6_set 14 = .ok (.iaload, 1) := by decide +kernel
theorem dX6_set_15 : decode cX6_set 15 = .ok (.ifCond .ge 6, 3) := by decide +kernel
theorem dX6_set_18 : decode cX6_set 18 = .ok (.bipush (-11), 2) := by decide +kernel
theorem dX6_set_20 : decode cX6_set 20 = .ok (.ireturn, 1) := by decide +kernel
theorem dX6_set_21 : decode cX6_set 21 = .ok (.iload_n 2, 1) := by decide +kernel
theorem dX6_set_22 : decode cX6_set 22 = .ok (.i2l, 1) := by decide +kernel
theorem dX6_set_23 : decode cX6_set 23 = .ok (.lconst 0, 1) := by decide +kernel
theorem dX6_set_24 : decode cX6_set 24 = .ok (.aload_n 0, 1) := by decide +kernel
theorem dX6_set_25 : decode cX6_set 25 = .ok (.getfield 44, 3) := by decide +kernel
theorem dX6_set_28 : decode cX6_set 28 = .ok (.iload_n 1, 1) := by decide +kernel
theorem dX6_set_29 : decode cX6_set 29 = .ok (.iaload, 1) := by decide +kernel
theorem dX6_set_30 : decode cX6_set 30 = .ok (.iconst 1, 1) := by decide +kernel
theorem dX6_set_31 : decode cX6_set 31 = .ok (.isub, 1) := by decide +kernel
theorem dX6_set_32 : decode cX6_set 32 = .ok (.i2l, 1) := by decide +kernel
theorem dX6_set_33 : decode cX6_set 33 = .ok (.invokestatic 70, 3) := by decide +kernel
theorem dX6_set_36 : decode cX6_set 36 = .ok (.ifCond .ne 6, 3) := by decide +kernel
theorem dX6_set_39 : decode cX6_set 39 = .ok (.bipush (-13), 2) := by decide +kernel
theorem dX6_set_41 : decode cX6_set 41 = .ok (.ireturn, 1) := by decide +kernel
theorem dX6_set_42 : decode cX6_set 42 = .ok (.aload_n 0, 1) := by decide +kernel
theorem dX6_set_43 : decode cX6_set 43 = .ok (.getfield 47, 3) := by decide +kernel
theorem dX6_set_46 : decode cX6_set 46 = .ok (.bipush 20, 2) := by decide +kernel
theorem dX6_set_48 : decode cX6_set 48 = .ok (.iload_n 1, 1) := by decide +kernel
theorem dX6_set_49 : decode cX6_set 49 = .ok (.imul, 1) := by decide +kernel
theorem dX6_set_50 : decode cX6_set 50 = .ok (.iload_n 2, 1) := by decide +kernel
theorem dX6_set_51 : decode cX6_set 51 = .ok (.iadd, 1) := by decide +kernel
theorem dX6_set_52 : decode cX6_set 52 = .ok (.lload_n 3, 1) := by decide +kernel
theorem dX6_set_53 : decode cX6_set 53 = .ok (.lastore, 1) := by decide +kernel
theorem dX6_set_54 : decode cX6_set 54 = .ok (.iconst 1, 1) := by decide +kernel
theorem dX6_set_55 : decode cX6_set 55 = .ok (.ireturn, 1) := by decide +kernel
set_option maxRecDepth 20000 in
theorem ggX6_get_X6_isRow : GoodIn wsX6_get wsX6_isRow := goodIn_r _ [7, 8, 9, 10, 6, 11] (by decide +kernel) (by decide +kernel)
set_option maxRecDepth 20000 in
theorem gX6_get_X6_isRow : GoodIn wsX6_get (va_wsS RX6 216 yX6_isRow wsX6_isRow) := goodIn_app (goodIn_of _ (by decide +kernel)) ggX6_get_X6_isRow
set_option maxRecDepth 20000 in
theorem ggX6_get_X6_isIn : GoodIn wsX6_get wsX6_isIn := goodIn_r _ [11] (by decide +kernel) (by decide +kernel)
set_option maxRecDepth 20000 in
theorem gX6_get_X6_isIn : GoodIn wsX6_get (va_wsS RX6 70 yX6_isIn wsX6_isIn) := goodIn_app (goodIn_of _ (by decide +kernel)) ggX6_get_X6_isIn
theorem dX6_get_0 : decode cX6_get 0 = .ok (.iload_n 1, 1) := by decide +kernel
theorem dX6_get_1 : decode cX6_get 1 = .ok (.invokestatic 216, 3) := by decide +kernel
theorem dX6_get_4 : decode cX6_get 4 = .ok (.ifCond .eq 35, 3) := by decide +kernel
theorem dX6_get_7 : decode cX6_get 7 = .ok (.iload_n 2, 1) := by decide +kernel
theorem dX6_get_8 : decode cX6_get 8 = .ok (.i2l, 1) := by decide +kernel
theorem dX6_get_9 : decode cX6_get 9 = .ok (.lconst 0, 1) := by decide +kernel
theorem dX6_get_10 : decode cX6_get 10 = .ok (.aload_n 0, 1) := by decide +kernel
theorem dX6_get_11 : decode cX6_get 11 = .ok (.getfield 44, 3) := by decide +kernel
theorem dX6_get_14 : decode cX6_get 14 = .ok (.iload_n 1, 1) := by decide +kernel
theorem dX6_get_15 : decode cX6_get 15 = .ok (.iaload, 1) := by decide +kernel
theorem dX6_get_16 : decode cX6_get 16 = .ok (.iconst 1, 1) := by decide +kernel
theorem dX6_get_17 : decode cX6_get 17 = .ok (.isub, 1) := by decide +kernel
theorem dX6_get_18 : decode cX6_get 18 = .ok (.i2l, 1) := by decide +kernel
theorem dX6_get_19 : decode cX6_get 19 = .ok (.invokestatic 70, 3) := by decide +kernel
theorem dX6_get_22 : decode cX6_get 22 = .ok (.ifCond .eq 17, 3) := by decide +kernel
theorem dX6_get_25 : decode cX6_get 25 = .ok (.aload_n 0, 1) := by decide +kernel
theorem dX6_get_26 : decode cX6_get 26 = .ok (.getfield 47, 3) := by decide +kernel
theorem dX6_get_29 : decode cX6_get 29 = .ok (.bipush 20, 2) := by decide +kernel
theorem dX6_get_31 : decode cX6_get 31 = .ok (.iload_n 1, 1) := by decide +kernel
theorem dX6_get_32 : decode cX6_get 32 = .ok (.imul, 1) := by decide +kernel
theorem dX6_get_33 : decode cX6_get 33 = .ok (.iload_n 2, 1) := by decide +kernel
theorem dX6_get_34 : decode cX6_get 34 = .ok (.iadd, 1) := by decide +kernel
theorem dX6_get_35 : decode cX6_get 35 = .ok (.laload, 1) := by decide +kernel
theorem dX6_get_36 : decode cX6_get 36 = .ok (.goto 6, 3) := by decide +kernel
theorem dX6_get_39 : decode cX6_get 39 = .ok (.ldc2_w 60, 3) := by decide +kernel
theorem dX6_get_42 : decode cX6_get 42 = .ok (.lreturn, 1) := by decide +kernel
set_option maxRecDepth 20000 in
theorem ggX6_lay_X6_isRow : GoodIn wsX6_lay wsX6_isRow := goodIn_r _ [9, 10, 11, 12, 8, 13] (by decide +kernel) (by decide +kernel)
set_option maxRecDepth 20000 in
theorem gX6_lay_X6_isRow : GoodIn wsX6_lay (va_wsS RX6 216 yX6_isRow wsX6_isRow) := goodIn_app (goodIn_of _ (by decide +kernel)) ggX6_lay_X6_isRow
set_option maxRecDepth 20000 in
theorem ggX6_lay_X6_isGame : GoodIn wsX6_lay wsX6_isGame := goodIn_r _ [16, 10, 11, 12, 8, 13] (by decide +kernel) (by decide +kernel)
set_option maxRecDepth 20000 in
theorem gX6_lay_X6_isGame : GoodIn wsX6_lay (va_wsS RX6 85 yX6_isGame wsX6_isGame) := goodIn_app (goodIn_of _ (by decide +kernel)) ggX6_lay_X6_isGame
set_option maxRecDepth 20000 in
theorem ggX6_lay_X6_n : GoodIn wsX6_lay wsX6_n := goodIn_r _ [20, 21, 63, 64, 65, 66, 67, 68, 69, 70, 71, 72, 73, 74, 75, 76, 77, 78] (by decide +kernel) (by decide +kernel)
set_option maxRecDepth 20000 in
theorem gX6_lay_X6_n : GoodIn wsX6_lay (wsV RX6 66 RX6 yX6_n wsX6_n) := goodIn_app (goodIn_of _ (by decide +kernel)) ggX6_lay_X6_n
set_option maxRecDepth 20000 in
theorem ggX6_lay_X6_shares : GoodIn wsX6_lay wsX6_shares := goodIn_r _ [25, 2, 4, 5, 26, 27, 28, 8, 29, 17, 18, 19, 20, 21, 30, 31, 32, 33, 34, 35, 36, 37, 38, 39, 40, 41, 42, 43, 44, 45, 46, 47, 48, 49, 50, 51, 52, 53, 54, 55, 56, 57, 63, 64, 65, 66, 67, 68, 69, 70, 71, 72, 73, 74, 75, 76, 77, 78] (by decide +kernel) (by decide +kernel)
set_option maxRecDepth 20000 in
theorem gX6_lay_X6_shares : GoodIn wsX6_lay (wsV RX6 234 RX6 yX6_shares wsX6_shares) := goodIn_app (goodIn_of _ (by decide +kernel)) ggX6_lay_X6_shares
set_option maxRecDepth 20000 in
theorem ggX6_lay_X6_set : GoodIn wsX6_lay wsX6_set := goodIn_r _ [61, 1, 62, 6, 7, 8, 9, 10, 11, 12, 13, 63, 64, 65, 66, 67, 68, 69, 70, 71, 72, 73, 74, 75, 76, 77, 78] (by decide +kernel) (by decide +kernel)
set_option maxRecDepth 20000 in
theorem gX6_lay_X6_set : GoodIn wsX6_lay (wsV RX6 315 RX6 yX6_set wsX6_set) := goodIn_app (goodIn_of _ (by decide +kernel)) ggX6_lay_X6_set
theorem dX6_lay_0 : decode cX6_lay 0 = .ok (.iload_n 1, 1) := by decide +kernel
theorem dX6_lay_1 : decode cX6_lay 1 = .ok (.invokestatic 216, 3) := by decide +kernel
theorem dX6_lay_4 : decode cX6_lay 4 = .ok (.ifCond .eq 10, 3) := by decide +kernel
theorem dX6_lay_7 : decode cX6_lay 7 = .ok (.iload_n 3, 1) := by decide +kernel
theorem dX6_lay_8 : decode cX6_lay 8 = .ok (.invokestatic 85, 3) := by decide +kernel
theorem dX6_lay_11 : decode cX6_lay 11 = .ok (.ifCond .ne 5, 3) := by decide +kernel
theorem dX6_lay_14 : decode cX6_lay 14 = .ok (.iconst (-1), 1) := by decide +kernel
theorem dX6_lay_15 : decode cX6_lay 15 = .ok (.ireturn, 1) := by decide +kernel
theorem dX6_lay_16 : decode cX6_lay 16 = .ok (.aload_n 0, 1) := by decide +kernel
theorem dX6_lay_17 : decode cX6_lay 17 = .ok (.getfield 44, 3) := by decide +kernel
theorem dX6_lay_20 : decode cX6_lay 20 = .ok (.iload_n 1, 1) := by decide +kernel
theorem dX6_lay_21 : decode cX6_lay 21 = .ok (.iaload, 1) := by decide +kernel
theorem dX6_lay_22 : decode cX6_lay 22 = .ok (.ifCond .ge 6, 3) := by decide +kernel
theorem dX6_lay_25 : decode cX6_lay 25 = .ok (.bipush (-11), 2) := by decide +kernel
theorem dX6_lay_27 : decode cX6_lay 27 = .ok (.ireturn, 1) := by decide +kernel
theorem dX6_lay_28 : decode cX6_lay 28 = .ok (.iconst 0, 1) := by decide +kernel
theorem dX6_lay_29 : decode cX6_lay 29 = .ok (.istore 4, 2) := by decide +kernel
theorem dX6_lay_31 : decode cX6_lay 31 = .ok (.iload 4, 2) := by decide +kernel
theorem dX6_lay_33 : decode cX6_lay 33 = .ok (.aload_n 0, 1) := by decide +kernel
theorem dX6_lay_34 : decode cX6_lay 34 = .ok (.invokevirtual 66, 3) := by decide +kernel
theorem dX6_lay_37 : decode cX6_lay 37 = .ok (.if_icmp .ge 47, 3) := by decide +kernel
theorem dX6_lay_40 : decode cX6_lay 40 = .ok (.aload_n 0, 1) := by decide +kernel
theorem dX6_lay_41 : decode cX6_lay 41 = .ok (.iload_n 3, 1) := by decide +kernel
theorem dX6_lay_42 : decode cX6_lay 42 = .ok (.iload 4, 2) := by decide +kernel
theorem dX6_lay_44 : decode cX6_lay 44 = .ok (.invokevirtual 234, 3) := by decide +kernel
theorem dX6_lay_47 : decode cX6_lay 47 = .ok (.aload_n 0, 1) := by decide +kernel
theorem dX6_lay_48 : decode cX6_lay 48 = .ok (.getfield 54, 3) := by decide +kernel
theorem dX6_lay_51 : decode cX6_lay 51 = .ok (.ifCond .eq 6, 3) := by decide +kernel
theorem dX6_lay_54 : decode cX6_lay 54 = .ok (.bipush (-6), 2) := by decide +kernel
theorem dX6_lay_56 : decode cX6_lay 56 = .ok (.ireturn, 1) := by decide +kernel
theorem dX6_lay_57 : decode cX6_lay 57 = .ok (.aload_n 0, 1) := by decide +kernel
theorem dX6_lay_58 : decode cX6_lay 58 = .ok (.getfield 18, 3) := by decide +kernel
theorem dX6_lay_61 : decode cX6_lay 61 = .ok (.iload 4, 2) := by decide +kernel
theorem dX6_lay_63 : decode cX6_lay 63 = .ok (.aload_n 0, 1) := by decide +kernel
theorem dX6_lay_64 : decode cX6_lay 64 = .ok (.getfield 226, 3) := by decide +kernel
theorem dX6_lay_67 : decode cX6_lay 67 = .ok (.aload_n 0, 1) := by decide +kernel
theorem dX6_lay_68 : decode cX6_lay 68 = .ok (.getfield 21, 3) := by decide +kernel
theorem dX6_lay_71 : decode cX6_lay 71 = .ok (.aload_n 0, 1) := by decide +kernel
theorem dX6_lay_72 : decode cX6_lay 72 = .ok (.invokevirtual 66, 3) := by decide +kernel
theorem dX6_lay_75 : decode cX6_lay 75 = .ok (.laload, 1) := by decide +kernel
theorem dX6_lay_76 : decode cX6_lay 76 = .ok (.ldiv, 1) := by decide +kernel
theorem dX6_lay_77 : decode cX6_lay 77 = .ok (.lastore, 1) := by decide +kernel
theorem dX6_lay_78 : decode cX6_lay 78 = .ok (.iinc 4 1, 3) := by decide +kernel
theorem dX6_lay_81 : decode cX6_lay 81 = .ok (.goto (-50), 3) := by decide +kernel
theorem dX6_lay_84 : decode cX6_lay 84 = .ok (.iconst 0, 1) := by decide +kernel
theorem dX6_lay_85 : decode cX6_lay 85 = .ok (.istore 4, 2) := by decide +kernel
theorem dX6_lay_87 : decode cX6_lay 87 = .ok (.iload 4, 2) := by decide +kernel
theorem dX6_lay_89 : decode cX6_lay 89 = .ok (.aload_n 0, 1) := by decide +kernel
theorem dX6_lay_90 : decode cX6_lay 90 = .ok (.invokevirtual 66, 3) := by decide +kernel
theorem dX6_lay_93 : decode cX6_lay 93 = .ok (.if_icmp .ge 40, 3) := by decide +kernel
theorem dX6_lay_96 : decode cX6_lay 96 = .ok (.aload_n 0, 1) := by decide +kernel
theorem dX6_lay_97 : decode cX6_lay 97 = .ok (.iload_n 1, 1) := by decide +kernel
theorem dX6_lay_98 : decode cX6_lay 98 = .ok (.iload_n 2, 1) := by decide +kernel
theorem dX6_lay_99 : decode cX6_lay 99 = .ok (.ifCond .lt 10, 3) := by decide +kernel
theorem dX6_lay_102 : decode cX6_lay 102 = .ok (.iload_n 2, 1) := by decide +kernel
theorem dX6_lay_103 : decode cX6_lay 103 = .ok (.iload 4, 2) := by decide +kernel
theorem dX6_lay_105 : decode cX6_lay 105 = .ok (.iadd, 1) := by decide +kernel
theorem dX6_lay_106 : decode cX6_lay 106 = .ok (.goto 4, 3) := by decide +kernel
theorem dX6_lay_109 : decode cX6_lay 109 = .ok (.iconst (-1), 1) := by decide +kernel
theorem dX6_lay_110 : decode cX6_lay 110 = .ok (.aload_n 0, 1) := by decide +kernel
theorem dX6_lay_111 : decode cX6_lay 111 = .ok (.getfield 18, 3) := by decide +kernel
theorem dX6_lay_114 : decode cX6_lay 114 = .ok (.iload 4, 2) := by decide +kernel
theorem dX6_lay_116 : decode cX6_lay 116 = .ok (.laload, 1) := by decide +kernel
theorem dX6_lay_117 : decode cX6_lay 117 = .ok (.invokevirtual 315, 3) := by decide +kernel
theorem dX6_lay_120 : decode cX6_lay 120 = .ok (.iconst 1, 1) := by decide +kernel
theorem dX6_lay_121 : decode cX6_lay 121 = .ok (.if_icmp .eq 6, 3) := by decide +kernel
theorem dX6_lay_124 : decode cX6_lay 124 = .ok (.bipush (-13), 2) := by decide +kernel
theorem dX6_lay_126 : decode cX6_lay 126 = .ok (.ireturn, 1) := by decide +kernel
theorem dX6_lay_127 : decode cX6_lay 127 = .ok (.iinc 4 1, 3) := by decide +kernel
theorem dX6_lay_130 : decode cX6_lay 130 = .ok (.goto (-43), 3) := by decide +kernel
theorem dX6_lay_133 : decode cX6_lay 133 = .ok (.aload_n 0, 1) := by decide +kernel
theorem dX6_lay_134 : decode cX6_lay 134 = .ok (.invokevirtual 66, 3) := by decide +kernel
theorem dX6_lay_137 : decode cX6_lay 137 = .ok (.ireturn, 1) := by decide +kernel
set_option maxRecDepth 20000 in
theorem ggX6_image_X6_n : GoodIn wsX6_image wsX6_n := goodIn_r _ [8, 2, 9, 10, 11, 12, 13, 14, 15, 16, 17, 18, 19, 20, 21, 22, 23, 24] (by decide +kernel) (by decide +kernel)
set_option maxRecDepth 20000 in
theorem gX6_image_X6_n : GoodIn wsX6_image (wsV RX6 66 RX6 yX6_n wsX6_n) := goodIn_app (goodIn_of _ (by decide +kernel)) ggX6_image_X6_n
theorem dX6_image_0 : decode cX6_image 0 = .ok (.iconst 0, 1) := by decide +kernel
theorem dX6_image_1 : decode cX6_image 1 = .ok (.istore_n 1, 1) := by decide +kernel
theorem dX6_image_2 : decode cX6_image 2 = .ok (.iload_n 1, 1) := by decide +kernel
theorem dX6_image_3 : decode cX6_image 3 = .ok (.sipush 2231, 3) := by decide +kernel
theorem dX6_image_6 : decode cX6_image 6 = .ok (.if_icmp .ge 21, 3) := by decide +kernel
theorem dX6_image_9 : decode cX6_image 9 = .ok (.aload_n 0, 1) := by decide +kernel
theorem dX6_image_10 : decode cX6_image 10 = .ok (.getfield 15, 3) := by decide +kernel
theorem dX6_image_13 : decode cX6_image 13 = .ok (.iload_n 1, 1) := by decide +kernel
theorem dX6_image_14 : decode cX6_image 14 = .ok (.aload_n 0, 1) := by decide +kernel
theorem dX6_image_15 : decode cX6_image 15 = .ok (.getfield 11, 3) := by decide +kernel
theorem dX6_image_18 : decode cX6_image 18 = .ok (.iload_n 1, 1) := by decide +kernel
theorem dX6_image_19 : decode cX6_image 19 = .ok (.laload, 1) := by decide +kernel
theorem dX6_image_20 : decode cX6_image 20 = .ok (.lastore, 1) := by decide +kernel
theorem dX6_image_21 : decode cX6_image 21 = .ok (.iinc 1 1, 3) := by decide +kernel
theorem dX6_image_24 : decode cX6_image 24 = .ok (.goto (-22), 3) := by decide +kernel
theorem dX6_image_27 : decode cX6_image 27 = .ok (.aload_n 0, 1) := by decide +kernel
theorem dX6_image_28 : decode cX6_image 28 = .ok (.iconst 1, 1) := by decide +kernel
theorem dX6_image_29 : decode cX6_image 29 = .ok (.putfield 319, 3) := by decide +kernel
theorem dX6_image_32 : decode cX6_image 32 = .ok (.aload_n 0, 1) := by decide +kernel
theorem dX6_image_33 : decode cX6_image 33 = .ok (.invokevirtual 66, 3) := by decide +kernel
theorem dX6_image_36 : decode cX6_image 36 = .ok (.ireturn, 1) := by decide +kernel
set_option maxRecDepth 20000 in
theorem ggX6_undo_X6_n : GoodIn wsX6_undo wsX6_n := goodIn_r _ [8, 2, 9, 10, 11, 12, 13, 14, 15, 16, 17, 18, 19, 20, 21, 22, 23, 24] (by decide +kernel) (by decide +kernel)
set_option maxRecDepth 20000 in
theorem gX6_undo_X6_n : GoodIn wsX6_undo (wsV RX6 66 RX6 yX6_n wsX6_n) := goodIn_app (goodIn_of _ (by decide +kernel)) ggX6_undo_X6_n
theorem dX6_undo_0 : decode cX6_undo 0 = .ok (.aload_n 0, 1) := by decide +kernel
theorem dX6_undo_1 : decode cX6_undo 1 = .ok (.getfield 319, 3) := by decide +kernel
theorem dX6_undo_4 : decode cX6_undo 4 = .ok (.ifCond .ne 6, 3) := by decide +kernel
theorem dX6_undo_7 : decode cX6_undo 7 = .ok (.bipush (-3), 2) := by decide +kernel
theorem dX6_undo_9 : decode cX6_undo 9 = .ok (.ireturn, 1) := by decide +kernel
theorem dX6_undo_10 : decode cX6_undo 10 = .ok (.iconst 0, 1) := by decide +kernel
theorem dX6_undo_11 : decode cX6_undo 11 = .ok (.istore_n 1, 1) := by decide +kernel
theorem dX6_undo_12 : decode cX6_undo 12 = .ok (.iload_n 1, 1) := by decide +kernel
theorem dX6_undo_13 : decode cX6_undo 13 = .ok (.sipush 2231, 3) := by decide +kernel
theorem dX6_undo_16 : decode cX6_undo 16 = .ok (.if_icmp .ge 21, 3) := by decide +kernel
theorem dX6_undo_19 : decode cX6_undo 19 = .ok (.aload_n 0, 1) := by decide +kernel
theorem dX6_undo_20 : decode cX6_undo 20 = .ok (.getfield 11, 3) := by decide +kernel
theorem dX6_undo_23 : decode cX6_undo 23 = .ok (.iload_n 1, 1) := by decide +kernel
theorem dX6_undo_24 : decode cX6_undo 24 = .ok (.aload_n 0, 1) := by decide +kernel
theorem dX6_undo_25 : decode cX6_undo 25 = .ok (.getfield 15, 3) := by decide +kernel
theorem dX6_undo_28 : decode cX6_undo 28 = .ok (.iload_n 1, 1) := by decide +kernel
theorem dX6_undo_29 : decode cX6_undo 29 = .ok (.laload, 1) := by decide +kernel
theorem dX6_undo_30 : decode cX6_undo 30 = .ok (.lastore, 1) := by decide +kernel
theorem dX6_undo_31 : decode cX6_undo 31 = .ok (.iinc 1 1, 3) := by decide +kernel
theorem dX6_undo_34 : decode cX6_undo 34 = .ok (.goto (-22), 3) := by decide +kernel
theorem dX6_undo_37 : decode cX6_undo 37 = .ok (.aload_n 0, 1) := by decide +kernel
theorem dX6_undo_38 : decode cX6_undo 38 = .ok (.invokevirtual 66, 3) := by decide +kernel
theorem dX6_undo_41 : decode cX6_undo 41 = .ok (.ireturn, 1) := by decide +kernel
set_option maxRecDepth 20000 in
theorem ggJ5_init_d00df_J2_newBytesFor_77867 : GoodIn wsJ5_init_d00df wsJ2_newBytesFor_77867 := goodIn_r _ [11, 5, 12, 13, 10, 14, 15] (by decide +kernel) (by decide +kernel)
set_option maxRecDepth 20000 in
theorem gJ5_init_d00df_J2_newBytesFor_77867 : GoodIn wsJ5_init_d00df (va_wsS RJ5 26 yJ2_newBytesFor_77867 wsJ2_newBytesFor_77867) := goodIn_app (goodIn_of _ (by decide +kernel)) ggJ5_init_d00df_J2_newBytesFor_77867
theorem dJ5_init_d00df_0 : decode cJ5_init_d00df 0 = .ok (.aload_n 0, 1) := by decide +kernel
theorem dJ5_init_d00df_1 : decode cJ5_init_d00df 1 = .ok (.invokespecial 3, 3) := by decide +kernel
theorem dJ5_init_d00df_4 : decode cJ5_init_d00df 4 = .ok (.getstatic 18, 3) := by decide +kernel
theorem dJ5_init_d00df_7 : decode cJ5_init_d00df 7 = .ok (.ifCond .eq 18, 3) := by decide +kernel
theorem dJ5_init_d00df_10 : decode cJ5_init_d00df 10 = .ok (.aload_n 0, 1) := by decide +kernel
theorem dJ5_init_d00df_11 : decode cJ5_init_d00df 11 = .ok (.iload_n 1, 1) := by decide +kernel
theorem dJ5_init_d00df_12 : decode cJ5_init_d00df 12 = .ok (.newarray .byte, 2) := by decide +kernel
theorem dJ5_init_d00df_14 : decode cJ5_init_d00df 14 = .ok (.putfield 15, 3) := by decide +kernel
theorem dJ5_init_d00df_17 : decode cJ5_init_d00df 17 = .ok (.aload_n 0, 1) := by decide +kernel
theorem dJ5_init_d00df_18 : decode cJ5_init_d00df 18 = .ok (.iconst 0, 1) := by decide +kernel
theorem dJ5_init_d00df_19 : decode cJ5_init_d00df 19 = .ok (.putfield 22, 3) := by decide +kernel
theorem dJ5_init_d00df_22 : decode cJ5_init_d00df 22 = .ok (.goto 16, 3) := by decide +kernel
theorem dJ5_init_d00df_25 : decode cJ5_init_d00df 25 = .ok (.aload_n 0, 1) := by decide +kernel
theorem dJ5_init_d00df_26 : decode cJ5_init_d00df 26 = .ok (.iload_n 1, 1) := by decide +kernel
theorem dJ5_init_d00df_27 : decode cJ5_init_d00df 27 = .ok (.invokestatic 26, 3) := by decide +kernel
theorem dJ5_init_d00df_30 : decode cJ5_init_d00df 30 = .ok (.putfield 15, 3) := by decide +kernel
theorem dJ5_init_d00df_33 : decode cJ5_init_d00df 33 = .ok (.aload_n 0, 1) := by decide +kernel
theorem dJ5_init_d00df_34 : decode cJ5_init_d00df 34 = .ok (.iconst 1, 1) := by decide +kernel
theorem dJ5_init_d00df_35 : decode cJ5_init_d00df 35 = .ok (.putfield 22, 3) := by decide +kernel
theorem dJ5_init_d00df_38 : decode cJ5_init_d00df 38 = .ok (.return_, 1) := by decide +kernel
theorem dJ5_length_8abf5_0 : decode cJ5_length_8abf5 0 = .ok (.aload_n 0, 1) := by decide +kernel
theorem dJ5_length_8abf5_1 : decode cJ5_length_8abf5 1 = .ok (.getfield 79, 3) := by decide +kernel
theorem dJ5_length_8abf5_4 : decode cJ5_length_8abf5 4 = .ok (.ireturn, 1) := by decide +kernel
set_option maxRecDepth 20000 in
theorem ggJ5_ensureCapacityInternal_d00df_J5_newCapacity_0f7a4 : GoodIn wsJ5_ensureCapacityInternal_d00df wsJ5_newCapacity_0f7a4 := goodIn_r _ [8, 1, 2, 9, 10, 11, 12, 13, 14, 15, 16, 17, 18, 19, 20, 21, 40, 41, 42, 43] (by decide +kernel) (by decide +kernel)
set_option maxRecDepth 20000 in
theorem gJ5_ensureCapacityInternal_d00df_J5_newCapacity_0f7a4_u104J4 : GoodIn wsJ5_ensureCapacityInternal_d00df (va_wsU RJ5 104 RJ4 "java/lang/AbstractStringBuilder" ⟨"java/lang/AbstractStringBuilder", "newCapacity", "(I)I"⟩ yJ5_newCapacity_0f7a4 wsJ5_newCapacity_0f7a4) := goodIn_app (goodIn_of _ (by decide +kernel)) ggJ5_ensureCapacityInternal_d00df_J5_newCapacity_0f7a4
set_option maxRecDepth 20000 in
theorem ggJ5_ensureCapacityInternal_d00df_J7_copyOf_9075b : GoodIn wsJ5_ensureCapacityInternal_d00df wsJ7_copyOf_9075b := goodIn_r _ [25, 26, 27, 28, 29, 30, 31, 32, 33, 34, 16, 35, 36, 37, 38, 39] (by decide +kernel) (by decide +kernel)
set_option maxRecDepth 20000 in
theorem gJ5_ensureCapacityInternal_d00df_J7_copyOf_9075b : GoodIn wsJ5_ensureCapacityInternal_d00df (va_wsS RJ5 108 yJ7_copyOf_9075b wsJ7_copyOf_9075b) := goodIn_app (goodIn_of _ (by decide +kernel)) ggJ5_ensureCapacityInternal_d00df_J7_copyOf_9075b
theorem dJ5_ensureCapacityInternal_d00df_0 : decode cJ5_ensureCapacityInternal_d00df 0 = .ok (.aload_n 0, 1) := by decide +kernel
theorem dJ5_ensureCapacityInternal_d00df_1 : decode cJ5_ensureCapacityInternal_d00df 1 = .ok (.getfield 15, 3) := by decide +kernel
theorem dJ5_ensureCapacityInternal_d00df_4 : decode cJ5_ensureCapacityInternal_d00df 4 = .ok (.arraylength, 1) := by decide +kernel
theorem dJ5_ensureCapacityInternal_d00df_5 : decode cJ5_ensureCapacityInternal_d00df 5 = .ok (.aload_n 0, 1) := by decide +kernel
theorem dJ5_ensureCapacityInternal_d00df_6 : decode cJ5_ensureCapacityInternal_d00df 6 = .ok (.getfield 22, 3) := by decide +kernel
theorem dJ5_ensureCapacityInternal_d00df_9 : decode cJ5_ensureCapacityInternal_d00df 9 = .ok (.ishr, 1) := by decide +kernel
theorem dJ5_ensureCapacityInternal_d00df_10 : decode cJ5_ensureCapacityInternal_d00df 10 = .ok (.istore_n 2, 1) := by decide +kernel
theorem dJ5_ensureCapacityInternal_d00df_11 : decode cJ5_ensureCapacityInternal_d00df 11 = .ok (.iload_n 1, 1) := by decide +kernel
theorem dJ5_ensureCapacityInternal_d00df_12 : decode cJ5_ensureCapacityInternal_d00df 12 = .ok (.iload_n 2, 1) := by decide +kernel
theorem dJ5_ensureCapacityInternal_d00df_13 : decode cJ5_ensureCapacityInternal_d00df 13 = .ok (.isub, 1) := by decide +kernel
theorem dJ5_ensureCapacityInternal_d00df_14 : decode cJ5_ensureCapacityInternal_d00df 14 = .ok (.ifCond .le 24, 3) := by decide +kernel
theorem dJ5_ensureCapacityInternal_d00df_17 : decode cJ5_ensureCapacityInternal_d00df 17 = .ok (.aload_n 0, 1) := by decide +kernel
theorem dJ5_ensureCapacityInternal_d00df_18 : decode cJ5_ensureCapacityInternal_d00df 18 = .ok (.aload_n 0, 1) := by decide +kernel
theorem dJ5_ensureCapacityInternal_d00df_19 : decode cJ5_ensureCapacityInternal_d00df 19 = .ok (.getfield 15, 3) := by decide +kernel
theorem dJ5_ensureCapacityInternal_d00df_22 : decode cJ5_ensureCapacityInternal_d00df 22 = .ok (.aload_n 0, 1) := by decide +kernel
theorem dJ5_ensureCapacityInternal_d00df_23 : decode cJ5_ensureCapacityInternal_d00df 23 = .ok (.iload_n 1, 1) := by decide +kernel
theorem dJ5_ensureCapacityInternal_d00df_24 : decode cJ5_ensureCapacityInternal_d00df 24 = .ok (.invokevirtual 104, 3) := by decide +kernel
theorem dJ5_ensureCapacityInternal_d00df_27 : decode cJ5_ensureCapacityInternal_d00df 27 = .ok (.aload_n 0, 1) := by decide +kernel
theorem dJ5_ensureCapacityInternal_d00df_28 : decode cJ5_ensureCapacityInternal_d00df 28 = .ok (.getfield 22, 3) := by decide +kernel
theorem dJ5_ensureCapacityInternal_d00df_31 : decode cJ5_ensureCapacityInternal_d00df 31 = .ok (.ishl, 1) := by decide +kernel
theorem dJ5_ensureCapacityInternal_d00df_32 : decode cJ5_ensureCapacityInternal_d00df 32 = .ok (.invokestatic 108, 3) := by decide +kernel
theorem dJ5_ensureCapacityInternal_d00df_35 : decode cJ5_ensureCapacityInternal_d00df 35 = .ok (.putfield 15, 3) := by decide +kernel
theorem dJ5_ensureCapacityInternal_d00df_38 : decode cJ5_ensureCapacityInternal_d00df 38 = .ok (.return_, 1) := by decide +kernel
set_option maxRecDepth 20000 in
theorem ggJ5_newCapacity_0f7a4_J8_newLength_cabcc : GoodIn wsJ5_newCapacity_0f7a4 wsJ8_newLength_cabcc := goodIn_r _ [7, 8, 9, 10, 11, 12, 13, 14, 6, 15] (by decide +kernel) (by decide +kernel)
set_option maxRecDepth 20000 in
theorem gJ5_newCapacity_0f7a4_J8_newLength_cabcc : GoodIn wsJ5_newCapacity_0f7a4 (va_wsS RJ5 114 yJ8_newLength_cabcc wsJ8_newLength_cabcc) := goodIn_app (goodIn_of _ (by decide +kernel)) ggJ5_newCapacity_0f7a4_J8_newLength_cabcc
theorem dJ5_newCapacity_0f7a4_0 : decode cJ5_newCapacity_0f7a4 0 = .ok (.aload_n 0, 1) := by decide +kernel
theorem dJ5_newCapacity_0f7a4_1 : decode cJ5_newCapacity_0f7a4 1 = .ok (.getfield 15, 3) := by decide +kernel
theorem dJ5_newCapacity_0f7a4_4 : decode cJ5_newCapacity_0f7a4 4 = .ok (.arraylength, 1) := by decide +kernel
theorem dJ5_newCapacity_0f7a4_5 : decode cJ5_newCapacity_0f7a4 5 = .ok (.istore_n 2, 1) := by decide +kernel
theorem dJ5_newCapacity_0f7a4_6 : decode cJ5_newCapacity_0f7a4 6 = .ok (.iload_n 1, 1) := by decide +kernel
theorem dJ5_newCapacity_0f7a4_7 : decode cJ5_newCapacity_0f7a4 7 = .ok (.aload_n 0, 1) := by decide +kernel
theorem dJ5_newCapacity_0f7a4_8 : decode cJ5_newCapacity_0f7a4 8 = .ok (.getfield 22, 3) := by decide +kernel
theorem dJ5_newCapacity_0f7a4_11 : decode cJ5_newCapacity_0f7a4 11 = .ok (.ishl, 1) := by decide +kernel
theorem dJ5_newCapacity_0f7a4_12 : decode cJ5_newCapacity_0f7a4 12 = .ok (.istore_n 3, 1) := by decide +kernel
theorem dJ5_newCapacity_0f7a4_13 : decode cJ5_newCapacity_0f7a4 13 = .ok (.iload_n 3, 1) := by decide +kernel
theorem dJ5_newCapacity_0f7a4_14 : decode cJ5_newCapacity_0f7a4 14 = .ok (.iload_n 2, 1) := by decide +kernel
theorem dJ5_newCapacity_0f7a4_15 : decode cJ5_newCapacity_0f7a4 15 = .ok (.isub, 1) := by decide +kernel
theorem dJ5_newCapacity_0f7a4_16 : decode cJ5_newCapacity_0f7a4 16 = .ok (.istore 4, 2) := by decide +kernel
theorem dJ5_newCapacity_0f7a4_18 : decode cJ5_newCapacity_0f7a4 18 = .ok (.iload_n 2, 1) := by decide +kernel
theorem dJ5_newCapacity_0f7a4_19 : decode cJ5_newCapacity_0f7a4 19 = .ok (.iload 4, 2) := by decide +kernel
theorem dJ5_newCapacity_0f7a4_21 : decode cJ5_newCapacity_0f7a4 21 = .ok (.iload_n 2, 1) := by decide +kernel
theorem dJ5_newCapacity_0f7a4_22 : decode cJ5_newCapacity_0f7a4 22 = .ok (.iconst 2, 1) := by decide +kernel
theorem dJ5_newCapacity_0f7a4_23 : decode cJ5_newCapacity_0f7a4 23 = .ok (.aload_n 0, 1) := by decide +kernel
theorem dJ5_newCapacity_0f7a4_24 : decode cJ5_newCapacity_0f7a4 24 = .ok (.getfield 22, 3) := by decide +kernel
theorem dJ5_newCapacity_0f7a4_27 : decode cJ5_newCapacity_0f7a4 27 = .ok (.ishl, 1) := by decide +kernel
theorem dJ5_newCapacity_0f7a4_28 : decode cJ5_newCapacity_0f7a4 28 = .ok (.iadd, 1) := by decide +kernel
theorem dJ5_newCapacity_0f7a4_29 : decode cJ5_newCapacity_0f7a4 29 = .ok (.invokestatic 114, 3) := by decide +kernel
theorem dJ5_newCapacity_0f7a4_32 : decode cJ5_newCapacity_0f7a4 32 = .ok (.istore 5, 2) := by decide +kernel
theorem dJ5_newCapacity_0f7a4_34 : decode cJ5_newCapacity_0f7a4 34 = .ok (.iload 5, 2) := by decide +kernel
theorem dJ5_newCapacity_0f7a4_36 : decode cJ5_newCapacity_0f7a4 36 = .ok (.ldc 39, 2) := by decide +kernel
theorem dJ5_newCapacity_0f7a4_38 : decode cJ5_newCapacity_0f7a4 38 = .ok (.if_icmp .ne 13, 3) := by decide +kernel
theorem dJ5_newCapacity_0f7a4_41 : decode cJ5_newCapacity_0f7a4 41 = .ok (.new 120, 3) := by decide +kernel
theorem dJ5_newCapacity_0f7a4_44 : decode cJ5_newCapacity_0f7a4 44 = .ok (.dup, 1) := by decide +kernel
theorem dJ5_newCapacity_0f7a4_45 : decode cJ5_newCapacity_0f7a4 45 = .ok (.ldc 122, 2) := by decide +kernel
theorem dJ5_newCapacity_0f7a4_47 : decode cJ5_newCapacity_0f7a4 47 = .ok (.invokespecial 124, 3) := by decide +kernel
theorem dJ5_newCapacity_0f7a4_50 : decode cJ5_newCapacity_0f7a4 50 = .ok (.athrow, 1) := by decide +kernel
theorem dJ5_newCapacity_0f7a4_51 : decode cJ5_newCapacity_0f7a4 51 = .ok (.iload 5, 2) := by decide +kernel
theorem dJ5_newCapacity_0f7a4_53 : decode cJ5_newCapacity_0f7a4 53 = .ok (.aload_n 0, 1) := by decide +kernel
theorem dJ5_newCapacity_0f7a4_54 : decode cJ5_newCapacity_0f7a4 54 = .ok (.getfield 22, 3) := by decide +kernel
theorem dJ5_newCapacity_0f7a4_57 : decode cJ5_newCapacity_0f7a4 57 = .ok (.ishr, 1) := by decide +kernel
theorem dJ5_newCapacity_0f7a4_58 : decode cJ5_newCapacity_0f7a4 58 = .ok (.ireturn, 1) := by decide +kernel
set_option maxRecDepth 20000 in
theorem ggJ5_inflate_da8c8_J5_isLatin1_aae02 : GoodIn wsJ5_inflate_da8c8 wsJ5_isLatin1_aae02 := goodIn_r _ [9, 10, 3, 48, 49, 50, 51] (by decide +kernel) (by decide +kernel)
set_option maxRecDepth 20000 in
theorem gJ5_inflate_da8c8_J5_isLatin1_aae02_u83J4 : GoodIn wsJ5_inflate_da8c8 (va_wsU RJ5 83 RJ4 "java/lang/AbstractStringBuilder" ⟨"java/lang/AbstractStringBuilder", "isLatin1", "()Z"⟩ yJ5_isLatin1_aae02 wsJ5_isLatin1_aae02) := goodIn_app (goodIn_of _ (by decide +kernel)) ggJ5_inflate_da8c8_J5_isLatin1_aae02
set_option maxRecDepth 20000 in
theorem ggJ5_inflate_da8c8_J2_newBytesFor_77867 : GoodIn wsJ5_inflate_da8c8 wsJ2_newBytesFor_77867 := goodIn_r _ [14, 15, 16, 17, 13, 18, 19] (by decide +kernel) (by decide +kernel)
set_option maxRecDepth 20000 in
theorem gJ5_inflate_da8c8_J2_newBytesFor_77867 : GoodIn wsJ5_inflate_da8c8 (va_wsS RJ5 26 yJ2_newBytesFor_77867 wsJ2_newBytesFor_77867) := goodIn_app (goodIn_of _ (by decide +kernel)) ggJ5_inflate_da8c8_J2_newBytesFor_77867
set_option maxRecDepth 20000 in
theorem ggJ5_inflate_da8c8_J1_inflate_0e8fd : GoodIn wsJ5_inflate_da8c8 wsJ1_inflate_0e8fd := goodIn_r _ [23, 24, 25, 13, 26, 27, 28, 29, 30, 31, 32, 33, 34, 35, 36, 37, 38, 39, 40, 41, 42, 43, 44, 45, 46, 47] (by decide +kernel) (by decide +kernel)
set_option maxRecDepth 20000 in
theorem gJ5_inflate_da8c8_J1_inflate_0e8fd : GoodIn wsJ5_inflate_da8c8 (va_wsS RJ5 125 yJ1_inflate_0e8fd wsJ1_inflate_0e8fd) := goodIn_app (goodIn_of _ (by decide +kernel)) ggJ5_inflate_da8c8_J1_inflate_0e8fd
theorem dJ5_inflate_da8c8_0 : decode cJ5_inflate_da8c8 0 = .ok (.aload_n 0, 1) := by decide +kernel
theorem dJ5_inflate_da8c8_1 : decode cJ5_inflate_da8c8 1 = .ok (.invokevirtual 83, 3) := by decide +kernel
theorem dJ5_inflate_da8c8_4 : decode cJ5_inflate_da8c8 4 = .ok (.ifCond .ne 4, 3) := by decide +kernel
theorem dJ5_inflate_da8c8_7 : decode cJ5_inflate_da8c8 7 = .ok (.return_, 1) := by decide +kernel
theorem dJ5_inflate_da8c8_8 : decode cJ5_inflate_da8c8 8 = .ok (.aload_n 0, 1) := by decide +kernel
theorem dJ5_inflate_da8c8_9 : decode cJ5_inflate_da8c8 9 = .ok (.getfield 15, 3) := by decide +kernel
theorem dJ5_inflate_da8c8_12 : decode cJ5_inflate_da8c8 12 = .ok (.arraylength, 1) := by decide +kernel
theorem dJ5_inflate_da8c8_13 : decode cJ5_inflate_da8c8 13 = .ok (.invokestatic 26, 3) := by decide +kernel
theorem dJ5_inflate_da8c8_16 : decode cJ5_inflate_da8c8 16 = .ok (.astore_n 1, 1) := by decide +kernel
theorem dJ5_inflate_da8c8_17 : decode cJ5_inflate_da8c8 17 = .ok (.aload_n 0, 1) := by decide +kernel
theorem dJ5_inflate_da8c8_18 : decode cJ5_inflate_da8c8 18 = .ok (.getfield 15, 3) := by decide +kernel
theorem dJ5_inflate_da8c8_21 : decode cJ5_inflate_da8c8 21 = .ok (.iconst 0, 1) := by decide +kernel
theorem dJ5_inflate_da8c8_22 : decode cJ5_inflate_da8c8 22 = .ok (.aload_n 1, 1) := by decide +kernel
theorem dJ5_inflate_da8c8_23 : decode cJ5_inflate_da8c8 23 = .ok (.iconst 0, 1) := by decide +kernel
theorem dJ5_inflate_da8c8_24 : decode cJ5_inflate_da8c8 24 = .ok (.aload_n 0, 1) := by decide +kernel
theorem dJ5_inflate_da8c8_25 : decode cJ5_inflate_da8c8 25 = .ok (.getfield 79, 3) := by decide +kernel
theorem dJ5_inflate_da8c8_28 : decode cJ5_inflate_da8c8 28 = .ok (.invokestatic 125, 3) := by decide +kernel
theorem dJ5_inflate_da8c8_31 : decode cJ5_inflate_da8c8 31 = .ok (.aload_n 0, 1) := by decide +kernel
theorem dJ5_inflate_da8c8_32 : decode cJ5_inflate_da8c8 32 = .ok (.aload_n 1, 1) := by decide +kernel
theorem dJ5_inflate_da8c8_33 : decode cJ5_inflate_da8c8 33 = .ok (.putfield 15, 3) := by decide +kernel
theorem dJ5_inflate_da8c8_36 : decode cJ5_inflate_da8c8 36 = .ok (.aload_n 0, 1) := by decide +kernel
theorem dJ5_inflate_da8c8_37 : decode cJ5_inflate_da8c8 37 = .ok (.iconst 1, 1) := by decide +kernel
theorem dJ5_inflate_da8c8_38 : decode cJ5_inflate_da8c8 38 = .ok (.putfield 22, 3) := by decide +kernel
theorem dJ5_inflate_da8c8_41 : decode cJ5_inflate_da8c8 41 = .ok (.return_, 1) := by decide +kernel
set_option maxRecDepth 20000 in
theorem ggJ5_append_cf1ce_J5_appendNull_278bc : GoodIn wsJ5_append_cf1ce wsJ5_appendNull_278bc := goodIn_r _ [7, 1, 8, 9, 10, 11, 12, 6, 13, 14, 15, 16, 17, 18, 19, 20, 21, 22, 23, 24, 25, 26, 27, 28, 29, 30, 31, 32, 33, 34, 35, 36, 37, 38, 39, 40, 41, 42, 43, 44, 45, 46, 47, 48, 49, 50, 51, 52, 53, 54, 55, 56, 57, 58, 59, 60, 61, 62, 63, 64, 65, 66, 67, 68, 69, 70, 71, 72, 73, 74, 75, 76, 77, 78, 79, 80, 81, 138, 139, 140, 141] (by decide +kernel) (by decide +kernel)
set_option maxRecDepth 20000 in
theorem gJ5_append_cf1ce_J5_appendNull_278bc_u204J4 : GoodIn wsJ5_append_cf1ce (va_wsU RJ5 204 RJ4 "java/lang/AbstractStringBuilder" ⟨"java/lang/AbstractStringBuilder", "appendNull", "()Ljava/lang/AbstractStringBuilder;"⟩ yJ5_appendNull_278bc wsJ5_appendNull_278bc) := goodIn_app (goodIn_of _ (by decide +kernel)) ggJ5_append_cf1ce_J5_appendNull_278bc
set_option maxRecDepth 20000 in
theorem ggJ5_append_cf1ce_J0_length_8abf5 : GoodIn wsJ5_append_cf1ce wsJ0_length_8abf5 := goodIn_r _ [85, 86, 87, 88, 89, 70, 90, 91, 92, 142, 143, 144, 145] (by decide +kernel) (by decide +kernel)
set_option maxRecDepth 20000 in
theorem gJ5_append_cf1ce_J0_length_8abf5 : GoodIn wsJ5_append_cf1ce (wsV RJ5 32 RJ0 yJ0_length_8abf5 wsJ0_length_8abf5) := goodIn_app (goodIn_of _ (by decide +kernel)) ggJ5_append_cf1ce_J0_length_8abf5
set_option maxRecDepth 20000 in
theorem ggJ5_append_cf1ce_J5_ensureCapacityInternal_d00df : GoodIn wsJ5_append_cf1ce wsJ5_ensureCapacityInternal_d00df := goodIn_r _ [13, 8, 14, 15, 16, 17, 18, 6, 19, 20, 21, 22, 23, 24, 25, 26, 27, 28, 29, 30, 31, 32, 33, 34, 35, 36, 37, 38, 39, 40, 41, 42, 43, 44, 45, 46, 47, 48, 49, 50, 138, 139, 140, 141] (by decide +kernel) (by decide +kernel)
set_option maxRecDepth 20000 in
theorem gJ5_append_cf1ce_J5_ensureCapacityInternal_d00df_u100J4 : GoodIn wsJ5_append_cf1ce (va_wsU RJ5 100 RJ4 "java/lang/AbstractStringBuilder" ⟨"java/lang/AbstractStringBuilder", "ensureCapacityInternal", "(I)V"⟩ yJ5_ensureCapacityInternal_d00df wsJ5_ensureCapacityInternal_d00df) := goodIn_app (goodIn_of _ (by decide +kernel)) ggJ5_append_cf1ce_J5_ensureCapacityInternal_d00df
set_option maxRecDepth 20000 in
theorem ggJ5_append_cf1ce_J5_putStringAt_47b60 : GoodIn wsJ5_append_cf1ce wsJ5_putStringAt_47b60 := goodIn_r _ [97, 8, 14, 98, 99, 100, 101, 6, 102, 56, 103, 88, 89, 70, 90, 91, 92, 104, 105, 106, 107, 108, 1, 51, 52, 53, 54, 55, 109, 110, 59, 111, 43, 112, 113, 114, 115, 116, 117, 118, 119, 120, 121, 122, 123, 124, 125, 65, 66, 67, 126, 127, 128, 72, 129, 130, 75, 131, 77, 78, 79, 61, 80, 81, 132, 133, 134, 135, 86, 136, 48, 49, 50, 87, 137, 138, 139, 140, 141, 142, 143, 144, 145] (by decide +kernel) (by decide +kernel)
set_option maxRecDepth 20000 in
theorem gJ5_append_cf1ce_J5_putStringAt_47b60_u208J4 : GoodIn wsJ5_append_cf1ce (va_wsU RJ5 208 RJ4 "java/lang/AbstractStringBuilder" ⟨"java/lang/AbstractStringBuilder", "putStringAt", "(ILjava/lang/String;)V"⟩ yJ5_putStringAt_47b60 wsJ5_putStringAt_47b60) := goodIn_app (goodIn_of _ (by decide +kernel)) ggJ5_append_cf1ce_J5_putStringAt_47b60
theorem dJ5_append_cf1ce_0 : decode cJ5_append_cf1ce 0 = .ok (.aload_n 1, 1) := by decide +kernel
theorem dJ5_append_cf1ce_1 : decode cJ5_append_cf1ce 1 = .ok (.ifnonnull 8, 3) := by decide +kernel
theorem dJ5_append_cf1ce_4 : decode cJ5_append_cf1ce 4 = .ok (.aload_n 0, 1) := by decide +kernel
theorem dJ5_append_cf1ce_5 : decode cJ5_append_cf1ce 5 = .ok (.invokevirtual 204, 3) := by decide +kernel
theorem dJ5_append_cf1ce_8 : decode cJ5_append_cf1ce 8 = .ok (.areturn, 1) := by decide +kernel
theorem dJ5_append_cf1ce_9 : decode cJ5_append_cf1ce 9 = .ok (.aload_n 1, 1) := by decide +kernel
theorem dJ5_append_cf1ce_10 : decode cJ5_append_cf1ce 10 = .ok (.invokevirtual 32, 3) := by decide +kernel
theorem dJ5_append_cf1ce_13 : decode cJ5_append_cf1ce 13 = .ok (.istore_n 2, 1) := by decide +kernel
theorem dJ5_append_cf1ce_14 : decode cJ5_append_cf1ce 14 = .ok (.aload_n 0, 1) := by decide +kernel
theorem dJ5_append_cf1ce_15 : decode cJ5_append_cf1ce 15 = .ok (.aload_n 0, 1) := by decide +kernel
theorem dJ5_append_cf1ce_16 : decode cJ5_append_cf1ce 16 = .ok (.getfield 79, 3) := by decide +kernel
theorem dJ5_append_cf1ce_19 : decode cJ5_append_cf1ce 19 = .ok (.iload_n 2, 1) := by decide +kernel
theorem dJ5_append_cf1ce_20 : decode cJ5_append_cf1ce 20 = .ok (.iadd, 1) := by decide +kernel
theorem dJ5_append_cf1ce_21 : decode cJ5_append_cf1ce 21 = .ok (.invokevirtual 100, 3) := by decide +kernel
theorem dJ5_append_cf1ce_24 : decode cJ5_append_cf1ce 24 = .ok (.aload_n 0, 1) := by decide +kernel
theorem dJ5_append_cf1ce_25 : decode cJ5_append_cf1ce 25 = .ok (.aload_n 0, 1) := by decide +kernel
theorem dJ5_append_cf1ce_26 : decode cJ5_append_cf1ce 26 = .ok (.getfield 79, 3) := by decide +kernel
theorem dJ5_append_cf1ce_29 : decode cJ5_append_cf1ce 29 = .ok (.aload_n 1, 1) := by decide +kernel
theorem dJ5_append_cf1ce_30 : decode cJ5_append_cf1ce 30 = .ok (.invokevirtual 208, 3) := by decide +kernel
theorem dJ5_append_cf1ce_33 : decode cJ5_append_cf1ce 33 = .ok (.aload_n 0, 1) := by decide +kernel
theorem dJ5_append_cf1ce_34 : decode cJ5_append_cf1ce 34 = .ok (.dup, 1) := by decide +kernel
theorem dJ5_append_cf1ce_35 : decode cJ5_append_cf1ce 35 = .ok (.getfield 79, 3) := by decide +kernel
theorem dJ5_append_cf1ce_38 : decode cJ5_append_cf1ce 38 = .ok (.iload_n 2, 1) := by decide +kernel
theorem dJ5_append_cf1ce_39 : decode cJ5_append_cf1ce 39 = .ok (.iadd, 1) := by decide +kernel
theorem dJ5_append_cf1ce_40 : decode cJ5_append_cf1ce 40 = .ok (.putfield 79, 3) := by decide +kernel
theorem dJ5_append_cf1ce_43 : decode cJ5_append_cf1ce 43 = .ok (.aload_n 0, 1) := by decide +kernel
theorem dJ5_append_cf1ce_44 : decode cJ5_append_cf1ce 44 = .ok (.areturn, 1) := by decide +kernel
set_option maxRecDepth 20000 in
theorem ggJ5_appendNull_278bc_J5_ensureCapacityInternal_d00df : GoodIn wsJ5_appendNull_278bc wsJ5_ensureCapacityInternal_d00df := goodIn_r _ [8, 2, 9, 10, 11, 12, 13, 7, 14, 15, 16, 17, 18, 19, 20, 21, 22, 23, 24, 25, 26, 27, 28, 29, 30, 31, 32, 33, 34, 35, 36, 37, 38, 39, 40, 41, 42, 43, 44, 45, 77, 78, 79, 80] (by decide +kernel) (by decide +kernel)
set_option maxRecDepth 20000 in
theorem gJ5_appendNull_278bc_J5_ensureCapacityInternal_d00df_u100J4 : GoodIn wsJ5_appendNull_278bc (va_wsU RJ5 100 RJ4 "java/lang/AbstractStringBuilder" ⟨"java/lang/AbstractStringBuilder", "ensureCapacityInternal", "(I)V"⟩ yJ5_ensureCapacityInternal_d00df wsJ5_ensureCapacityInternal_d00df) := goodIn_app (goodIn_of _ (by decide +kernel)) ggJ5_appendNull_278bc_J5_ensureCapacityInternal_d00df
set_option maxRecDepth 20000 in
theorem ggJ5_appendNull_278bc_J5_isLatin1_aae02 : GoodIn wsJ5_appendNull_278bc wsJ5_isLatin1_aae02 := goodIn_r _ [50, 51, 9, 77, 78, 79, 80] (by decide +kernel) (by decide +kernel)
set_option maxRecDepth 20000 in
theorem gJ5_appendNull_278bc_J5_isLatin1_aae02_u83J4 : GoodIn wsJ5_appendNull_278bc (va_wsU RJ5 83 RJ4 "java/lang/AbstractStringBuilder" ⟨"java/lang/AbstractStringBuilder", "isLatin1", "()Z"⟩ yJ5_isLatin1_aae02 wsJ5_isLatin1_aae02) := goodIn_app (goodIn_of _ (by decide +kernel)) ggJ5_appendNull_278bc_J5_isLatin1_aae02
set_option maxRecDepth 20000 in
theorem ggJ5_appendNull_278bc_J2_putCharsAt_cd4e5 : GoodIn wsJ5_appendNull_278bc wsJ2_putCharsAt_cd4e5 := goodIn_r _ [55, 56, 57, 58, 54, 59, 60, 61, 62, 63, 64, 65, 66, 67, 68, 69, 70, 71, 72, 73, 74, 75, 76] (by decide +kernel) (by decide +kernel)
set_option maxRecDepth 20000 in
theorem gJ5_appendNull_278bc_J2_putCharsAt_cd4e5 : GoodIn wsJ5_appendNull_278bc (va_wsS RJ5 226 yJ2_putCharsAt_cd4e5 wsJ2_putCharsAt_cd4e5) := goodIn_app (goodIn_of _ (by decide +kernel)) ggJ5_appendNull_278bc_J2_putCharsAt_cd4e5
theorem dJ5_appendNull_278bc_0 : decode cJ5_appendNull_278bc 0 = .ok (.aload_n 0, 1) := by decide +kernel
theorem dJ5_appendNull_278bc_1 : decode cJ5_appendNull_278bc 1 = .ok (.aload_n 0, 1) := by decide +kernel
theorem dJ5_appendNull_278bc_2 : decode cJ5_appendNull_278bc 2 = .ok (.getfield 79, 3) := by decide +kernel
theorem dJ5_appendNull_278bc_5 : decode cJ5_appendNull_278bc 5 = .ok (.iconst 4, 1) := by decide +kernel
theorem dJ5_appendNull_278bc_6 : decode cJ5_appendNull_278bc 6 = .ok (.iadd, 1) := by decide +kernel
theorem dJ5_appendNull_278bc_7 : decode cJ5_appendNull_278bc 7 = .ok (.invokevirtual 100, 3) := by decide +kernel
theorem dJ5_appendNull_278bc_10 : decode cJ5_appendNull_278bc 10 = .ok (.aload_n 0, 1) := by decide +kernel
theorem dJ5_appendNull_278bc_11 : decode cJ5_appendNull_278bc 11 = .ok (.getfield 79, 3) := by decide +kernel
theorem dJ5_appendNull_278bc_14 : decode cJ5_appendNull_278bc 14 = .ok (.istore_n 1, 1) := by decide +kernel
theorem dJ5_appendNull_278bc_15 : decode cJ5_appendNull_278bc 15 = .ok (.aload_n 0, 1) := by decide +kernel
theorem dJ5_appendNull_278bc_16 : decode cJ5_appendNull_278bc 16 = .ok (.getfield 15, 3) := by decide +kernel
theorem dJ5_appendNull_278bc_19 : decode cJ5_appendNull_278bc 19 = .ok (.astore_n 2, 1) := by decide +kernel
theorem dJ5_appendNull_278bc_20 : decode cJ5_appendNull_278bc 20 = .ok (.aload_n 0, 1) := by decide +kernel
theorem dJ5_appendNull_278bc_21 : decode cJ5_appendNull_278bc 21 = .ok (.invokevirtual 83, 3) := by decide +kernel
theorem dJ5_appendNull_278bc_24 : decode cJ5_appendNull_278bc 24 = .ok (.ifCond .eq 38, 3) := by decide +kernel
theorem dJ5_appendNull_278bc_27 : decode cJ5_appendNull_278bc 27 = .ok (.aload_n 2, 1) := by decide +kernel
theorem dJ5_appendNull_278bc_28 : decode cJ5_appendNull_278bc 28 = .ok (.iload_n 1, 1) := by decide +kernel
theorem dJ5_appendNull_278bc_29 : decode cJ5_appendNull_278bc 29 = .ok (.iinc 1 1, 3) := by decide +kernel
theorem dJ5_appendNull_278bc_32 : decode cJ5_appendNull_278bc 32 = .ok (.bipush 110, 2) := by decide +kernel
theorem dJ5_appendNull_278bc_34 : decode cJ5_appendNull_278bc 34 = .ok (.bastore, 1) := by decide +kernel
theorem dJ5_appendNull_278bc_35 : decode cJ5_appendNull_278bc 35 = .ok (.aload_n 2, 1) := by decide +kernel
theorem dJ5_appendNull_278bc_36 : decode cJ5_appendNull_278bc 36 = .ok (.iload_n 1, 1) := by decide +kernel
theorem dJ5_appendNull_278bc_37 : decode cJ5_appendNull_278bc 37 = .ok (.iinc 1 1, 3) := by decide +kernel
theorem dJ5_appendNull_278bc_40 : decode cJ5_appendNull_278bc 40 = .ok (.bipush 117, 2) := by decide +kernel
theorem dJ5_appendNull_278bc_42 : decode cJ5_appendNull_278bc 42 = .ok (.bastore, 1) := by decide +kernel
theorem dJ5_appendNull_278bc_43 : decode cJ5_appendNull_278bc 43 = .ok (.aload_n 2, 1) := by decide +kernel
theorem dJ5_appendNull_278bc_44 : decode cJ5_appendNull_278bc 44 = .ok (.iload_n 1, 1) := by decide +kernel
theorem dJ5_appendNull_278bc_45 : decode cJ5_appendNull_278bc 45 = .ok (.iinc 1 1, 3) := by decide +kernel
theorem dJ5_appendNull_278bc_48 : decode cJ5_appendNull_278bc 48 = .ok (.bipush 108, 2) := by decide +kernel
theorem dJ5_appendNull_278bc_50 : decode cJ5_appendNull_278bc 50 = .ok (.bastore, 1) := by decide +kernel
theorem dJ5_appendNull_278bc_51 : decode cJ5_appendNull_278bc 51 = .ok (.aload_n 2, 1) := by decide +kernel
theorem dJ5_appendNull_278bc_52 : decode cJ5_appendNull_278bc 52 = .ok (.iload_n 1, 1) := by decide +kernel
theorem dJ5_appendNull_278bc_53 : decode cJ5_appendNull_278bc 53 = .ok (.iinc 1 1, 3) := by decide +kernel
theorem dJ5_appendNull_278bc_56 : decode cJ5_appendNull_278bc 56 = .ok (.bipush 108, 2) := by decide +kernel
theorem dJ5_appendNull_278bc_58 : decode cJ5_appendNull_278bc 58 = .ok (.bastore, 1) := by decide +kernel
theorem dJ5_appendNull_278bc_59 : decode cJ5_appendNull_278bc 59 = .ok (.goto 17, 3) := by decide +kernel
theorem dJ5_appendNull_278bc_62 : decode cJ5_appendNull_278bc 62 = .ok (.aload_n 2, 1) := by decide +kernel
theorem dJ5_appendNull_278bc_63 : decode cJ5_appendNull_278bc 63 = .ok (.iload_n 1, 1) := by decide +kernel
theorem dJ5_appendNull_278bc_64 : decode cJ5_appendNull_278bc 64 = .ok (.bipush 110, 2) := by decide +kernel
theorem dJ5_appendNull_278bc_66 : decode cJ5_appendNull_278bc 66 = .ok (.bipush 117, 2) := by decide +kernel
theorem dJ5_appendNull_278bc_68 : decode cJ5_appendNull_278bc 68 = .ok (.bipush 108, 2) := by decide +kernel
theorem dJ5_appendNull_278bc_70 : decode cJ5_appendNull_278bc 70 = .ok (.bipush 108, 2) := by decide +kernel
theorem dJ5_appendNull_278bc_72 : decode cJ5_appendNull_278bc 72 = .ok (.invokestatic 226, 3) := by decide +kernel
theorem dJ5_appendNull_278bc_75 : decode cJ5_appendNull_278bc 75 = .ok (.istore_n 1, 1) := by decide +kernel
theorem dJ5_appendNull_278bc_76 : decode cJ5_appendNull_278bc 76 = .ok (.aload_n 0, 1) := by decide +kernel
theorem dJ5_appendNull_278bc_77 : decode cJ5_appendNull_278bc 77 = .ok (.iload_n 1, 1) := by decide +kernel
theorem dJ5_appendNull_278bc_78 : decode cJ5_appendNull_278bc 78 = .ok (.putfield 79, 3) := by decide +kernel
theorem dJ5_appendNull_278bc_81 : decode cJ5_appendNull_278bc 81 = .ok (.aload_n 0, 1) := by decide +kernel
theorem dJ5_appendNull_278bc_82 : decode cJ5_appendNull_278bc 82 = .ok (.areturn, 1) := by decide +kernel
set_option maxRecDepth 20000 in
theorem ggJ5_append_66267_J13_stringSize_95d88 : GoodIn wsJ5_append_66267 wsJ13_stringSize_95d88 := goodIn_r _ [6, 7, 8] (by decide +kernel) (by decide +kernel)
set_option maxRecDepth 20000 in
theorem gJ5_append_66267_J13_stringSize_95d88 : GoodIn wsJ5_append_66267 (va_wsS RJ5 254 yJ13_stringSize_95d88 wsJ13_stringSize_95d88) := goodIn_app (goodIn_of _ (by decide +kernel)) ggJ5_append_66267_J13_stringSize_95d88
set_option maxRecDepth 20000 in
theorem ggJ5_append_66267_J5_ensureCapacityInternal_d00df : GoodIn wsJ5_append_66267 wsJ5_ensureCapacityInternal_d00df := goodIn_r _ [14, 2, 15, 16, 17, 18, 19, 13, 20, 21, 22, 23, 24, 25, 26, 27, 28, 29, 30, 31, 32, 33, 34, 35, 36, 37, 38, 39, 40, 41, 42, 43, 44, 45, 46, 47, 48, 49, 50, 51, 97, 98, 99, 100] (by decide +kernel) (by decide +kernel)
set_option maxRecDepth 20000 in
theorem gJ5_append_66267_J5_ensureCapacityInternal_d00df_u100J4 : GoodIn wsJ5_append_66267 (va_wsU RJ5 100 RJ4 "java/lang/AbstractStringBuilder" ⟨"java/lang/AbstractStringBuilder", "ensureCapacityInternal", "(I)V"⟩ yJ5_ensureCapacityInternal_d00df wsJ5_ensureCapacityInternal_d00df) := goodIn_app (goodIn_of _ (by decide +kernel)) ggJ5_append_66267_J5_ensureCapacityInternal_d00df
set_option maxRecDepth 20000 in
theorem ggJ5_append_66267_J5_isLatin1_aae02 : GoodIn wsJ5_append_66267 wsJ5_isLatin1_aae02 := goodIn_r _ [56, 57, 15, 97, 98, 99, 100] (by decide +kernel) (by decide +kernel)
set_option maxRecDepth 20000 in
theorem gJ5_append_66267_J5_isLatin1_aae02_u83J4 : GoodIn wsJ5_append_66267 (va_wsU RJ5 83 RJ4 "java/lang/AbstractStringBuilder" ⟨"java/lang/AbstractStringBuilder", "isLatin1", "()Z"⟩ yJ5_isLatin1_aae02 wsJ5_isLatin1_aae02) := goodIn_app (goodIn_of _ (by decide +kernel)) ggJ5_append_66267_J5_isLatin1_aae02
set_option maxRecDepth 20000 in
theorem ggJ5_append_66267_J13_getChars_11360 : GoodIn wsJ5_append_66267 wsJ13_getChars_11360 := goodIn_r _ [60, 61, 62, 63, 64] (by decide +kernel) (by decide +kernel)
set_option maxRecDepth 20000 in
theorem gJ5_append_66267_J13_getChars_11360 : GoodIn wsJ5_append_66267 (va_wsS RJ5 259 yJ13_getChars_11360 wsJ13_getChars_11360) := goodIn_app (goodIn_of _ (by decide +kernel)) ggJ5_append_66267_J13_getChars_11360
set_option maxRecDepth 20000 in
theorem ggJ5_append_66267_J2_getChars_1ba55 : GoodIn wsJ5_append_66267 wsJ2_getChars_1ba55 := goodIn_r _ [68, 69, 70, 71, 67, 72, 73, 74, 75, 76, 77, 78, 79, 80, 81, 82, 83, 84, 85, 86, 87, 88, 89, 90, 91, 92, 93, 94, 95, 96] (by decide +kernel) (by decide +kernel)
set_option maxRecDepth 20000 in
theorem gJ5_append_66267_J2_getChars_1ba55 : GoodIn wsJ5_append_66267 (va_wsS RJ5 262 yJ2_getChars_1ba55 wsJ2_getChars_1ba55) := goodIn_app (goodIn_of _ (by decide +kernel)) ggJ5_append_66267_J2_getChars_1ba55
