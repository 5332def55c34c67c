theorem dX5_excess_0 : decode cX5_excess 0 = .ok (.iload_n 1, 1) := by decide +kernel
theorem dX5_excess_1 : decode cX5_excess 1 = .ok (.invokestatic 64, 3) := by decide +kernel
theorem dX5_excess_4 : decode cX5_excess 4 = .ok (.ifCond .eq 34, 3) := by decide +kernel
theorem dX5_excess_7 : decode cX5_excess 7 = .ok (.aload_n 0, 1) := by decide +kernel
theorem dX5_excess_8 : decode cX5_excess 8 = .ok (.getfield 14, 3) := by decide +kernel
theorem dX5_excess_11 : decode cX5_excess 11 = .ok (.iload 4, 2) := by decide +kernel
theorem dX5_excess_13 : decode cX5_excess 13 = .ok (.invokevirtual 68, 3) := by decide +kernel
theorem dX5_excess_16 : decode cX5_excess 16 = .ok (.ifCond .eq 22, 3) := by decide +kernel
theorem dX5_excess_19 : decode cX5_excess 19 = .ok (.aload_n 0, 1) := by decide +kernel
theorem dX5_excess_20 : decode cX5_excess 20 = .ok (.getfield 38, 3) := by decide +kernel
theorem dX5_excess_23 : decode cX5_excess 23 = .ok (.iload_n 2, 1) := by decide +kernel
theorem dX5_excess_24 : decode cX5_excess 24 = .ok (.iload_n 3, 1) := by decide +kernel
theorem dX5_excess_25 : decode cX5_excess 25 = .ok (.aload_n 0, 1) := by decide +kernel
theorem dX5_excess_26 : decode cX5_excess 26 = .ok (.getfield 14, 3) := by decide +kernel
theorem dX5_excess_29 : decode cX5_excess 29 = .ok (.getfield 136, 3) := by decide +kernel
theorem dX5_excess_32 : decode cX5_excess 32 = .ok (.invokevirtual 282, 3) := by decide +kernel
theorem dX5_excess_35 : decode cX5_excess 35 = .ok (.ifCond .ne 7, 3) := by decide +kernel
theorem dX5_excess_38 : decode cX5_excess 38 = .ok (.ldc2_w 79, 3) := by decide +kernel
theorem dX5_excess_41 : decode cX5_excess 41 = .ok (.lreturn, 1) := by decide +kernel
theorem dX5_excess_42 : decode cX5_excess 42 = .ok (.aload_n 0, 1) := by decide +kernel
theorem dX5_excess_43 : decode cX5_excess 43 = .ok (.getfield 45, 3) := by decide +kernel
theorem dX5_excess_46 : decode cX5_excess 46 = .ok (.invokevirtual 163, 3) := by decide +kernel
theorem dX5_excess_49 : decode cX5_excess 49 = .ok (.aload_n 0, 1) := by decide +kernel
theorem dX5_excess_50 : decode cX5_excess 50 = .ok (.getfield 45, 3) := by decide +kernel
theorem dX5_excess_53 : decode cX5_excess 53 = .ok (.aload_n 0, 1) := by decide +kernel
theorem dX5_excess_54 : decode cX5_excess 54 = .ok (.getfield 14, 3) := by decide +kernel
theorem dX5_excess_57 : decode cX5_excess 57 = .ok (.getfield 75, 3) := by decide +kernel
theorem dX5_excess_60 : decode cX5_excess 60 = .ok (.iload_n 1, 1) := by decide +kernel
theorem dX5_excess_61 : decode cX5_excess 61 = .ok (.aaload, 1) := by decide +kernel
theorem dX5_excess_62 : decode cX5_excess 62 = .ok (.iload 4, 2) := by decide +kernel
theorem dX5_excess_64 : decode cX5_excess 64 = .ok (.laload, 1) := by decide +kernel
theorem dX5_excess_65 : decode cX5_excess 65 = .ok (.aload_n 0, 1) := by decide +kernel
theorem dX5_excess_66 : decode cX5_excess 66 = .ok (.iload_n 2, 1) := by decide +kernel
theorem dX5_excess_67 : decode cX5_excess 67 = .ok (.iload_n 3, 1) := by decide +kernel
theorem dX5_excess_68 : decode cX5_excess 68 = .ok (.iload 4, 2) := by decide +kernel
theorem dX5_excess_70 : decode cX5_excess 70 = .ok (.invokevirtual 286, 3) := by decide +kernel
theorem dX5_excess_73 : decode cX5_excess 73 = .ok (.invokevirtual 178, 3) := by decide +kernel
theorem dX5_excess_76 : decode cX5_excess 76 = .ok (.lstore 5, 2) := by decide +kernel
theorem dX5_excess_78 : decode cX5_excess 78 = .ok (.aload_n 0, 1) := by decide +kernel
theorem dX5_excess_79 : decode cX5_excess 79 = .ok (.getfield 45, 3) := by decide +kernel
theorem dX5_excess_82 : decode cX5_excess 82 = .ok (.getfield 185, 3) := by decide +kernel
theorem dX5_excess_85 : decode cX5_excess 85 = .ok (.ifCond .eq 9, 3) := by decide +kernel
theorem dX5_excess_88 : decode cX5_excess 88 = .ok (.ldc2_w 79, 3) := by decide +kernel
theorem dX5_excess_91 : decode cX5_excess 91 = .ok (.goto 5, 3) := by decide +kernel
theorem dX5_excess_94 : decode cX5_excess 94 = .ok (.lload 5, 2) := by decide +kernel
theorem dX5_excess_96 : decode cX5_excess 96 = .ok (.lreturn, 1) := by decide +kernel
set_option maxRecDepth 20000 in
theorem ggX5_spell_X5_isGame : GoodIn wsX5_spell wsX5_isGame := goodIn_r _ [9] (by decide +kernel) (by decide +kernel)
set_option maxRecDepth 20000 in
theorem gX5_spell_X5_isGame : GoodIn wsX5_spell (va_wsS RX5 64 yX5_isGame wsX5_isGame) := goodIn_app (goodIn_of _ (by decide +kernel)) ggX5_spell_X5_isGame
set_option maxRecDepth 20000 in
theorem ggX5_spell_X5_fillWholes : GoodIn wsX5_spell wsX5_fillWholes := goodIn_r _ [13, 14, 2, 3, 4, 15, 16, 17, 18, 19, 20, 21, 22, 23, 24, 25, 8, 26, 27, 28, 29, 30, 31, 32, 33, 34, 35, 36, 37, 38, 39, 40, 41, 42, 43, 44, 45, 46, 47, 48, 49, 50, 51, 52, 53, 54, 55, 56, 57, 58, 59, 60, 61, 62, 63, 64, 65, 66, 67, 68, 103, 104, 105, 106, 107, 108, 109, 110, 111, 112, 113, 114, 115, 116, 117, 118, 119, 122] (by decide +kernel) (by decide +kernel)
set_option maxRecDepth 20000 in
theorem gX5_spell_X5_fillWholes : GoodIn wsX5_spell (wsV RX5 290 RX5 yX5_fillWholes wsX5_fillWholes) := goodIn_app (goodIn_of _ (by decide +kernel)) ggX5_spell_X5_fillWholes
set_option maxRecDepth 20000 in
theorem ggX5_spell_X2_wipe : GoodIn wsX5_spell wsX2_wipe := goodIn_r _ [73, 74, 120, 121] (by decide +kernel) (by decide +kernel)
set_option maxRecDepth 20000 in
theorem gX5_spell_X2_wipe : GoodIn wsX5_spell (wsV RX5 293 RX2 yX2_wipe wsX2_wipe) := goodIn_app (goodIn_of _ (by decide +kernel)) ggX5_spell_X2_wipe
set_option maxRecDepth 20000 in
theorem ggX5_spell_X5_factorial : GoodIn wsX5_spell wsX5_factorial := goodIn_r _ [57, 58] (by decide +kernel) (by decide +kernel)
set_option maxRecDepth 20000 in
theorem gX5_spell_X5_factorial : GoodIn wsX5_spell (va_wsS RX5 217 yX5_factorial wsX5_factorial) := goodIn_app (goodIn_of _ (by decide +kernel)) ggX5_spell_X5_factorial
set_option maxRecDepth 20000 in
theorem ggX5_spell_X2_append : GoodIn wsX5_spell wsX2_append := goodIn_r _ [78, 74, 79, 120, 121] (by decide +kernel) (by decide +kernel)
set_option maxRecDepth 20000 in
theorem gX5_spell_X2_append : GoodIn wsX5_spell (wsV RX5 294 RX2 yX2_append wsX2_append) := goodIn_app (goodIn_of _ (by decide +kernel)) ggX5_spell_X2_append
set_option maxRecDepth 20000 in
theorem ggX5_spell_X5_lowest : GoodIn wsX5_spell wsX5_lowest := goodIn_r _ [82, 83, 84, 85, 8, 86, 87, 88, 89, 90] (by decide +kernel) (by decide +kernel)
set_option maxRecDepth 20000 in
theorem gX5_spell_X5_lowest : GoodIn wsX5_spell (va_wsS RX5 220 yX5_lowest wsX5_lowest) := goodIn_app (goodIn_of _ (by decide +kernel)) ggX5_spell_X5_lowest
set_option maxRecDepth 20000 in
theorem ggX5_spell_X2_appendFraction : GoodIn wsX5_spell wsX2_appendFraction := goodIn_r _ [94, 95, 96, 97, 72, 98, 99, 100, 101, 88, 89, 90, 102, 76, 77, 78, 74, 79, 120, 121] (by decide +kernel) (by decide +kernel)
set_option maxRecDepth 20000 in
theorem gX5_spell_X2_appendFraction : GoodIn wsX5_spell (wsV RX5 297 RX2 yX2_appendFraction wsX2_appendFraction) := goodIn_app (goodIn_of _ (by decide +kernel)) ggX5_spell_X2_appendFraction
theorem dX5_spell_0 : decode cX5_spell 0 = .ok (.iload_n 1, 1) := by decide +kernel
theorem dX5_spell_1 : decode cX5_spell 1 = .ok (.invokestatic 64, 3) := by decide +kernel
theorem dX5_spell_4 : decode cX5_spell 4 = .ok (.ifCond .ne 5, 3) := by decide +kernel
theorem dX5_spell_7 : decode cX5_spell 7 = .ok (.iconst (-1), 1) := by decide +kernel
theorem dX5_spell_8 : decode cX5_spell 8 = .ok (.ireturn, 1) := by decide +kernel
theorem dX5_spell_9 : decode cX5_spell 9 = .ok (.aload_n 0, 1) := by decide +kernel
theorem dX5_spell_10 : decode cX5_spell 10 = .ok (.iload_n 1, 1) := by decide +kernel
theorem dX5_spell_11 : decode cX5_spell 11 = .ok (.invokevirtual 290, 3) := by decide +kernel
theorem dX5_spell_14 : decode cX5_spell 14 = .ok (.ifCond .ne 6, 3) := by decide +kernel
theorem dX5_spell_17 : decode cX5_spell 17 = .ok (.bipush (-6), 2) := by decide +kernel
theorem dX5_spell_19 : decode cX5_spell 19 = .ok (.ireturn, 1) := by decide +kernel
theorem dX5_spell_20 : decode cX5_spell 20 = .ok (.aload_n 0, 1) := by decide +kernel
theorem dX5_spell_21 : decode cX5_spell 21 = .ok (.getfield 31, 3) := by decide +kernel
theorem dX5_spell_24 : decode cX5_spell 24 = .ok (.invokevirtual 293, 3) := by decide +kernel
theorem dX5_spell_27 : decode cX5_spell 27 = .ok (.aload_n 0, 1) := by decide +kernel
theorem dX5_spell_28 : decode cX5_spell 28 = .ok (.getfield 14, 3) := by decide +kernel
theorem dX5_spell_31 : decode cX5_spell 31 = .ok (.getfield 136, 3) := by decide +kernel
theorem dX5_spell_34 : decode cX5_spell 34 = .ok (.invokestatic 217, 3) := by decide +kernel
theorem dX5_spell_37 : decode cX5_spell 37 = .ok (.istore_n 2, 1) := by decide +kernel
theorem dX5_spell_38 : decode cX5_spell 38 = .ok (.iconst 0, 1) := by decide +kernel
theorem dX5_spell_39 : decode cX5_spell 39 = .ok (.istore_n 3, 1) := by decide +kernel
theorem dX5_spell_40 : decode cX5_spell 40 = .ok (.iload_n 3, 1) := by decide +kernel
theorem dX5_spell_41 : decode cX5_spell 41 = .ok (.aload_n 0, 1) := by decide +kernel
theorem dX5_spell_42 : decode cX5_spell 42 = .ok (.getfield 14, 3) := by decide +kernel
theorem dX5_spell_45 : decode cX5_spell 45 = .ok (.getfield 136, 3) := by decide +kernel
theorem dX5_spell_48 : decode cX5_spell 48 = .ok (.if_icmp .ge 53, 3) := by decide +kernel
theorem dX5_spell_51 : decode cX5_spell 51 = .ok (.iload_n 3, 1) := by decide +kernel
theorem dX5_spell_52 : decode cX5_spell 52 = .ok (.ifCond .le 12, 3) := by decide +kernel
theorem dX5_spell_55 : decode cX5_spell 55 = .ok (.aload_n 0, 1) := by decide +kernel
theorem dX5_spell_56 : decode cX5_spell 56 = .ok (.getfield 31, 3) := by decide +kernel
theorem dX5_spell_59 : decode cX5_spell 59 = .ok (.bipush 32, 2) := by decide +kernel
theorem dX5_spell_61 : decode cX5_spell 61 = .ok (.invokevirtual 294, 3) := by decide +kernel
theorem dX5_spell_64 : decode cX5_spell 64 = .ok (.aload_n 0, 1) := by decide +kernel
theorem dX5_spell_65 : decode cX5_spell 65 = .ok (.getfield 31, 3) := by decide +kernel
theorem dX5_spell_68 : decode cX5_spell 68 = .ok (.aload_n 0, 1) := by decide +kernel
theorem dX5_spell_69 : decode cX5_spell 69 = .ok (.getfield 53, 3) := by decide +kernel
theorem dX5_spell_72 : decode cX5_spell 72 = .ok (.iload_n 3, 1) := by decide +kernel
theorem dX5_spell_73 : decode cX5_spell 73 = .ok (.laload, 1) := by decide +kernel
theorem dX5_spell_74 : decode cX5_spell 74 = .ok (.iload_n 2, 1) := by decide +kernel
theorem dX5_spell_75 : decode cX5_spell 75 = .ok (.i2l, 1) := by decide +kernel
theorem dX5_spell_76 : decode cX5_spell 76 = .ok (.iconst 0, 1) := by decide +kernel
theorem dX5_spell_77 : decode cX5_spell 77 = .ok (.invokestatic 220, 3) := by decide +kernel
theorem dX5_spell_80 : decode cX5_spell 80 = .ok (.aload_n 0, 1) := by decide +kernel
theorem dX5_spell_81 : decode cX5_spell 81 = .ok (.getfield 53, 3) := by decide +kernel
theorem dX5_spell_84 : decode cX5_spell 84 = .ok (.iload_n 3, 1) := by decide +kernel
theorem dX5_spell_85 : decode cX5_spell 85 = .ok (.laload, 1) := by decide +kernel
theorem dX5_spell_86 : decode cX5_spell 86 = .ok (.iload_n 2, 1) := by decide +kernel
theorem dX5_spell_87 : decode cX5_spell 87 = .ok (.i2l, 1) := by decide +kernel
theorem dX5_spell_88 : decode cX5_spell 88 = .ok (.iconst 1, 1) := by decide +kernel
theorem dX5_spell_89 : decode cX5_spell 89 = .ok (.invokestatic 220, 3) := by decide +kernel
theorem dX5_spell_92 : decode cX5_spell 92 = .ok (.invokevirtual 297, 3) := by decide +kernel
theorem dX5_spell_95 : decode cX5_spell 95 = .ok (.iinc 3 1, 3) := by decide +kernel
theorem dX5_spell_98 : decode cX5_spell 98 = .ok (.goto (-58), 3) := by decide +kernel
theorem dX5_spell_101 : decode cX5_spell 101 = .ok (.aload_n 0, 1) := by decide +kernel
theorem dX5_spell_102 : decode cX5_spell 102 = .ok (.getfield 31, 3) := by decide +kernel
theorem dX5_spell_105 : decode cX5_spell 105 = .ok (.getfield 301, 3) := by decide +kernel
theorem dX5_spell_108 : decode cX5_spell 108 = .ok (.ireturn, 1) := by decide +kernel
theorem dX5_paper_0 : decode cX5_paper 0 = .ok (.iload_n 1, 1) := by decide +kernel
theorem dX5_paper_1 : decode cX5_paper 1 = .ok (.ifCond .lt 26, 3) := by decide +kernel
theorem dX5_paper_4 : decode cX5_paper 4 = .ok (.iload_n 1, 1) := by decide +kernel
theorem dX5_paper_5 : decode cX5_paper 5 = .ok (.aload_n 0, 1) := by decide +kernel
theorem dX5_paper_6 : decode cX5_paper 6 = .ok (.getfield 31, 3) := by decide +kernel
theorem dX5_paper_9 : decode cX5_paper 9 = .ok (.getfield 301, 3) := by decide +kernel
theorem dX5_paper_12 : decode cX5_paper 12 = .ok (.if_icmp .ge 15, 3) := by decide +kernel
theorem dX5_paper_15 : decode cX5_paper 15 = .ok (.aload_n 0, 1) := by decide +kernel
theorem dX5_paper_16 : decode cX5_paper 16 = .ok (.getfield 31, 3) := by decide +kernel
theorem dX5_paper_19 : decode cX5_paper 19 = .ok (.getfield 302, 3) := by decide +kernel
theorem dX5_paper_22 : decode cX5_paper 22 = .ok (.iload_n 1, 1) := by decide +kernel
theorem dX5_paper_23 : decode cX5_paper 23 = .ok (.baload, 1) := by decide +kernel
theorem dX5_paper_24 : decode cX5_paper 24 = .ok (.goto 4, 3) := by decide +kernel
theorem dX5_paper_27 : decode cX5_paper 27 = .ok (.iconst (-1), 1) := by decide +kernel
theorem dX5_paper_28 : decode cX5_paper 28 = .ok (.ireturn, 1) := by decide +kernel
set_option maxRecDepth 20000 in
theorem ggX5_told_X0_countEdges : GoodIn wsX5_told wsX0_countEdges := goodIn_r _ [14, 15, 51, 52, 53, 54, 55, 56, 57] (by decide +kernel) (by decide +kernel)
set_option maxRecDepth 20000 in
theorem gX5_told_X0_countEdges : GoodIn wsX5_told (wsV RX5 306 RX0 yX0_countEdges wsX0_countEdges) := goodIn_app (goodIn_of _ (by decide +kernel)) ggX5_told_X0_countEdges
set_option maxRecDepth 20000 in
theorem ggX5_told_X0_countUnions : GoodIn wsX5_told wsX0_countUnions := goodIn_r _ [19, 20, 21, 22, 23, 24, 25, 26, 27, 51, 52, 53, 54, 55, 56, 57] (by decide +kernel) (by decide +kernel)
set_option maxRecDepth 20000 in
theorem gX5_told_X0_countUnions : GoodIn wsX5_told (wsV RX5 231 RX0 yX0_countUnions wsX0_countUnions) := goodIn_app (goodIn_of _ (by decide +kernel)) ggX5_told_X0_countUnions
set_option maxRecDepth 20000 in
theorem ggX5_told_X0_everyone : GoodIn wsX5_told wsX0_everyone := goodIn_r _ [31, 20, 51, 52, 53, 54, 55, 56, 57] (by decide +kernel) (by decide +kernel)
set_option maxRecDepth 20000 in
theorem gX5_told_X0_everyone : GoodIn wsX5_told (wsV RX5 175 RX0 yX0_everyone wsX0_everyone) := goodIn_app (goodIn_of _ (by decide +kernel)) ggX5_told_X0_everyone
set_option maxRecDepth 20000 in
theorem ggX5_told_X0_weigh : GoodIn wsX5_told wsX0_weigh := goodIn_r _ [35, 20, 36, 26, 23, 27, 51, 52, 53, 54, 55, 56, 57] (by decide +kernel) (by decide +kernel)
set_option maxRecDepth 20000 in
theorem gX5_told_X0_weigh : GoodIn wsX5_told (wsV RX5 309 RX0 yX0_weigh wsX0_weigh) := goodIn_app (goodIn_of _ (by decide +kernel)) ggX5_told_X0_weigh
set_option maxRecDepth 20000 in
theorem ggX5_told_X0_hasPartner : GoodIn wsX5_told wsX0_hasPartner := goodIn_r _ [40, 20, 51, 52, 53, 54, 55, 56, 57] (by decide +kernel) (by decide +kernel)
set_option maxRecDepth 20000 in
theorem gX5_told_X0_hasPartner : GoodIn wsX5_told (wsV RX5 81 RX0 yX0_hasPartner wsX0_hasPartner) := goodIn_app (goodIn_of _ (by decide +kernel)) ggX5_told_X0_hasPartner
theorem dX5_told_0 : decode cX5_told 0 = .ok (.iload_n 1, 1) := by decide +kernel
theorem dX5_told_1 : decode cX5_told 1 = .ok (.tableswitch 118 0 7 #[47, 55, 63, 71, 79, 87, 95, 103], 47) := by decide +kernel
theorem dX5_told_48 : decode cX5_told 48 = .ok (.aload_n 0, 1) := by decide +kernel
theorem dX5_told_49 : decode cX5_told 49 = .ok (.getfield 14, 3) := by decide +kernel
theorem dX5_told_52 : decode cX5_told 52 = .ok (.getfield 136, 3) := by decide +kernel
theorem dX5_told_55 : decode cX5_told 55 = .ok (.ireturn, 1) := by decide +kernel
theorem dX5_told_56 : decode cX5_told 56 = .ok (.aload_n 0, 1) := by decide +kernel
theorem dX5_told_57 : decode cX5_told 57 = .ok (.getfield 14, 3) := by decide +kernel
theorem dX5_told_60 : decode cX5_told 60 = .ok (.getfield 87, 3) := by decide +kernel
theorem dX5_told_63 : decode cX5_told 63 = .ok (.ireturn, 1) := by decide +kernel
theorem dX5_told_64 : decode cX5_told 64 = .ok (.aload_n 0, 1) := by decide +kernel
theorem dX5_told_65 : decode cX5_told 65 = .ok (.getfield 14, 3) := by decide +kernel
theorem dX5_told_68 : decode cX5_told 68 = .ok (.getfield 91, 3) := by decide +kernel
theorem dX5_told_71 : decode cX5_told 71 = .ok (.ireturn, 1) := by decide +kernel
theorem dX5_told_72 : decode cX5_told 72 = .ok (.aload_n 0, 1) := by decide +kernel
theorem dX5_told_73 : decode cX5_told 73 = .ok (.getfield 14, 3) := by decide +kernel
theorem dX5_told_76 : decode cX5_told 76 = .ok (.invokevirtual 306, 3) := by decide +kernel
theorem dX5_told_79 : decode cX5_told 79 = .ok (.ireturn, 1) := by decide +kernel
theorem dX5_told_80 : decode cX5_told 80 = .ok (.aload_n 0, 1) := by decide +kernel
theorem dX5_told_81 : decode cX5_told 81 = .ok (.getfield 14, 3) := by decide +kernel
theorem dX5_told_84 : decode cX5_told 84 = .ok (.invokevirtual 231, 3) := by decide +kernel
theorem dX5_told_87 : decode cX5_told 87 = .ok (.ireturn, 1) := by decide +kernel
theorem dX5_told_88 : decode cX5_told 88 = .ok (.aload_n 0, 1) := by decide +kernel
theorem dX5_told_89 : decode cX5_told 89 = .ok (.getfield 24, 3) := by decide +kernel
theorem dX5_told_92 : decode cX5_told 92 = .ok (.getfield 120, 3) := by decide +kernel
theorem dX5_told_95 : decode cX5_told 95 = .ok (.ireturn, 1) := by decide +kernel
theorem dX5_told_96 : decode cX5_told 96 = .ok (.aload_n 0, 1) := by decide +kernel
theorem dX5_told_97 : decode cX5_told 97 = .ok (.getfield 31, 3) := by decide +kernel
theorem dX5_told_100 : decode cX5_told 100 = .ok (.getfield 301, 3) := by decide +kernel
theorem dX5_told_103 : decode cX5_told 103 = .ok (.ireturn, 1) := by decide +kernel
theorem dX5_told_104 : decode cX5_told 104 = .ok (.aload_n 0, 1) := by decide +kernel
theorem dX5_told_105 : decode cX5_told 105 = .ok (.getfield 14, 3) := by decide +kernel
theorem dX5_told_108 : decode cX5_told 108 = .ok (.aload_n 0, 1) := by decide +kernel
theorem dX5_told_109 : decode cX5_told 109 = .ok (.getfield 14, 3) := by decide +kernel
theorem dX5_told_112 : decode cX5_told 112 = .ok (.invokevirtual 175, 3) := by decide +kernel
theorem dX5_told_115 : decode cX5_told 115 = .ok (.invokevirtual 309, 3) := by decide +kernel
theorem dX5_told_118 : decode cX5_told 118 = .ok (.ireturn, 1) := by decide +kernel
theorem dX5_told_119 : decode cX5_told 119 = .ok (.iload_n 1, 1) := by decide +kernel
theorem dX5_told_120 : decode cX5_told 120 = .ok (.bipush 10, 2) := by decide +kernel
theorem dX5_told_122 : decode cX5_told 122 = .ok (.if_icmp .lt 32, 3) := by decide +kernel
theorem dX5_told_125 : decode cX5_told 125 = .ok (.aload_n 0, 1) := by decide +kernel
theorem dX5_told_126 : decode cX5_told 126 = .ok (.getfield 14, 3) := by decide +kernel
theorem dX5_told_129 : decode cX5_told 129 = .ok (.iload_n 1, 1) := by decide +kernel
theorem dX5_told_130 : decode cX5_told 130 = .ok (.bipush 10, 2) := by decide +kernel
theorem dX5_told_132 : decode cX5_told 132 = .ok (.isub, 1) := by decide +kernel
theorem dX5_told_133 : decode cX5_told 133 = .ok (.invokevirtual 81, 3) := by decide +kernel
theorem dX5_told_136 : decode cX5_told 136 = .ok (.ifCond .eq 18, 3) := by decide +kernel
theorem dX5_told_139 : decode cX5_told 139 = .ok (.aload_n 0, 1) := by decide +kernel
theorem dX5_told_140 : decode cX5_told 140 = .ok (.getfield 14, 3) := by decide +kernel
theorem dX5_told_143 : decode cX5_told 143 = .ok (.getfield 84, 3) := by decide +kernel
theorem dX5_told_146 : decode cX5_told 146 = .ok (.iload_n 1, 1) := by decide +kernel
theorem dX5_told_147 : decode cX5_told 147 = .ok (.bipush 10, 2) := by decide +kernel
theorem dX5_told_149 : decode cX5_told 149 = .ok (.isub, 1) := by decide +kernel
theorem dX5_told_150 : decode cX5_told 150 = .ok (.iaload, 1) := by decide +kernel
theorem dX5_told_151 : decode cX5_told 151 = .ok (.goto 4, 3) := by decide +kernel
theorem dX5_told_154 : decode cX5_told 154 = .ok (.iconst (-1), 1) := by decide +kernel
theorem dX5_told_155 : decode cX5_told 155 = .ok (.ireturn, 1) := by decide +kernel
set_option maxRecDepth 20000 in
theorem ggX5_worth_X0_hasTwo : GoodIn wsX5_worth wsX0_hasTwo := goodIn_r _ [8, 9, 10, 11, 7, 12, 13, 35, 36, 37, 38, 39, 40, 41] (by decide +kernel) (by decide +kernel)
set_option maxRecDepth 20000 in
theorem gX5_worth_X0_hasTwo : GoodIn wsX5_worth (wsV RX5 94 RX0 yX0_hasTwo wsX0_hasTwo) := goodIn_app (goodIn_of _ (by decide +kernel)) ggX5_worth_X0_hasTwo
set_option maxRecDepth 20000 in
theorem ggX5_worth_X5_edgePlace : GoodIn wsX5_worth wsX5_edgePlace := goodIn_r _ [17, 18, 19, 20, 21, 22, 23, 24] (by decide +kernel) (by decide +kernel)
set_option maxRecDepth 20000 in
theorem gX5_worth_X5_edgePlace : GoodIn wsX5_worth (va_wsS RX5 98 yX5_edgePlace wsX5_edgePlace) := goodIn_app (goodIn_of _ (by decide +kernel)) ggX5_worth_X5_edgePlace
theorem dX5_worth_0 : decode cX5_worth 0 = .ok (.aload_n 0, 1) := by decide +kernel
theorem dX5_worth_1 : decode cX5_worth 1 = .ok (.getfield 14, 3) := by decide +kernel
theorem dX5_worth_4 : decode cX5_worth 4 = .ok (.iload_n 1, 1) := by decide +kernel
theorem dX5_worth_5 : decode cX5_worth 5 = .ok (.iload_n 2, 1) := by decide +kernel
theorem dX5_worth_6 : decode cX5_worth 6 = .ok (.invokevirtual 94, 3) := by decide +kernel
theorem dX5_worth_9 : decode cX5_worth 9 = .ok (.ifCond .ne 7, 3) := by decide +kernel
theorem dX5_worth_12 : decode cX5_worth 12 = .ok (.ldc2_w 79, 3) := by decide +kernel
theorem dX5_worth_15 : decode cX5_worth 15 = .ok (.lreturn, 1) := by decide +kernel
theorem dX5_worth_16 : decode cX5_worth 16 = .ok (.aload_n 0, 1) := by decide +kernel
theorem dX5_worth_17 : decode cX5_worth 17 = .ok (.getfield 14, 3) := by decide +kernel
theorem dX5_worth_20 : decode cX5_worth 20 = .ok (.getfield 102, 3) := by decide +kernel
theorem dX5_worth_23 : decode cX5_worth 23 = .ok (.iload_n 1, 1) := by decide +kernel
theorem dX5_worth_24 : decode cX5_worth 24 = .ok (.iload_n 2, 1) := by decide +kernel
theorem dX5_worth_25 : decode cX5_worth 25 = .ok (.invokestatic 98, 3) := by decide +kernel
theorem dX5_worth_28 : decode cX5_worth 28 = .ok (.iaload, 1) := by decide +kernel
theorem dX5_worth_29 : decode cX5_worth 29 = .ok (.istore_n 3, 1) := by decide +kernel
theorem dX5_worth_30 : decode cX5_worth 30 = .ok (.iload_n 3, 1) := by decide +kernel
theorem dX5_worth_31 : decode cX5_worth 31 = .ok (.sipush 10000, 3) := by decide +kernel
theorem dX5_worth_34 : decode cX5_worth 34 = .ok (.if_icmp .ne 9, 3) := by decide +kernel
theorem dX5_worth_37 : decode cX5_worth 37 = .ok (.ldc2_w 79, 3) := by decide +kernel
theorem dX5_worth_40 : decode cX5_worth 40 = .ok (.goto 5, 3) := by decide +kernel
theorem dX5_worth_43 : decode cX5_worth 43 = .ok (.iload_n 3, 1) := by decide +kernel
theorem dX5_worth_44 : decode cX5_worth 44 = .ok (.i2l, 1) := by decide +kernel
theorem dX5_worth_45 : decode cX5_worth 45 = .ok (.lreturn, 1) := by decide +kernel
set_option maxRecDepth 20000 in
theorem ggX5_row_X5_isRow : GoodIn wsX5_row wsX5_isRow := goodIn_r _ [5] (by decide +kernel) (by decide +kernel)
set_option maxRecDepth 20000 in
theorem gX5_row_X5_isRow : GoodIn wsX5_row (va_wsS RX5 205 yX5_isRow wsX5_isRow) := goodIn_app (goodIn_of _ (by decide +kernel)) ggX5_row_X5_isRow
set_option maxRecDepth 20000 in
theorem ggX5_row_X3_begin : GoodIn wsX5_row wsX3_begin := goodIn_r _ [10, 11, 12, 3, 4, 5, 13, 14, 15, 16, 27, 28] (by decide +kernel) (by decide +kernel)
set_option maxRecDepth 20000 in
theorem gX5_row_X3_begin : GoodIn wsX5_row (wsV RX5 312 RX3 yX3_begin wsX3_begin) := goodIn_app (goodIn_of _ (by decide +kernel)) ggX5_row_X3_begin
theorem dX5_row_0 : decode cX5_row 0 = .ok (.iload_n 1, 1) := by decide +kernel
theorem dX5_row_1 : decode cX5_row 1 = .ok (.invokestatic 205, 3) := by decide +kernel
theorem dX5_row_4 : decode cX5_row 4 = .ok (.ifCond .ne 5, 3) := by decide +kernel
theorem dX5_row_7 : decode cX5_row 7 = .ok (.iconst (-1), 1) := by decide +kernel
theorem dX5_row_8 : decode cX5_row 8 = .ok (.ireturn, 1) := by decide +kernel
theorem dX5_row_9 : decode cX5_row 9 = .ok (.iload_n 2, 1) := by decide +kernel
theorem dX5_row_10 : decode cX5_row 10 = .ok (.bipush 20, 2) := by decide +kernel
theorem dX5_row_12 : decode cX5_row 12 = .ok (.if_icmp .le 6, 3) := by decide +kernel
theorem dX5_row_15 : decode cX5_row 15 = .ok (.bipush (-2), 2) := by decide +kernel
theorem dX5_row_17 : decode cX5_row 17 = .ok (.ireturn, 1) := by decide +kernel
theorem dX5_row_18 : decode cX5_row 18 = .ok (.iload_n 2, 1) := by decide +kernel
theorem dX5_row_19 : decode cX5_row 19 = .ok (.ifCond .ge 6, 3) := by decide +kernel
theorem dX5_row_22 : decode cX5_row 22 = .ok (.bipush (-14), 2) := by decide +kernel
theorem dX5_row_24 : decode cX5_row 24 = .ok (.ireturn, 1) := by decide +kernel
theorem dX5_row_25 : decode cX5_row 25 = .ok (.aload_n 0, 1) := by decide +kernel
theorem dX5_row_26 : decode cX5_row 26 = .ok (.getfield 38, 3) := by decide +kernel
theorem dX5_row_29 : decode cX5_row 29 = .ok (.iload_n 1, 1) := by decide +kernel
theorem dX5_row_30 : decode cX5_row 30 = .ok (.iload_n 2, 1) := by decide +kernel
theorem dX5_row_31 : decode cX5_row 31 = .ok (.invokevirtual 312, 3) := by decide +kernel
theorem dX5_row_34 : decode cX5_row 34 = .ok (.iconst 1, 1) := by decide +kernel
theorem dX5_row_35 : decode cX5_row 35 = .ok (.ireturn, 1) := by decide +kernel
set_option maxRecDepth 20000 in
theorem ggX5_set_X5_isRow : GoodIn wsX5_set wsX5_isRow := goodIn_r _ [6] (by decide +kernel) (by decide +kernel)
set_option maxRecDepth 20000 in
theorem gX5_set_X5_isRow : GoodIn wsX5_set (va_wsS RX5 205 yX5_isRow wsX5_isRow) := goodIn_app (goodIn_of _ (by decide +kernel)) ggX5_set_X5_isRow
set_option maxRecDepth 20000 in
theorem ggX5_set_X3_isNothing : GoodIn wsX5_set wsX3_isNothing := goodIn_r _ [11, 12, 4, 5, 6, 27, 28] (by decide +kernel) (by decide +kernel)
set_option maxRecDepth 20000 in
theorem gX5_set_X3_isNothing : GoodIn wsX5_set (wsV RX5 314 RX3 yX3_isNothing wsX3_isNothing) := goodIn_app (goodIn_of _ (by decide +kernel)) ggX5_set_X3_isNothing
set_option maxRecDepth 20000 in
theorem ggX5_set_X3_holds : GoodIn wsX5_set wsX3_holds := goodIn_r _ [16, 12, 4, 5, 6, 27, 28] (by decide +kernel) (by decide +kernel)
set_option maxRecDepth 20000 in
theorem gX5_set_X3_holds : GoodIn wsX5_set (wsV RX5 282 RX3 yX3_holds wsX3_holds) := goodIn_app (goodIn_of _ (by decide +kernel)) ggX5_set_X3_holds
theorem dX5_set_0 : decode cX5_set 0 = .ok (.iload_n 1, 1) := by decide +kernel
theorem dX5_set_1 : decode cX5_set 1 = .ok (.invokestatic 205, 3) := by decide +kernel
theorem dX5_set_4 : decode cX5_set 4 = .ok (.ifCond .ne 5, 3) := by decide +kernel
theorem dX5_set_7 : decode cX5_set 7 = .ok (.iconst (-1), 1) := by decide +kernel
theorem dX5_set_8 : decode cX5_set 8 = .ok (.ireturn, 1) := by decide +kernel
theorem dX5_set_9 : decode cX5_set 9 = .ok (.aload_n 0, 1) := by decide +kernel
theorem dX5_set_10 : decode cX5_set 10 = .ok (.getfield 38, 3) := by decide +kernel
theorem dX5_set_13 : decode cX5_set 13 = .ok (.iload_n 1, 1) := by decide +kernel
theorem dX5_set_14 : decode cX5_set 14 = .ok (.invokevirtual 314, 3) := by decide +kernel
theorem dX5_set_17 : decode cX5_set 17 = .ok (.ifCond .eq 6, 3) := by decide +kernel
theorem dX5_set_20 : decode cX5_set 20 = .ok (.bipush (-11), 2) := by decide +kernel
theorem dX5_set_22 : decode cX5_set 22 = .ok (.ireturn, 1) := by decide +kernel
theorem dX5_set_23 : decode cX5_set 23 = .ok (.aload_n 0, 1) := by decide +kernel
theorem dX5_set_24 : decode cX5_set 24 = .ok (.getfield 38, 3) := by decide +kernel
theorem dX5_set_27 : decode cX5_set 27 = .ok (.iload_n 1, 1) := by decide +kernel
theorem dX5_set_28 : decode cX5_set 28 = .ok (.iload_n 2, 1) := by decide +kernel
theorem dX5_set_29 : decode cX5_set 29 = .ok (.iconst 1, 1) := by decide +kernel
theorem dX5_set_30 : decode cX5_set 30 = .ok (.invokevirtual 282, 3) := by decide +kernel
theorem dX5_set_33 : decode cX5_set 33 = .ok (.ifCond .ne 6, 3) := by decide +kernel
theorem dX5_set_36 : decode cX5_set 36 = .ok (.bipush (-13), 2) := by decide +kernel
theorem dX5_set_38 : decode cX5_set 38 = .ok (.ireturn, 1) := by decide +kernel
theorem dX5_set_39 : decode cX5_set 39 = .ok (.aload_n 0, 1) := by decide +kernel
theorem dX5_set_40 : decode cX5_set 40 = .ok (.getfield 38, 3) := by decide +kernel
theorem dX5_set_43 : decode cX5_set 43 = .ok (.getfield 317, 3) := by decide +kernel
theorem dX5_set_46 : decode cX5_set 46 = .ok (.iload_n 1, 1) := by decide +kernel
theorem dX5_set_47 : decode cX5_set 47 = .ok (.aaload, 1) := by decide +kernel
theorem dX5_set_48 : decode cX5_set 48 = .ok (.iload_n 2, 1) := by decide +kernel
theorem dX5_set_49 : decode cX5_set 49 = .ok (.lload_n 3, 1) := by decide +kernel
theorem dX5_set_50 : decode cX5_set 50 = .ok (.lastore, 1) := by decide +kernel
theorem dX5_set_51 : decode cX5_set 51 = .ok (.iconst 1, 1) := by decide +kernel
theorem dX5_set_52 : decode cX5_set 52 = .ok (.ireturn, 1) := by decide +kernel
set_option maxRecDepth 20000 in
theorem ggX5_get_X3_holds : GoodIn wsX5_get wsX3_holds := goodIn_r _ [8, 9, 10, 11, 12, 23, 24] (by decide +kernel) (by decide +kernel)
set_option maxRecDepth 20000 in
theorem gX5_get_X3_holds : GoodIn wsX5_get (wsV RX5 282 RX3 yX3_holds wsX3_holds) := goodIn_app (goodIn_of _ (by decide +kernel)) ggX5_get_X3_holds
theorem dX5_get_0 : decode cX5_get 0 = .ok (.aload_n 0, 1) := by decide +kernel
theorem dX5_get_1 : decode cX5_get 1 = .ok (.getfield 38, 3) := by decide +kernel
theorem dX5_get_4 : decode cX5_get 4 = .ok (.iload_n 1, 1) := by decide +kernel
theorem dX5_get_5 : decode cX5_get 5 = .ok (.iload_n 2, 1) := by decide +kernel
theorem dX5_get_6 : decode cX5_get 6 = .ok (.iconst 1, 1) := by decide +kernel
theorem dX5_get_7 : decode cX5_get 7 = .ok (.invokevirtual 282, 3) := by decide +kernel
theorem dX5_get_10 : decode cX5_get 10 = .ok (.ifCond .eq 17, 3) := by decide +kernel
theorem dX5_get_13 : decode cX5_get 13 = .ok (.aload_n 0, 1) := by decide +kernel
theorem dX5_get_14 : decode cX5_get 14 = .ok (.getfield 38, 3) := by decide +kernel
theorem dX5_get_17 : decode cX5_get 17 = .ok (.getfield 317, 3) := by decide +kernel
theorem dX5_get_20 : decode cX5_get 20 = .ok (.iload_n 1, 1) := by decide +kernel
theorem dX5_get_21 : decode cX5_get 21 = .ok (.aaload, 1) := by decide +kernel
theorem dX5_get_22 : decode cX5_get 22 = .ok (.iload_n 2, 1) := by decide +kernel
theorem dX5_get_23 : decode cX5_get 23 = .ok (.laload, 1) := by decide +kernel
theorem dX5_get_24 : decode cX5_get 24 = .ok (.goto 6, 3) := by decide +kernel
theorem dX5_get_27 : decode cX5_get 27 = .ok (.ldc2_w 79, 3) := by decide +kernel
theorem dX5_get_30 : decode cX5_get 30 = .ok (.lreturn, 1) := by decide +kernel
set_option maxRecDepth 20000 in
theorem ggX5_lay_X5_isRow : GoodIn wsX5_lay wsX5_isRow := goodIn_r _ [9] (by decide +kernel) (by decide +kernel)
set_option maxRecDepth 20000 in
theorem gX5_lay_X5_isRow : GoodIn wsX5_lay (va_wsS RX5 205 yX5_isRow wsX5_isRow) := goodIn_app (goodIn_of _ (by decide +kernel)) ggX5_lay_X5_isRow
set_option maxRecDepth 20000 in
theorem ggX5_lay_X5_isGame : GoodIn wsX5_lay wsX5_isGame := goodIn_r _ [12] (by decide +kernel) (by decide +kernel)
set_option maxRecDepth 20000 in
theorem gX5_lay_X5_isGame : GoodIn wsX5_lay (va_wsS RX5 64 yX5_isGame wsX5_isGame) := goodIn_app (goodIn_of _ (by decide +kernel)) ggX5_lay_X5_isGame
set_option maxRecDepth 20000 in
theorem ggX5_lay_X3_isNothing : GoodIn wsX5_lay wsX3_isNothing := goodIn_r _ [17, 18, 7, 8, 9, 102, 103] (by decide +kernel) (by decide +kernel)
set_option maxRecDepth 20000 in
theorem gX5_lay_X3_isNothing : GoodIn wsX5_lay (wsV RX5 314 RX3 yX3_isNothing wsX3_isNothing) := goodIn_app (goodIn_of _ (by decide +kernel)) ggX5_lay_X3_isNothing
set_option maxRecDepth 20000 in
theorem ggX5_lay_X5_fillWholes : GoodIn wsX5_lay wsX5_fillWholes := goodIn_r _ [22, 23, 2, 3, 5, 24, 25, 26, 27, 28, 29, 30, 31, 32, 33, 34, 8, 35, 36, 37, 38, 39, 40, 41, 42, 43, 44, 45, 46, 47, 48, 49, 50, 51, 52, 53, 54, 55, 56, 57, 58, 59, 60, 61, 62, 63, 64, 65, 66, 67, 68, 69, 70, 71, 72, 73, 74, 75, 76, 77, 85, 86, 87, 88, 89, 90, 91, 92, 93, 94, 95, 96, 97, 98, 99, 100, 101, 104] (by decide +kernel) (by decide +kernel)
set_option maxRecDepth 20000 in
theorem gX5_lay_X5_fillWholes : GoodIn wsX5_lay (wsV RX5 290 RX5 yX5_fillWholes wsX5_fillWholes) := goodIn_app (goodIn_of _ (by decide +kernel)) ggX5_lay_X5_fillWholes
set_option maxRecDepth 20000 in
theorem ggX5_lay_X5_factorial : GoodIn wsX5_lay wsX5_factorial := goodIn_r _ [66, 67] (by decide +kernel) (by decide +kernel)
set_option maxRecDepth 20000 in
theorem gX5_lay_X5_factorial : GoodIn wsX5_lay (va_wsS RX5 217 yX5_factorial wsX5_factorial) := goodIn_app (goodIn_of _ (by decide +kernel)) ggX5_lay_X5_factorial
set_option maxRecDepth 20000 in
theorem ggX5_lay_X3_holds : GoodIn wsX5_lay wsX3_holds := goodIn_r _ [81, 18, 7, 8, 9, 102, 103] (by decide +kernel) (by decide +kernel)
set_option maxRecDepth 20000 in
theorem gX5_lay_X3_holds : GoodIn wsX5_lay (wsV RX5 282 RX3 yX3_holds wsX3_holds) := goodIn_app (goodIn_of _ (by decide +kernel)) ggX5_lay_X3_holds
set_option maxRecDepth 20000 in
theorem ggX5_lay_X5_cutToWhole : GoodIn wsX5_lay wsX5_cutToWhole := goodIn_r _ [84] (by decide +kernel) (by decide +kernel)
set_option maxRecDepth 20000 in
theorem gX5_lay_X5_cutToWhole : GoodIn wsX5_lay (va_wsS RX5 320 yX5_cutToWhole wsX5_cutToWhole) := goodIn_app (goodIn_of _ (by decide +kernel)) ggX5_lay_X5_cutToWhole
theorem dX5_lay_0 : decode cX5_lay 0 = .ok (.iload_n 1, 1) := by decide +kernel
theorem dX5_lay_1 : decode cX5_lay 1 = .ok (.invokestatic 205, 3) := by decide +kernel
theorem dX5_lay_4 : decode cX5_lay 4 = .ok (.ifCond .eq 10, 3) := by decide +kernel
theorem dX5_lay_7 : decode cX5_lay 7 = .ok (.iload_n 3, 1) := by decide +kernel
theorem dX5_lay_8 : decode cX5_lay 8 = .ok (.invokestatic 64, 3) := by decide +kernel
theorem dX5_lay_11 : decode cX5_lay 11 = .ok (.ifCond .ne 5, 3) := by decide +kernel
theorem dX5_lay_14 : decode cX5_lay 14 = .ok (.iconst (-1), 1) := by decide +kernel
theorem dX5_lay_15 : decode cX5_lay 15 = .ok (.ireturn, 1) := by decide +kernel
theorem dX5_lay_16 : decode cX5_lay 16 = .ok (.aload_n 0, 1) := by decide +kernel
theorem dX5_lay_17 : decode cX5_lay 17 = .ok (.getfield 38, 3) := by decide +kernel
theorem dX5_lay_20 : decode cX5_lay 20 = .ok (.iload_n 1, 1) := by decide +kernel
theorem dX5_lay_21 : decode cX5_lay 21 = .ok (.invokevirtual 314, 3) := by decide +kernel
theorem dX5_lay_24 : decode cX5_lay 24 = .ok (.ifCond .eq 6, 3) := by decide +kernel
theorem dX5_lay_27 : decode cX5_lay 27 = .ok (.bipush (-11), 2) := by decide +kernel
theorem dX5_lay_29 : decode cX5_lay 29 = .ok (.ireturn, 1) := by decide +kernel
theorem dX5_lay_30 : decode cX5_lay 30 = .ok (.aload_n 0, 1) := by decide +kernel
theorem dX5_lay_31 : decode cX5_lay 31 = .ok (.iload_n 3, 1) := by decide +kernel
theorem dX5_lay_32 : decode cX5_lay 32 = .ok (.invokevirtual 290, 3) := by decide +kernel
theorem dX5_lay_35 : decode cX5_lay 35 = .ok (.ifCond .ne 6, 3) := by decide +kernel
theorem dX5_lay_38 : decode cX5_lay 38 = .ok (.bipush (-6), 2) := by decide +kernel
theorem dX5_lay_40 : decode cX5_lay 40 = .ok (.ireturn, 1) := by decide +kernel
theorem dX5_lay_41 : decode cX5_lay 41 = .ok (.aload_n 0, 1) := by decide +kernel
theorem dX5_lay_42 : decode cX5_lay 42 = .ok (.getfield 14, 3) := by decide +kernel
theorem dX5_lay_45 : decode cX5_lay 45 = .ok (.getfield 136, 3) := by decide +kernel
theorem dX5_lay_48 : decode cX5_lay 48 = .ok (.invokestatic 217, 3) := by decide +kernel
theorem dX5_lay_51 : decode cX5_lay 51 = .ok (.istore 4, 2) := by decide +kernel
theorem dX5_lay_53 : decode cX5_lay 53 = .ok (.iconst 0, 1) := by decide +kernel
theorem dX5_lay_54 : decode cX5_lay 54 = .ok (.istore 5, 2) := by decide +kernel
theorem dX5_lay_56 : decode cX5_lay 56 = .ok (.iload 5, 2) := by decide +kernel
theorem dX5_lay_58 : decode cX5_lay 58 = .ok (.aload_n 0, 1) := by decide +kernel
theorem dX5_lay_59 : decode cX5_lay 59 = .ok (.getfield 14, 3) := by decide +kernel
theorem dX5_lay_62 : decode cX5_lay 62 = .ok (.getfield 136, 3) := by decide +kernel
theorem dX5_lay_65 : decode cX5_lay 65 = .ok (.if_icmp .ge 54, 3) := by decide +kernel
theorem dX5_lay_68 : decode cX5_lay 68 = .ok (.aload_n 0, 1) := by decide +kernel
theorem dX5_lay_69 : decode cX5_lay 69 = .ok (.getfield 38, 3) := by decide +kernel
theorem dX5_lay_72 : decode cX5_lay 72 = .ok (.iload_n 1, 1) := by decide +kernel
theorem dX5_lay_73 : decode cX5_lay 73 = .ok (.iload_n 2, 1) := by decide +kernel
theorem dX5_lay_74 : decode cX5_lay 74 = .ok (.iload 5, 2) := by decide +kernel
theorem dX5_lay_76 : decode cX5_lay 76 = .ok (.iconst 1, 1) := by decide +kernel
theorem dX5_lay_77 : decode cX5_lay 77 = .ok (.iadd, 1) := by decide +kernel
theorem dX5_lay_78 : decode cX5_lay 78 = .ok (.invokevirtual 282, 3) := by decide +kernel
theorem dX5_lay_81 : decode cX5_lay 81 = .ok (.ifCond .ne 6, 3) := by decide +kernel
theorem dX5_lay_84 : decode cX5_lay 84 = .ok (.bipush (-13), 2) := by decide +kernel
theorem dX5_lay_86 : decode cX5_lay 86 = .ok (.ireturn, 1) := by decide +kernel
theorem dX5_lay_87 : decode cX5_lay 87 = .ok (.aload_n 0, 1) := by decide +kernel
theorem dX5_lay_88 : decode cX5_lay 88 = .ok (.getfield 38, 3) := by decide +kernel
theorem dX5_lay_91 : decode cX5_lay 91 = .ok (.getfield 317, 3) := by decide +kernel
theorem dX5_lay_94 : decode cX5_lay 94 = .ok (.iload_n 1, 1) := by decide +kernel
theorem dX5_lay_95 : decode cX5_lay 95 = .ok (.aaload, 1) := by decide +kernel
theorem dX5_lay_96 : decode cX5_lay 96 = .ok (.iload_n 2, 1) := by decide +kernel
theorem dX5_lay_97 : decode cX5_lay 97 = .ok (.iload 5, 2) := by decide +kernel
theorem dX5_lay_99 : decode cX5_lay 99 = .ok (.iadd, 1) := by decide +kernel
theorem dX5_lay_100 : decode cX5_lay 100 = .ok (.aload_n 0, 1) := by decide +kernel
theorem dX5_lay_101 : decode cX5_lay 101 = .ok (.getfield 53, 3) := by decide +kernel
theorem dX5_lay_104 : decode cX5_lay 104 = .ok (.iload 5, 2) := by decide +kernel
theorem dX5_lay_106 : decode cX5_lay 106 = .ok (.laload, 1) := by decide +kernel
theorem dX5_lay_107 : decode cX5_lay 107 = .ok (.iload 4, 2) := by decide +kernel
theorem dX5_lay_109 : decode cX5_lay 109 = .ok (.invokestatic 320, 3) := by decide +kernel
theorem dX5_lay_112 : decode cX5_lay 112 = .ok (.lastore, 1) := by decide +kernel
theorem dX5_lay_113 : decode cX5_lay 113 = .ok (.iinc 5 1, 3) := by decide +kernel
theorem dX5_lay_116 : decode cX5_lay 116 = .ok (.goto (-60), 3) := by decide +kernel
theorem dX5_lay_119 : decode cX5_lay 119 = .ok (.aload_n 0, 1) := by decide +kernel
theorem dX5_lay_120 : decode cX5_lay 120 = .ok (.getfield 14, 3) := by decide +kernel
theorem dX5_lay_123 : decode cX5_lay 123 = .ok (.getfield 136, 3) := by decide +kernel
theorem dX5_lay_126 : decode cX5_lay 126 = .ok (.ireturn, 1) := by decide +kernel
set_option maxRecDepth 20000 in
theorem ggX5_image_X0_become : GoodIn wsX5_image wsX0_become := goodIn_r _ [9, 10, 11, 12, 13, 14, 15, 16, 17, 18, 19, 20, 31, 32, 33, 34, 35, 36, 37] (by decide +kernel) (by decide +kernel)
set_option maxRecDepth 20000 in
theorem gX5_image_X0_become : GoodIn wsX5_image (wsV RX5 323 RX0 yX0_become wsX0_become) := goodIn_app (goodIn_of _ (by decide +kernel)) ggX5_image_X0_become
theorem dX5_image_0 : decode cX5_image 0 = .ok (.aload_n 0, 1) := by decide +kernel
theorem dX5_image_1 : decode cX5_image 1 = .ok (.getfield 18, 3) := by decide +kernel
theorem dX5_image_4 : decode cX5_image 4 = .ok (.aload_n 0, 1) := by decide +kernel
theorem dX5_image_5 : decode cX5_image 5 = .ok (.getfield 14, 3) := by decide +kernel
theorem dX5_image_8 : decode cX5_image 8 = .ok (.invokevirtual 323, 3) := by decide +kernel
theorem dX5_image_11 : decode cX5_image 11 = .ok (.aload_n 0, 1) := by decide +kernel
theorem dX5_image_12 : decode cX5_image 12 = .ok (.iconst 1, 1) := by decide +kernel
theorem dX5_image_13 : decode cX5_image 13 = .ok (.putfield 327, 3) := by decide +kernel
theorem dX5_image_16 : decode cX5_image 16 = .ok (.aload_n 0, 1) := by decide +kernel
theorem dX5_image_17 : decode cX5_image 17 = .ok (.getfield 14, 3) := by decide +kernel
theorem dX5_image_20 : decode cX5_image 20 = .ok (.getfield 136, 3) := by decide +kernel
theorem dX5_image_23 : decode cX5_image 23 = .ok (.ireturn, 1) := by decide +kernel
set_option maxRecDepth 20000 in
theorem ggX5_undo_X0_become : GoodIn wsX5_undo wsX0_become := goodIn_r _ [9, 10, 11, 12, 13, 14, 15, 16, 17, 18, 19, 20, 31, 32, 33, 34, 35, 36, 37] (by decide +kernel) (by decide +kernel)
set_option maxRecDepth 20000 in
theorem gX5_undo_X0_become : GoodIn wsX5_undo (wsV RX5 323 RX0 yX0_become wsX0_become) := goodIn_app (goodIn_of _ (by decide +kernel)) ggX5_undo_X0_become
theorem dX5_undo_0 : decode cX5_undo 0 = .ok (.aload_n 0, 1) := by decide +kernel
theorem dX5_undo_1 : decode cX5_undo 1 = .ok (.getfield 327, 3) := by decide +kernel
theorem dX5_undo_4 : decode cX5_undo 4 = .ok (.ifCond .ne 6, 3) := by decide +kernel
theorem dX5_undo_7 : decode cX5_undo 7 = .ok (.bipush (-3), 2) := by decide +kernel
theorem dX5_undo_9 : decode cX5_undo 9 = .ok (.ireturn, 1) := by decide +kernel
theorem dX5_undo_10 : decode cX5_undo 10 = .ok (.aload_n 0, 1) := by decide +kernel
theorem dX5_undo_11 : decode cX5_undo 11 = .ok (.getfield 14, 3) := by decide +kernel
theorem dX5_undo_14 : decode cX5_undo 14 = .ok (.aload_n 0, 1) := by decide +kernel
theorem dX5_undo_15 : decode cX5_undo 15 = .ok (.getfield 18, 3) := by decide +kernel
theorem dX5_undo_18 : decode cX5_undo 18 = .ok (.invokevirtual 323, 3) := by decide +kernel
theorem dX5_undo_21 : decode cX5_undo 21 = .ok (.aload_n 0, 1) := by decide +kernel
theorem dX5_undo_22 : decode cX5_undo 22 = .ok (.getfield 14, 3) := by decide +kernel
theorem dX5_undo_25 : decode cX5_undo 25 = .ok (.getfield 136, 3) := by decide +kernel
theorem dX5_undo_28 : decode cX5_undo 28 = .ok (.ireturn, 1) := by decide +kernel
theorem dX5_isGame_0 : decode cX5_isGame 0 = .ok (.iload_n 0, 1) := by decide +kernel
theorem dX5_isGame_1 : decode cX5_isGame 1 = .ok (.ifCond .lt 12, 3) := by decide +kernel
theorem dX5_isGame_4 : decode cX5_isGame 4 = .ok (.iload_n 0, 1) := by decide +kernel
theorem dX5_isGame_5 : decode cX5_isGame 5 = .ok (.iconst 4, 1) := by decide +kernel
theorem dX5_isGame_6 : decode cX5_isGame 6 = .ok (.if_icmp .ge 7, 3) := by decide +kernel
theorem dX5_isGame_9 : decode cX5_isGame 9 = .ok (.iconst 1, 1) := by decide +kernel
theorem dX5_isGame_10 : decode cX5_isGame 10 = .ok (.goto 4, 3) := by decide +kernel
theorem dX5_isGame_13 : decode cX5_isGame 13 = .ok (.iconst 0, 1) := by decide +kernel
theorem dX5_isGame_14 : decode cX5_isGame 14 = .ok (.ireturn, 1) := by decide +kernel
theorem dX5_isRow_0 : decode cX5_isRow 0 = .ok (.iload_n 0, 1) := by decide +kernel
theorem dX5_isRow_1 : decode cX5_isRow 1 = .ok (.ifCond .lt 12, 3) := by decide +kernel
theorem dX5_isRow_4 : decode cX5_isRow 4 = .ok (.iload_n 0, 1) := by decide +kernel
theorem dX5_isRow_5 : decode cX5_isRow 5 = .ok (.iconst 4, 1) := by decide +kernel
theorem dX5_isRow_6 : decode cX5_isRow 6 = .ok (.if_icmp .ge 7, 3) := by decide +kernel
theorem dX5_isRow_9 : decode cX5_isRow 9 = .ok (.iconst 1, 1) := by decide +kernel
theorem dX5_isRow_10 : decode cX5_isRow 10 = .ok (.goto 4, 3) := by decide +kernel
theorem dX5_isRow_13 : decode cX5_isRow 13 = .ok (.iconst 0, 1) := by decide +kernel
theorem dX5_isRow_14 : decode cX5_isRow 14 = .ok (.ireturn, 1) := by decide +kernel
theorem dX5_isPart_0 : decode cX5_isPart 0 = .ok (.iload_n 0, 1) := by decide +kernel
theorem dX5_isPart_1 : decode cX5_isPart 1 = .ok (.ifCond .eq 8, 3) := by decide +kernel
theorem dX5_isPart_4 : decode cX5_isPart 4 = .ok (.iload_n 0, 1) := by decide +kernel
theorem dX5_isPart_5 : decode cX5_isPart 5 = .ok (.iconst 1, 1) := by decide +kernel
theorem dX5_isPart_6 : decode cX5_isPart 6 = .ok (.if_icmp .ne 7, 3) := by decide +kernel
theorem dX5_isPart_9 : decode cX5_isPart 9 = .ok (.iconst 1, 1) := by decide +kernel
theorem dX5_isPart_10 : decode cX5_isPart 10 = .ok (.goto 4, 3) := by decide +kernel
theorem dX5_isPart_13 : decode cX5_isPart 13 = .ok (.iconst 0, 1) := by decide +kernel
theorem dX5_isPart_14 : decode cX5_isPart 14 = .ok (.ireturn, 1) := by decide +kernel
theorem dX5_isToldValue_0 : decode cX5_isToldValue 0 = .ok (.lload_n 0, 1) := by decide +kernel
theorem dX5_isToldValue_1 : decode cX5_isToldValue 1 = .ok (.ldc2_w 330, 3) := by decide +kernel
theorem dX5_isToldValue_4 : decode cX5_isToldValue 4 = .ok (.lcmp, 1) := by decide +kernel
theorem dX5_isToldValue_5 : decode cX5_isToldValue 5 = .ok (.ifCond .lt 15, 3) := by decide +kernel
theorem dX5_isToldValue_8 : decode cX5_isToldValue 8 = .ok (.lload_n 0, 1) := by decide +kernel
theorem dX5_isToldValue_9 : decode cX5_isToldValue 9 = .ok (.ldc2_w 332, 3) := by decide +kernel
theorem dX5_isToldValue_12 : decode cX5_isToldValue 12 = .ok (.lcmp, 1) := by decide +kernel
theorem dX5_isToldValue_13 : decode cX5_isToldValue 13 = .ok (.ifCond .gt 7, 3) := by decide +kernel
theorem dX5_isToldValue_16 : decode cX5_isToldValue 16 = .ok (.iconst 1, 1) := by decide +kernel
theorem dX5_isToldValue_17 : decode cX5_isToldValue 17 = .ok (.goto 4, 3) := by decide +kernel
theorem dX5_isToldValue_20 : decode cX5_isToldValue 20 = .ok (.iconst 0, 1) := by decide +kernel
theorem dX5_isToldValue_21 : decode cX5_isToldValue 21 = .ok (.ireturn, 1) := by decide +kernel
theorem dX5_has_0 : decode cX5_has 0 = .ok (.iload_n 0, 1) := by decide +kernel
theorem dX5_has_1 : decode cX5_has 1 = .ok (.iload_n 1, 1) := by decide +kernel
theorem dX5_has_2 : decode cX5_has 2 = .ok (.ishr, 1) := by decide +kernel
theorem dX5_has_3 : decode cX5_has 3 = .ok (.iconst 1, 1) := by decide +kernel
theorem dX5_has_4 : decode cX5_has 4 = .ok (.iand, 1) := by decide +kernel
theorem dX5_has_5 : decode cX5_has 5 = .ok (.iconst 1, 1) := by decide +kernel
theorem dX5_has_6 : decode cX5_has 6 = .ok (.if_icmp .ne 7, 3) := by decide +kernel
theorem dX5_has_9 : decode cX5_has 9 = .ok (.iconst 1, 1) := by decide +kernel
theorem dX5_has_10 : decode cX5_has 10 = .ok (.goto 4, 3) := by decide +kernel
theorem dX5_has_13 : decode cX5_has 13 = .ok (.iconst 0, 1) := by decide +kernel
theorem dX5_has_14 : decode cX5_has 14 = .ok (.ireturn, 1) := by decide +kernel
set_option maxRecDepth 20000 in
theorem ggX5_leastOf_X5_has : GoodIn wsX5_leastOf wsX5_has := goodIn_r _ [4] (by decide +kernel) (by decide +kernel)
set_option maxRecDepth 20000 in
theorem gX5_leastOf_X5_has : GoodIn wsX5_leastOf (va_wsS RX5 192 yX5_has wsX5_has) := goodIn_app (goodIn_of _ (by decide +kernel)) ggX5_leastOf_X5_has
theorem dX5_leastOf_0 : decode cX5_leastOf 0 = .ok (.iconst 0, 1) := by decide +kernel
theorem dX5_leastOf_1 : decode cX5_leastOf 1 = .ok (.istore_n 1, 1) := by decide +kernel
theorem dX5_leastOf_2 : decode cX5_leastOf 2 = .ok (.iload_n 1, 1) := by decide +kernel
theorem dX5_leastOf_3 : decode cX5_leastOf 3 = .ok (.bipush 9, 2) := by decide +kernel
theorem dX5_leastOf_5 : decode cX5_leastOf 5 = .ok (.if_icmp .ge 19, 3) := by decide +kernel
theorem dX5_leastOf_8 : decode cX5_leastOf 8 = .ok (.iload_n 0, 1) := by decide +kernel
theorem dX5_leastOf_9 : decode cX5_leastOf 9 = .ok (.iload_n 1, 1) := by decide +kernel
theorem dX5_leastOf_10 : decode cX5_leastOf 10 = .ok (.invokestatic 192, 3) := by decide +kernel
theorem dX5_leastOf_13 : decode cX5_leastOf 13 = .ok (.ifCond .eq 5, 3) := by decide +kernel
theorem dX5_leastOf_16 : decode cX5_leastOf 16 = .ok (.iload_n 1, 1) := by decide +kernel
theorem dX5_leastOf_17 : decode cX5_leastOf 17 = .ok (.ireturn, 1) := by decide +kernel
theorem dX5_leastOf_18 : decode cX5_leastOf 18 = .ok (.iinc 1 1, 3) := by decide +kernel
theorem dX5_leastOf_21 : decode cX5_leastOf 21 = .ok (.goto (-19), 3) := by decide +kernel
theorem dX5_leastOf_24 : decode cX5_leastOf 24 = .ok (.iconst (-1), 1) := by decide +kernel
theorem dX5_leastOf_25 : decode cX5_leastOf 25 = .ok (.ireturn, 1) := by decide +kernel
theorem dX5_nextWithin_0 : decode cX5_nextWithin 0 = .ok (.iload_n 0, 1) := by decide +kernel
theorem dX5_nextWithin_1 : decode cX5_nextWithin 1 = .ok (.iload_n 1, 1) := by decide +kernel
theorem dX5_nextWithin_2 : decode cX5_nextWithin 2 = .ok (.isub, 1) := by decide +kernel
theorem dX5_nextWithin_3 : decode cX5_nextWithin 3 = .ok (.iload_n 1, 1) := by decide +kernel
theorem dX5_nextWithin_4 : decode cX5_nextWithin 4 = .ok (.iand, 1) := by decide +kernel
theorem dX5_nextWithin_5 : decode cX5_nextWithin 5 = .ok (.ireturn, 1) := by decide +kernel
theorem dX5_edgePlace_0 : decode cX5_edgePlace 0 = .ok (.iload_n 0, 1) := by decide +kernel
theorem dX5_edgePlace_1 : decode cX5_edgePlace 1 = .ok (.iload_n 1, 1) := by decide +kernel
theorem dX5_edgePlace_2 : decode cX5_edgePlace 2 = .ok (.invokestatic 158, 3) := by decide +kernel
theorem dX5_edgePlace_5 : decode cX5_edgePlace 5 = .ok (.bipush 9, 2) := by decide +kernel
theorem dX5_edgePlace_7 : decode cX5_edgePlace 7 = .ok (.imul, 1) := by decide +kernel
theorem dX5_edgePlace_8 : decode cX5_edgePlace 8 = .ok (.iload_n 0, 1) := by decide +kernel
theorem dX5_edgePlace_9 : decode cX5_edgePlace 9 = .ok (.iload_n 1, 1) := by decide +kernel
theorem dX5_edgePlace_10 : decode cX5_edgePlace 10 = .ok (.invokestatic 334, 3) := by decide +kernel
theorem dX5_edgePlace_13 : decode cX5_edgePlace 13 = .ok (.iadd, 1) := by decide +kernel
theorem dX5_edgePlace_14 : decode cX5_edgePlace 14 = .ok (.ireturn, 1) := by decide +kernel
set_option maxRecDepth 20000 in
theorem ggX5_settle_X0_sets : GoodIn wsX5_settle wsX0_sets := goodIn_r _ [8, 9, 20, 21, 22, 23, 24, 25, 26] (by decide +kernel) (by decide +kernel)
set_option maxRecDepth 20000 in
theorem gX5_settle_X0_sets : GoodIn wsX5_settle (wsV RX5 126 RX0 yX0_sets wsX0_sets) := goodIn_app (goodIn_of _ (by decide +kernel)) ggX5_settle_X0_sets
theorem dX5_settle_0 : decode cX5_settle 0 = .ok (.aload_n 0, 1) := by decide +kernel
theorem dX5_settle_1 : decode cX5_settle 1 = .ok (.getfield 14, 3) := by decide +kernel
theorem dX5_settle_4 : decode cX5_settle 4 = .ok (.getfield 75, 3) := by decide +kernel
theorem dX5_settle_7 : decode cX5_settle 7 = .ok (.iload_n 1, 1) := by decide +kernel
theorem dX5_settle_8 : decode cX5_settle 8 = .ok (.aaload, 1) := by decide +kernel
theorem dX5_settle_9 : decode cX5_settle 9 = .ok (.astore_n 2, 1) := by decide +kernel
theorem dX5_settle_10 : decode cX5_settle 10 = .ok (.iconst 0, 1) := by decide +kernel
theorem dX5_settle_11 : decode cX5_settle 11 = .ok (.istore_n 3, 1) := by decide +kernel
theorem dX5_settle_12 : decode cX5_settle 12 = .ok (.iconst 0, 1) := by decide +kernel
theorem dX5_settle_13 : decode cX5_settle 13 = .ok (.istore 4, 2) := by decide +kernel
theorem dX5_settle_15 : decode cX5_settle 15 = .ok (.iload 4, 2) := by decide +kernel
theorem dX5_settle_17 : decode cX5_settle 17 = .ok (.aload_n 0, 1) := by decide +kernel
theorem dX5_settle_18 : decode cX5_settle 18 = .ok (.getfield 14, 3) := by decide +kernel
theorem dX5_settle_21 : decode cX5_settle 21 = .ok (.invokevirtual 126, 3) := by decide +kernel
theorem dX5_settle_24 : decode cX5_settle 24 = .ok (.if_icmp .ge 38, 3) := by decide +kernel
theorem dX5_settle_27 : decode cX5_settle 27 = .ok (.aload_n 2, 1) := by decide +kernel
theorem dX5_settle_28 : decode cX5_settle 28 = .ok (.iload 4, 2) := by decide +kernel
theorem dX5_settle_30 : decode cX5_settle 30 = .ok (.laload, 1) := by decide +kernel
theorem dX5_settle_31 : decode cX5_settle 31 = .ok (.aload_n 0, 1) := by decide +kernel
theorem dX5_settle_32 : decode cX5_settle 32 = .ok (.getfield 49, 3) := by decide +kernel
theorem dX5_settle_35 : decode cX5_settle 35 = .ok (.iload 4, 2) := by decide +kernel
theorem dX5_settle_37 : decode cX5_settle 37 = .ok (.laload, 1) := by decide +kernel
theorem dX5_settle_38 : decode cX5_settle 38 = .ok (.lcmp, 1) := by decide +kernel
theorem dX5_settle_39 : decode cX5_settle 39 = .ok (.ifCond .eq 17, 3) := by decide +kernel
theorem dX5_settle_42 : decode cX5_settle 42 = .ok (.aload_n 2, 1) := by decide +kernel
theorem dX5_settle_43 : decode cX5_settle 43 = .ok (.iload 4, 2) := by decide +kernel
theorem dX5_settle_45 : decode cX5_settle 45 = .ok (.aload_n 0, 1) := by decide +kernel
theorem dX5_settle_46 : decode cX5_settle 46 = .ok (.getfield 49, 3) := by decide +kernel
theorem dX5_settle_49 : decode cX5_settle 49 = .ok (.iload 4, 2) := by decide +kernel
theorem dX5_settle_51 : decode cX5_settle 51 = .ok (.laload, 1) := by decide +kernel
theorem dX5_settle_52 : decode cX5_settle 52 = .ok (.lastore, 1) := by decide +kernel
theorem dX5_settle_53 : decode cX5_settle 53 = .ok (.iinc 3 1, 3) := by decide +kernel
theorem dX5_settle_56 : decode cX5_settle 56 = .ok (.iinc 4 1, 3) := by decide +kernel
theorem dX5_settle_59 : decode cX5_settle 59 = .ok (.goto (-44), 3) := by decide +kernel
theorem dX5_settle_62 : decode cX5_settle 62 = .ok (.iload_n 3, 1) := by decide +kernel
theorem dX5_settle_63 : decode cX5_settle 63 = .ok (.ireturn, 1) := by decide +kernel
set_option maxRecDepth 20000 in
theorem ggX5_settleUnlessBeyond_X5_settle : GoodIn wsX5_settleUnlessBeyond wsX5_settle := goodIn_r _ [7, 8, 9, 10, 11, 12, 13, 14, 15, 16, 17, 18, 19, 20, 21, 22, 23, 24, 25, 26, 28, 29, 30, 31, 32, 33, 34] (by decide +kernel) (by decide +kernel)
set_option maxRecDepth 20000 in
theorem gX5_settleUnlessBeyond_X5_settle : GoodIn wsX5_settleUnlessBeyond (wsV RX5 143 RX5 yX5_settle wsX5_settle) := goodIn_app (goodIn_of _ (by decide +kernel)) ggX5_settleUnlessBeyond_X5_settle
theorem dX5_settleUnlessBeyond_0 : decode cX5_settleUnlessBeyond 0 = .ok (.aload_n 0, 1) := by decide +kernel
theorem dX5_settleUnlessBeyond_1 : decode cX5_settleUnlessBeyond 1 = .ok (.getfield 45, 3) := by decide +kernel
theorem dX5_settleUnlessBeyond_4 : decode cX5_settleUnlessBeyond 4 = .ok (.getfield 185, 3) := by decide +kernel
theorem dX5_settleUnlessBeyond_7 : decode cX5_settleUnlessBeyond 7 = .ok (.ifCond .eq 6, 3) := by decide +kernel
theorem dX5_settleUnlessBeyond_10 : decode cX5_settleUnlessBeyond 10 = .ok (.bipush (-6), 2) := by decide +kernel
theorem dX5_settleUnlessBeyond_12 : decode cX5_settleUnlessBeyond 12 = .ok (.ireturn, 1) := by decide +kernel
theorem dX5_settleUnlessBeyond_13 : decode cX5_settleUnlessBeyond 13 = .ok (.aload_n 0, 1) := by decide +kernel
theorem dX5_settleUnlessBeyond_14 : decode cX5_settleUnlessBeyond 14 = .ok (.iload_n 1, 1) := by decide +kernel
theorem dX5_settleUnlessBeyond_15 : decode cX5_settleUnlessBeyond 15 = .ok (.invokevirtual 143, 3) := by decide +kernel
theorem dX5_settleUnlessBeyond_18 : decode cX5_settleUnlessBeyond 18 = .ok (.pop, 1) := by decide +kernel
theorem dX5_settleUnlessBeyond_19 : decode cX5_settleUnlessBeyond 19 = .ok (.iconst 1, 1) := by decide +kernel
theorem dX5_settleUnlessBeyond_20 : decode cX5_settleUnlessBeyond 20 = .ok (.ireturn, 1) := by decide +kernel
set_option maxRecDepth 20000 in
theorem ggX5_settleMade_X5_settle : GoodIn wsX5_settleMade wsX5_settle := goodIn_r _ [7, 1, 8, 2, 9, 10, 11, 12, 13, 14, 15, 16, 17, 18, 19, 20, 21, 22, 23, 24, 25, 26, 27, 28, 29, 30, 31] (by decide +kernel) (by decide +kernel)
set_option maxRecDepth 20000 in
theorem gX5_settleMade_X5_settle : GoodIn wsX5_settleMade (wsV RX5 143 RX5 yX5_settle wsX5_settle) := goodIn_app (goodIn_of _ (by decide +kernel)) ggX5_settleMade_X5_settle
set_option maxRecDepth 20000 in
theorem ggX5_settleMade_X0_sets : GoodIn wsX5_settleMade wsX0_sets := goodIn_r _ [13, 14, 25, 26, 27, 28, 29, 30, 31] (by decide +kernel) (by decide +kernel)
set_option maxRecDepth 20000 in
theorem gX5_settleMade_X0_sets : GoodIn wsX5_settleMade (wsV RX5 126 RX0 yX0_sets wsX0_sets) := goodIn_app (goodIn_of _ (by decide +kernel)) ggX5_settleMade_X0_sets
theorem dX5_settleMade_0 : decode cX5_settleMade 0 = .ok (.aload_n 0, 1) := by decide +kernel
theorem dX5_settleMade_1 : decode cX5_settleMade 1 = .ok (.iload_n 1, 1) := by decide +kernel
theorem dX5_settleMade_2 : decode cX5_settleMade 2 = .ok (.invokevirtual 143, 3) := by decide +kernel
theorem dX5_settleMade_5 : decode cX5_settleMade 5 = .ok (.pop, 1) := by decide +kernel
theorem dX5_settleMade_6 : decode cX5_settleMade 6 = .ok (.iconst 0, 1) := by decide +kernel
theorem dX5_settleMade_7 : decode cX5_settleMade 7 = .ok (.istore_n 2, 1) := by decide +kernel
theorem dX5_settleMade_8 : decode cX5_settleMade 8 = .ok (.iconst 0, 1) := by decide +kernel
theorem dX5_settleMade_9 : decode cX5_settleMade 9 = .ok (.istore_n 3, 1) := by decide +kernel
theorem dX5_settleMade_10 : decode cX5_settleMade 10 = .ok (.iload_n 3, 1) := by decide +kernel
theorem dX5_settleMade_11 : decode cX5_settleMade 11 = .ok (.aload_n 0, 1) := by decide +kernel
theorem dX5_settleMade_12 : decode cX5_settleMade 12 = .ok (.getfield 14, 3) := by decide +kernel
theorem dX5_settleMade_15 : decode cX5_settleMade 15 = .ok (.invokevirtual 126, 3) := by decide +kernel
theorem dX5_settleMade_18 : decode cX5_settleMade 18 = .ok (.if_icmp .ge 23, 3) := by decide +kernel
theorem dX5_settleMade_21 : decode cX5_settleMade 21 = .ok (.aload_n 0, 1) := by decide +kernel
theorem dX5_settleMade_22 : decode cX5_settleMade 22 = .ok (.getfield 49, 3) := by decide +kernel
theorem dX5_settleMade_25 : decode cX5_settleMade 25 = .ok (.iload_n 3, 1) := by decide +kernel
theorem dX5_settleMade_26 : decode cX5_settleMade 26 = .ok (.laload, 1) := by decide +kernel
theorem dX5_settleMade_27 : decode cX5_settleMade 27 = .ok (.lconst 0, 1) := by decide +kernel
theorem dX5_settleMade_28 : decode cX5_settleMade 28 = .ok (.lcmp, 1) := by decide +kernel
theorem dX5_settleMade_29 : decode cX5_settleMade 29 = .ok (.ifCond .eq 6, 3) := by decide +kernel
theorem dX5_settleMade_32 : decode cX5_settleMade 32 = .ok (.iinc 2 1, 3) := by decide +kernel
theorem dX5_settleMade_35 : decode cX5_settleMade 35 = .ok (.iinc 3 1, 3) := by decide +kernel
theorem dX5_settleMade_38 : decode cX5_settleMade 38 = .ok (.goto (-28), 3) := by decide +kernel
theorem dX5_settleMade_41 : decode cX5_settleMade 41 = .ok (.iload_n 2, 1) := by decide +kernel
theorem dX5_settleMade_42 : decode cX5_settleMade 42 = .ok (.ireturn, 1) := by decide +kernel
set_option maxRecDepth 20000 in
theorem ggX5_settleParts_X0_sets : GoodIn wsX5_settleParts wsX0_sets := goodIn_r _ [8, 9, 25, 26, 27, 28, 29, 30, 31] (by decide +kernel) (by decide +kernel)
set_option maxRecDepth 20000 in
theorem gX5_settleParts_X0_sets : GoodIn wsX5_settleParts (wsV RX5 126 RX0 yX0_sets wsX0_sets) := goodIn_app (goodIn_of _ (by decide +kernel)) ggX5_settleParts_X0_sets
set_option maxRecDepth 20000 in
theorem ggX5_settleParts_X5_settle : GoodIn wsX5_settleParts wsX5_settle := goodIn_r _ [14, 1, 3, 2, 4, 5, 6, 7, 8, 9, 15, 16, 17, 18, 19, 20, 21, 22, 23, 24, 25, 26, 27, 28, 29, 30, 31] (by decide +kernel) (by decide +kernel)
set_option maxRecDepth 20000 in
theorem gX5_settleParts_X5_settle : GoodIn wsX5_settleParts (wsV RX5 143 RX5 yX5_settle wsX5_settle) := goodIn_app (goodIn_of _ (by decide +kernel)) ggX5_settleParts_X5_settle
theorem dX5_settleParts_0 : decode cX5_settleParts 0 = .ok (.iconst 0, 1) := by decide +kernel
theorem dX5_settleParts_1 : decode cX5_settleParts 1 = .ok (.istore_n 3, 1) := by decide +kernel
theorem dX5_settleParts_2 : decode cX5_settleParts 2 = .ok (.iload_n 3, 1) := by decide +kernel
theorem dX5_settleParts_3 : decode cX5_settleParts 3 = .ok (.aload_n 0, 1) := by decide +kernel
theorem dX5_settleParts_4 : decode cX5_settleParts 4 = .ok (.getfield 14, 3) := by decide +kernel
theorem dX5_settleParts_7 : decode cX5_settleParts 7 = .ok (.invokevirtual 126, 3) := by decide +kernel
theorem dX5_settleParts_10 : decode cX5_settleParts 10 = .ok (.if_icmp .ge 28, 3) := by decide +kernel
theorem dX5_settleParts_13 : decode cX5_settleParts 13 = .ok (.aload_n 0, 1) := by decide +kernel
theorem dX5_settleParts_14 : decode cX5_settleParts 14 = .ok (.getfield 49, 3) := by decide +kernel
theorem dX5_settleParts_17 : decode cX5_settleParts 17 = .ok (.iload_n 3, 1) := by decide +kernel
theorem dX5_settleParts_18 : decode cX5_settleParts 18 = .ok (.aload_n 0, 1) := by decide +kernel
theorem dX5_settleParts_19 : decode cX5_settleParts 19 = .ok (.getfield 14, 3) := by decide +kernel
theorem dX5_settleParts_22 : decode cX5_settleParts 22 = .ok (.getfield 75, 3) := by decide +kernel
theorem dX5_settleParts_25 : decode cX5_settleParts 25 = .ok (.iload_n 1, 1) := by decide +kernel
theorem dX5_settleParts_26 : decode cX5_settleParts 26 = .ok (.aaload, 1) := by decide +kernel
theorem dX5_settleParts_27 : decode cX5_settleParts 27 = .ok (.iload_n 3, 1) := by decide +kernel
theorem dX5_settleParts_28 : decode cX5_settleParts 28 = .ok (.iload_n 2, 1) := by decide +kernel
theorem dX5_settleParts_29 : decode cX5_settleParts 29 = .ok (.iand, 1) := by decide +kernel
theorem dX5_settleParts_30 : decode cX5_settleParts 30 = .ok (.laload, 1) := by decide +kernel
theorem dX5_settleParts_31 : decode cX5_settleParts 31 = .ok (.lastore, 1) := by decide +kernel
theorem dX5_settleParts_32 : decode cX5_settleParts 32 = .ok (.iinc 3 1, 3) := by decide +kernel
theorem dX5_settleParts_35 : decode cX5_settleParts 35 = .ok (.goto (-33), 3) := by decide +kernel
theorem dX5_settleParts_38 : decode cX5_settleParts 38 = .ok (.aload_n 0, 1) := by decide +kernel
theorem dX5_settleParts_39 : decode cX5_settleParts 39 = .ok (.iload_n 1, 1) := by decide +kernel
theorem dX5_settleParts_40 : decode cX5_settleParts 40 = .ok (.invokevirtual 143, 3) := by decide +kernel
theorem dX5_settleParts_43 : decode cX5_settleParts 43 = .ok (.ireturn, 1) := by decide +kernel
set_option maxRecDepth 20000 in
theorem ggX5_bestSplit_X5_leastOf : GoodIn wsX5_bestSplit wsX5_leastOf := goodIn_r _ [10, 11, 12, 9, 13] (by decide +kernel) (by decide +kernel)
set_option maxRecDepth 20000 in
theorem gX5_bestSplit_X5_leastOf : GoodIn wsX5_bestSplit (va_wsS RX5 112 yX5_leastOf wsX5_leastOf) := goodIn_app (goodIn_of _ (by decide +kernel)) ggX5_bestSplit_X5_leastOf
set_option maxRecDepth 20000 in
theorem ggX5_bestSplit_J6_bitCount_0f7a4 : GoodIn wsX5_bestSplit wsJ6_bitCount_0f7a4 := goodIn_r _ [17, 18, 19, 20] (by decide +kernel) (by decide +kernel)
set_option maxRecDepth 20000 in
theorem gX5_bestSplit_J6_bitCount_0f7a4 : GoodIn wsX5_bestSplit (va_wsS RX5 153 yJ6_bitCount_0f7a4 wsJ6_bitCount_0f7a4) := goodIn_app (goodIn_of _ (by decide +kernel)) ggX5_bestSplit_J6_bitCount_0f7a4
set_option maxRecDepth 20000 in
theorem ggX5_bestSplit_X5_nextWithin : GoodIn wsX5_bestSplit wsX5_nextWithin := goodIn_r _ [23] (by decide +kernel) (by decide +kernel)
set_option maxRecDepth 20000 in
theorem gX5_bestSplit_X5_nextWithin : GoodIn wsX5_bestSplit (va_wsS RX5 234 yX5_nextWithin wsX5_nextWithin) := goodIn_app (goodIn_of _ (by decide +kernel)) ggX5_bestSplit_X5_nextWithin
set_option maxRecDepth 20000 in
theorem ggX5_bestSplit_X1_plus : GoodIn wsX5_bestSplit wsX1_plus := goodIn_r _ [28, 29, 40] (by decide +kernel) (by decide +kernel)
set_option maxRecDepth 20000 in
theorem gX5_bestSplit_X1_plus : GoodIn wsX5_bestSplit (wsV RX5 165 RX1 yX1_plus wsX1_plus) := goodIn_app (goodIn_of _ (by decide +kernel)) ggX5_bestSplit_X1_plus
theorem dX5_bestSplit_0 : decode cX5_bestSplit 0 = .ok (.iconst 1, 1) := by decide +kernel
theorem dX5_bestSplit_1 : decode cX5_bestSplit 1 = .ok (.iload_n 2, 1) := by decide +kernel
theorem dX5_bestSplit_2 : decode cX5_bestSplit 2 = .ok (.invokestatic 112, 3) := by decide +kernel
theorem dX5_bestSplit_5 : decode cX5_bestSplit 5 = .ok (.ishl, 1) := by decide +kernel
theorem dX5_bestSplit_6 : decode cX5_bestSplit 6 = .ok (.istore_n 3, 1) := by decide +kernel
theorem dX5_bestSplit_7 : decode cX5_bestSplit 7 = .ok (.iload_n 2, 1) := by decide +kernel
theorem dX5_bestSplit_8 : decode cX5_bestSplit 8 = .ok (.iload_n 3, 1) := by decide +kernel
theorem dX5_bestSplit_9 : decode cX5_bestSplit 9 = .ok (.iconst (-1), 1) := by decide +kernel
theorem dX5_bestSplit_10 : decode cX5_bestSplit 10 = .ok (.ixor, 1) := by decide +kernel
theorem dX5_bestSplit_11 : decode cX5_bestSplit 11 = .ok (.iand, 1) := by decide +kernel
theorem dX5_bestSplit_12 : decode cX5_bestSplit 12 = .ok (.istore 4, 2) := by decide +kernel
theorem dX5_bestSplit_14 : decode cX5_bestSplit 14 = .ok (.aload_n 1, 1) := by decide +kernel
theorem dX5_bestSplit_15 : decode cX5_bestSplit 15 = .ok (.iload_n 2, 1) := by decide +kernel
theorem dX5_bestSplit_16 : decode cX5_bestSplit 16 = .ok (.laload, 1) := by decide +kernel
theorem dX5_bestSplit_17 : decode cX5_bestSplit 17 = .ok (.lstore 5, 2) := by decide +kernel
theorem dX5_bestSplit_19 : decode cX5_bestSplit 19 = .ok (.iconst 0, 1) := by decide +kernel
theorem dX5_bestSplit_20 : decode cX5_bestSplit 20 = .ok (.istore 7, 2) := by decide +kernel
theorem dX5_bestSplit_22 : decode cX5_bestSplit 22 = .ok (.iconst 1, 1) := by decide +kernel
theorem dX5_bestSplit_23 : decode cX5_bestSplit 23 = .ok (.istore 8, 2) := by decide +kernel
theorem dX5_bestSplit_25 : decode cX5_bestSplit 25 = .ok (.iload 8, 2) := by decide +kernel
theorem dX5_bestSplit_27 : decode cX5_bestSplit 27 = .ok (.iconst 1, 1) := by decide +kernel
theorem dX5_bestSplit_28 : decode cX5_bestSplit 28 = .ok (.iload 4, 2) := by decide +kernel
theorem dX5_bestSplit_30 : decode cX5_bestSplit 30 = .ok (.invokestatic 153, 3) := by decide +kernel
theorem dX5_bestSplit_33 : decode cX5_bestSplit 33 = .ok (.ishl, 1) := by decide +kernel
theorem dX5_bestSplit_34 : decode cX5_bestSplit 34 = .ok (.if_icmp .ge 47, 3) := by decide +kernel
theorem dX5_bestSplit_37 : decode cX5_bestSplit 37 = .ok (.iload 7, 2) := by decide +kernel
theorem dX5_bestSplit_39 : decode cX5_bestSplit 39 = .ok (.iload 4, 2) := by decide +kernel
theorem dX5_bestSplit_41 : decode cX5_bestSplit 41 = .ok (.invokestatic 234, 3) := by decide +kernel
theorem dX5_bestSplit_44 : decode cX5_bestSplit 44 = .ok (.istore 7, 2) := by decide +kernel
theorem dX5_bestSplit_46 : decode cX5_bestSplit 46 = .ok (.lload 5, 2) := by decide +kernel
theorem dX5_bestSplit_48 : decode cX5_bestSplit 48 = .ok (.aload_n 0, 1) := by decide +kernel
theorem dX5_bestSplit_49 : decode cX5_bestSplit 49 = .ok (.getfield 45, 3) := by decide +kernel
theorem dX5_bestSplit_52 : decode cX5_bestSplit 52 = .ok (.aload_n 1, 1) := by decide +kernel
theorem dX5_bestSplit_53 : decode cX5_bestSplit 53 = .ok (.iload_n 2, 1) := by decide +kernel
theorem dX5_bestSplit_54 : decode cX5_bestSplit 54 = .ok (.iload 7, 2) := by decide +kernel
theorem dX5_bestSplit_56 : decode cX5_bestSplit 56 = .ok (.iconst (-1), 1) := by decide +kernel
theorem dX5_bestSplit_57 : decode cX5_bestSplit 57 = .ok (.ixor, 1) := by decide +kernel
theorem dX5_bestSplit_58 : decode cX5_bestSplit 58 = .ok (.iand, 1) := by decide +kernel
theorem dX5_bestSplit_59 : decode cX5_bestSplit 59 = .ok (.laload, 1) := by decide +kernel
theorem dX5_bestSplit_60 : decode cX5_bestSplit 60 = .ok (.aload_n 0, 1) := by decide +kernel
theorem dX5_bestSplit_61 : decode cX5_bestSplit 61 = .ok (.getfield 49, 3) := by decide +kernel
theorem dX5_bestSplit_64 : decode cX5_bestSplit 64 = .ok (.iload 7, 2) := by decide +kernel
theorem dX5_bestSplit_66 : decode cX5_bestSplit 66 = .ok (.laload, 1) := by decide +kernel
theorem dX5_bestSplit_67 : decode cX5_bestSplit 67 = .ok (.invokevirtual 165, 3) := by decide +kernel
theorem dX5_bestSplit_70 : decode cX5_bestSplit 70 = .ok (.invokestatic 337, 3) := by decide +kernel
theorem dX5_bestSplit_73 : decode cX5_bestSplit 73 = .ok (.lstore 5, 2) := by decide +kernel
theorem dX5_bestSplit_75 : decode cX5_bestSplit 75 = .ok (.iinc 8 1, 3) := by decide +kernel
theorem dX5_bestSplit_78 : decode cX5_bestSplit 78 = .ok (.goto (-53), 3) := by decide +kernel
theorem dX5_bestSplit_81 : decode cX5_bestSplit 81 = .ok (.lload 5, 2) := by decide +kernel
theorem dX5_bestSplit_83 : decode cX5_bestSplit 83 = .ok (.lreturn, 1) := by decide +kernel
theorem dX5_isMetBefore_0 : decode cX5_isMetBefore 0 = .ok (.iconst 0, 1) := by decide +kernel
theorem dX5_isMetBefore_1 : decode cX5_isMetBefore 1 = .ok (.istore_n 2, 1) := by decide +kernel
theorem dX5_isMetBefore_2 : decode cX5_isMetBefore 2 = .ok (.iload_n 2, 1) := by decide +kernel
theorem dX5_isMetBefore_3 : decode cX5_isMetBefore 3 = .ok (.iload_n 1, 1) := by decide +kernel
theorem dX5_isMetBefore_4 : decode cX5_isMetBefore 4 = .ok (.if_icmp .ge 21, 3) := by decide +kernel
theorem dX5_isMetBefore_7 : decode cX5_isMetBefore 7 = .ok (.aload_n 0, 1) := by decide +kernel
theorem dX5_isMetBefore_8 : decode cX5_isMetBefore 8 = .ok (.iload_n 2, 1) := by decide +kernel
theorem dX5_isMetBefore_9 : decode cX5_isMetBefore 9 = .ok (.laload, 1) := by decide +kernel
theorem dX5_isMetBefore_10 : decode cX5_isMetBefore 10 = .ok (.aload_n 0, 1) := by decide +kernel
theorem dX5_isMetBefore_11 : decode cX5_isMetBefore 11 = .ok (.iload_n 1, 1) := by decide +kernel
theorem dX5_isMetBefore_12 : decode cX5_isMetBefore 12 = .ok (.laload, 1) := by decide +kernel
theorem dX5_isMetBefore_13 : decode cX5_isMetBefore 13 = .ok (.lcmp, 1) := by decide +kernel
theorem dX5_isMetBefore_14 : decode cX5_isMetBefore 14 = .ok (.ifCond .ne 5, 3) := by decide +kernel
theorem dX5_isMetBefore_17 : decode cX5_isMetBefore 17 = .ok (.iconst 1, 1) := by decide +kernel
theorem dX5_isMetBefore_18 : decode cX5_isMetBefore 18 = .ok (.ireturn, 1) := by decide +kernel
theorem dX5_isMetBefore_19 : decode cX5_isMetBefore 19 = .ok (.iinc 2 1, 3) := by decide +kernel
theorem dX5_isMetBefore_22 : decode cX5_isMetBefore 22 = .ok (.goto (-20), 3) := by decide +kernel
theorem dX5_isMetBefore_25 : decode cX5_isMetBefore 25 = .ok (.iconst 0, 1) := by decide +kernel
theorem dX5_isMetBefore_26 : decode cX5_isMetBefore 26 = .ok (.ireturn, 1) := by decide +kernel
set_option maxRecDepth 20000 in
theorem ggX5_isOrder_X3_holds : GoodIn wsX5_isOrder wsX3_holds := goodIn_r _ [8, 9, 10, 11, 12, 42, 43] (by decide +kernel) (by decide +kernel)
set_option maxRecDepth 20000 in
theorem gX5_isOrder_X3_holds : GoodIn wsX5_isOrder (wsV RX5 282 RX3 yX3_holds wsX3_holds) := goodIn_app (goodIn_of _ (by decide +kernel)) ggX5_isOrder_X3_holds
set_option maxRecDepth 20000 in
theorem ggX5_isOrder_X5_partnerAt : GoodIn wsX5_isOrder wsX5_partnerAt := goodIn_r _ [16, 1, 17, 18, 2, 3, 4, 5, 6, 7, 8, 9, 10, 11, 12, 25, 26, 27, 28, 29, 30, 31, 32, 33, 34, 42, 43, 35, 36, 37, 38, 39, 40, 41] (by decide +kernel) (by decide +kernel)
set_option maxRecDepth 20000 in
theorem gX5_isOrder_X5_partnerAt : GoodIn wsX5_isOrder (wsV RX5 202 RX5 yX5_partnerAt wsX5_partnerAt) := goodIn_app (goodIn_of _ (by decide +kernel)) ggX5_isOrder_X5_partnerAt
set_option maxRecDepth 20000 in
theorem ggX5_isOrder_X0_everyone : GoodIn wsX5_isOrder wsX0_everyone := goodIn_r _ [23, 24, 35, 36, 37, 38, 39, 40, 41] (by decide +kernel) (by decide +kernel)
set_option maxRecDepth 20000 in
theorem gX5_isOrder_X0_everyone : GoodIn wsX5_isOrder (wsV RX5 175 RX0 yX0_everyone wsX0_everyone) := goodIn_app (goodIn_of _ (by decide +kernel)) ggX5_isOrder_X0_everyone
theorem dX5_isOrder_0 : decode cX5_isOrder 0 = .ok (.aload_n 0, 1) := by decide +kernel
theorem dX5_isOrder_1 : decode cX5_isOrder 1 = .ok (.getfield 38, 3) := by decide +kernel
theorem dX5_isOrder_4 : decode cX5_isOrder 4 = .ok (.iload_n 1, 1) := by decide +kernel
theorem dX5_isOrder_5 : decode cX5_isOrder 5 = .ok (.iload_n 2, 1) := by decide +kernel
theorem dX5_isOrder_6 : decode cX5_isOrder 6 = .ok (.aload_n 0, 1) := by decide +kernel
theorem dX5_isOrder_7 : decode cX5_isOrder 7 = .ok (.getfield 14, 3) := by decide +kernel
theorem dX5_isOrder_10 : decode cX5_isOrder 10 = .ok (.getfield 136, 3) := by decide +kernel
theorem dX5_isOrder_13 : decode cX5_isOrder 13 = .ok (.invokevirtual 282, 3) := by decide +kernel
theorem dX5_isOrder_16 : decode cX5_isOrder 16 = .ok (.ifCond .ne 5, 3) := by decide +kernel
theorem dX5_isOrder_19 : decode cX5_isOrder 19 = .ok (.iconst 0, 1) := by decide +kernel
theorem dX5_isOrder_20 : decode cX5_isOrder 20 = .ok (.ireturn, 1) := by decide +kernel
theorem dX5_isOrder_21 : decode cX5_isOrder 21 = .ok (.iconst 0, 1) := by decide +kernel
theorem dX5_isOrder_22 : decode cX5_isOrder 22 = .ok (.istore_n 3, 1) := by decide +kernel
theorem dX5_isOrder_23 : decode cX5_isOrder 23 = .ok (.iconst 0, 1) := by decide +kernel
theorem dX5_isOrder_24 : decode cX5_isOrder 24 = .ok (.istore 4, 2) := by decide +kernel
theorem dX5_isOrder_26 : decode cX5_isOrder 26 = .ok (.iload 4, 2) := by decide +kernel
theorem dX5_isOrder_28 : decode cX5_isOrder 28 = .ok (.aload_n 0, 1) := by decide +kernel
theorem dX5_isOrder_29 : decode cX5_isOrder 29 = .ok (.getfield 14, 3) := by decide +kernel
theorem dX5_isOrder_32 : decode cX5_isOrder 32 = .ok (.getfield 136, 3) := by decide +kernel
theorem dX5_isOrder_35 : decode cX5_isOrder 35 = .ok (.if_icmp .ge 35, 3) := by decide +kernel
theorem dX5_isOrder_38 : decode cX5_isOrder 38 = .ok (.aload_n 0, 1) := by decide +kernel
theorem dX5_isOrder_39 : decode cX5_isOrder 39 = .ok (.iload_n 1, 1) := by decide +kernel
theorem dX5_isOrder_40 : decode cX5_isOrder 40 = .ok (.iload_n 2, 1) := by decide +kernel
theorem dX5_isOrder_41 : decode cX5_isOrder 41 = .ok (.iload 4, 2) := by decide +kernel
theorem dX5_isOrder_43 : decode cX5_isOrder 43 = .ok (.iadd, 1) := by decide +kernel
theorem dX5_isOrder_44 : decode cX5_isOrder 44 = .ok (.invokevirtual 202, 3) := by decide +kernel
theorem dX5_isOrder_47 : decode cX5_isOrder 47 = .ok (.istore 5, 2) := by decide +kernel
theorem dX5_isOrder_49 : decode cX5_isOrder 49 = .ok (.iload 5, 2) := by decide +kernel
theorem dX5_isOrder_51 : decode cX5_isOrder 51 = .ok (.iconst (-1), 1) := by decide +kernel
theorem dX5_isOrder_52 : decode cX5_isOrder 52 = .ok (.if_icmp .ne 5, 3) := by decide +kernel
theorem dX5_isOrder_55 : decode cX5_isOrder 55 = .ok (.iconst 0, 1) := by decide +kernel
theorem dX5_isOrder_56 : decode cX5_isOrder 56 = .ok (.ireturn, 1) := by decide +kernel
theorem dX5_isOrder_57 : decode cX5_isOrder 57 = .ok (.iload_n 3, 1) := by decide +kernel
theorem dX5_isOrder_58 : decode cX5_isOrder 58 = .ok (.iconst 1, 1) := by decide +kernel
theorem dX5_isOrder_59 : decode cX5_isOrder 59 = .ok (.iload 5, 2) := by decide +kernel
theorem dX5_isOrder_61 : decode cX5_isOrder 61 = .ok (.ishl, 1) := by decide +kernel
theorem dX5_isOrder_62 : decode cX5_isOrder 62 = .ok (.ior, 1) := by decide +kernel
theorem dX5_isOrder_63 : decode cX5_isOrder 63 = .ok (.istore_n 3, 1) := by decide +kernel
theorem dX5_isOrder_64 : decode cX5_isOrder 64 = .ok (.iinc 4 1, 3) := by decide +kernel
theorem dX5_isOrder_67 : decode cX5_isOrder 67 = .ok (.goto (-41), 3) := by decide +kernel
theorem dX5_isOrder_70 : decode cX5_isOrder 70 = .ok (.iload_n 3, 1) := by decide +kernel
theorem dX5_isOrder_71 : decode cX5_isOrder 71 = .ok (.aload_n 0, 1) := by decide +kernel
theorem dX5_isOrder_72 : decode cX5_isOrder 72 = .ok (.getfield 14, 3) := by decide +kernel
theorem dX5_isOrder_75 : decode cX5_isOrder 75 = .ok (.invokevirtual 175, 3) := by decide +kernel
theorem dX5_isOrder_78 : decode cX5_isOrder 78 = .ok (.if_icmp .ne 7, 3) := by decide +kernel
theorem dX5_isOrder_81 : decode cX5_isOrder 81 = .ok (.iconst 1, 1) := by decide +kernel
theorem dX5_isOrder_82 : decode cX5_isOrder 82 = .ok (.goto 4, 3) := by decide +kernel
theorem dX5_isOrder_85 : decode cX5_isOrder 85 = .ok (.iconst 0, 1) := by decide +kernel
theorem dX5_isOrder_86 : decode cX5_isOrder 86 = .ok (.ireturn, 1) := by decide +kernel
set_option maxRecDepth 20000 in
theorem ggX5_partnerAt_X3_holds : GoodIn wsX5_partnerAt wsX3_holds := goodIn_r _ [10, 11, 12, 13, 14, 25, 26] (by decide +kernel) (by decide +kernel)
set_option maxRecDepth 20000 in
theorem gX5_partnerAt_X3_holds : GoodIn wsX5_partnerAt (wsV RX5 282 RX3 yX3_holds wsX3_holds) := goodIn_app (goodIn_of _ (by decide +kernel)) ggX5_partnerAt_X3_holds
theorem dX5_partnerAt_0 : decode cX5_partnerAt 0 = .ok (.aload_n 0, 1) := by decide +kernel
theorem dX5_partnerAt_1 : decode cX5_partnerAt 1 = .ok (.getfield 38, 3) := by decide +kernel
theorem dX5_partnerAt_4 : decode cX5_partnerAt 4 = .ok (.iload_n 1, 1) := by decide +kernel
theorem dX5_partnerAt_5 : decode cX5_partnerAt 5 = .ok (.iload_n 2, 1) := by decide +kernel
theorem dX5_partnerAt_6 : decode cX5_partnerAt 6 = .ok (.iconst 1, 1) := by decide +kernel
theorem dX5_partnerAt_7 : decode cX5_partnerAt 7 = .ok (.invokevirtual 282, 3) := by decide +kernel
theorem dX5_partnerAt_10 : decode cX5_partnerAt 10 = .ok (.ifCond .eq 17, 3) := by decide +kernel
theorem dX5_partnerAt_13 : decode cX5_partnerAt 13 = .ok (.aload_n 0, 1) := by decide +kernel
theorem dX5_partnerAt_14 : decode cX5_partnerAt 14 = .ok (.getfield 38, 3) := by decide +kernel
theorem dX5_partnerAt_17 : decode cX5_partnerAt 17 = .ok (.getfield 317, 3) := by decide +kernel
theorem dX5_partnerAt_20 : decode cX5_partnerAt 20 = .ok (.iload_n 1, 1) := by decide +kernel
theorem dX5_partnerAt_21 : decode cX5_partnerAt 21 = .ok (.aaload, 1) := by decide +kernel
theorem dX5_partnerAt_22 : decode cX5_partnerAt 22 = .ok (.iload_n 2, 1) := by decide +kernel
theorem dX5_partnerAt_23 : decode cX5_partnerAt 23 = .ok (.laload, 1) := by decide +kernel
theorem dX5_partnerAt_24 : decode cX5_partnerAt 24 = .ok (.goto 6, 3) := by decide +kernel
theorem dX5_partnerAt_27 : decode cX5_partnerAt 27 = .ok (.ldc2_w 339, 3) := by decide +kernel
theorem dX5_partnerAt_30 : decode cX5_partnerAt 30 = .ok (.lstore_n 3, 1) := by decide +kernel
theorem dX5_partnerAt_31 : decode cX5_partnerAt 31 = .ok (.lload_n 3, 1) := by decide +kernel
theorem dX5_partnerAt_32 : decode cX5_partnerAt 32 = .ok (.lconst 0, 1) := by decide +kernel
theorem dX5_partnerAt_33 : decode cX5_partnerAt 33 = .ok (.lcmp, 1) := by decide +kernel
theorem dX5_partnerAt_34 : decode cX5_partnerAt 34 = .ok (.ifCond .lt 21, 3) := by decide +kernel
theorem dX5_partnerAt_37 : decode cX5_partnerAt 37 = .ok (.lload_n 3, 1) := by decide +kernel
theorem dX5_partnerAt_38 : decode cX5_partnerAt 38 = .ok (.aload_n 0, 1) := by decide +kernel
theorem dX5_partnerAt_39 : decode cX5_partnerAt 39 = .ok (.getfield 14, 3) := by decide +kernel
theorem dX5_partnerAt_42 : decode cX5_partnerAt 42 = .ok (.getfield 136, 3) := by decide +kernel
theorem dX5_partnerAt_45 : decode cX5_partnerAt 45 = .ok (.i2l, 1) := by decide +kernel
theorem dX5_partnerAt_46 : decode cX5_partnerAt 46 = .ok (.lcmp, 1) := by decide +kernel
theorem dX5_partnerAt_47 : decode cX5_partnerAt 47 = .ok (.ifCond .ge 8, 3) := by decide +kernel
theorem dX5_partnerAt_50 : decode cX5_partnerAt 50 = .ok (.lload_n 3, 1) := by decide +kernel
theorem dX5_partnerAt_51 : decode cX5_partnerAt 51 = .ok (.l2i, 1) := by decide +kernel
theorem dX5_partnerAt_52 : decode cX5_partnerAt 52 = .ok (.goto 4, 3) := by decide +kernel
theorem dX5_partnerAt_55 : decode cX5_partnerAt 55 = .ok (.iconst (-1), 1) := by decide +kernel
theorem dX5_partnerAt_56 : decode cX5_partnerAt 56 = .ok (.ireturn, 1) := by decide +kernel
theorem dX5_factorial_0 : decode cX5_factorial 0 = .ok (.iload_n 0, 1) := by decide +kernel
theorem dX5_factorial_1 : decode cX5_factorial 1 = .ok (.ifCond .lt 19, 3) := by decide +kernel
theorem dX5_factorial_4 : decode cX5_factorial 4 = .ok (.iload_n 0, 1) := by decide +kernel
theorem dX5_factorial_5 : decode cX5_factorial 5 = .ok (.getstatic 341, 3) := by decide +kernel
theorem dX5_factorial_8 : decode cX5_factorial 8 = .ok (.arraylength, 1) := by decide +kernel
theorem dX5_factorial_9 : decode cX5_factorial 9 = .ok (.if_icmp .ge 11, 3) := by decide +kernel
theorem dX5_factorial_12 : decode cX5_factorial 12 = .ok (.getstatic 341, 3) := by decide +kernel
theorem dX5_factorial_15 : decode cX5_factorial 15 = .ok (.iload_n 0, 1) := by decide +kernel
theorem dX5_factorial_16 : decode cX5_factorial 16 = .ok (.iaload, 1) := by decide +kernel
theorem dX5_factorial_17 : decode cX5_factorial 17 = .ok (.goto 4, 3) := by decide +kernel
theorem dX5_factorial_20 : decode cX5_factorial 20 = .ok (.iconst 1, 1) := by decide +kernel
theorem dX5_factorial_21 : decode cX5_factorial 21 = .ok (.ireturn, 1) := by decide +kernel
set_option maxRecDepth 20000 in
theorem ggX5_ordersAround_J6_bitCount_0f7a4 : GoodIn wsX5_ordersAround wsJ6_bitCount_0f7a4 := goodIn_r _ [6, 7, 8, 9] (by decide +kernel) (by decide +kernel)
set_option maxRecDepth 20000 in
theorem gX5_ordersAround_J6_bitCount_0f7a4 : GoodIn wsX5_ordersAround (va_wsS RX5 153 yJ6_bitCount_0f7a4 wsJ6_bitCount_0f7a4) := goodIn_app (goodIn_of _ (by decide +kernel)) ggX5_ordersAround_J6_bitCount_0f7a4
set_option maxRecDepth 20000 in
theorem ggX5_ordersAround_X5_factorial : GoodIn wsX5_ordersAround wsX5_factorial := goodIn_r _ [13, 14] (by decide +kernel) (by decide +kernel)
set_option maxRecDepth 20000 in
theorem gX5_ordersAround_X5_factorial : GoodIn wsX5_ordersAround (va_wsS RX5 217 yX5_factorial wsX5_factorial) := goodIn_app (goodIn_of _ (by decide +kernel)) ggX5_ordersAround_X5_factorial
theorem dX5_ordersAround_0 : decode cX5_ordersAround 0 = .ok (.iload_n 1, 1) := by decide +kernel
theorem dX5_ordersAround_1 : decode cX5_ordersAround 1 = .ok (.invokestatic 153, 3) := by decide +kernel
theorem dX5_ordersAround_4 : decode cX5_ordersAround 4 = .ok (.istore_n 2, 1) := by decide +kernel
theorem dX5_ordersAround_5 : decode cX5_ordersAround 5 = .ok (.iload_n 2, 1) := by decide +kernel
theorem dX5_ordersAround_6 : decode cX5_ordersAround 6 = .ok (.invokestatic 217, 3) := by decide +kernel
theorem dX5_ordersAround_9 : decode cX5_ordersAround 9 = .ok (.aload_n 0, 1) := by decide +kernel
theorem dX5_ordersAround_10 : decode cX5_ordersAround 10 = .ok (.getfield 14, 3) := by decide +kernel
theorem dX5_ordersAround_13 : decode cX5_ordersAround 13 = .ok (.getfield 136, 3) := by decide +kernel
theorem dX5_ordersAround_16 : decode cX5_ordersAround 16 = .ok (.iload_n 2, 1) := by decide +kernel
theorem dX5_ordersAround_17 : decode cX5_ordersAround 17 = .ok (.isub, 1) := by decide +kernel
theorem dX5_ordersAround_18 : decode cX5_ordersAround 18 = .ok (.iconst 1, 1) := by decide +kernel
theorem dX5_ordersAround_19 : decode cX5_ordersAround 19 = .ok (.isub, 1) := by decide +kernel
theorem dX5_ordersAround_20 : decode cX5_ordersAround 20 = .ok (.invokestatic 217, 3) := by decide +kernel
theorem dX5_ordersAround_23 : decode cX5_ordersAround 23 = .ok (.imul, 1) := by decide +kernel
theorem dX5_ordersAround_24 : decode cX5_ordersAround 24 = .ok (.ireturn, 1) := by decide +kernel
set_option maxRecDepth 20000 in
theorem ggX5_addedBy_X1_less : GoodIn wsX5_addedBy wsX1_less := goodIn_r _ [6, 7, 18] (by decide +kernel) (by decide +kernel)
set_option maxRecDepth 20000 in
theorem gX5_addedBy_X1_less : GoodIn wsX5_addedBy (wsV RX5 178 RX1 yX1_less wsX1_less) := goodIn_app (goodIn_of _ (by decide +kernel)) ggX5_addedBy_X1_less
theorem dX5_addedBy_0 : decode cX5_addedBy 0 = .ok (.aload_n 0, 1) := by decide +kernel
theorem dX5_addedBy_1 : decode cX5_addedBy 1 = .ok (.getfield 45, 3) := by decide +kernel
theorem dX5_addedBy_4 : decode cX5_addedBy 4 = .ok (.aload_n 1, 1) := by decide +kernel
theorem dX5_addedBy_5 : decode cX5_addedBy 5 = .ok (.iload_n 3, 1) := by decide +kernel
theorem dX5_addedBy_6 : decode cX5_addedBy 6 = .ok (.iconst 1, 1) := by decide +kernel
theorem dX5_addedBy_7 : decode cX5_addedBy 7 = .ok (.iload_n 2, 1) := by decide +kernel
theorem dX5_addedBy_8 : decode cX5_addedBy 8 = .ok (.ishl, 1) := by decide +kernel
theorem dX5_addedBy_9 : decode cX5_addedBy 9 = .ok (.ior, 1) := by decide +kernel
theorem dX5_addedBy_10 : decode cX5_addedBy 10 = .ok (.laload, 1) := by decide +kernel
theorem dX5_addedBy_11 : decode cX5_addedBy 11 = .ok (.aload_n 1, 1) := by decide +kernel
theorem dX5_addedBy_12 : decode cX5_addedBy 12 = .ok (.iload_n 3, 1) := by decide +kernel
theorem dX5_addedBy_13 : decode cX5_addedBy 13 = .ok (.laload, 1) := by decide +kernel
theorem dX5_addedBy_14 : decode cX5_addedBy 14 = .ok (.invokevirtual 178, 3) := by decide +kernel
theorem dX5_addedBy_17 : decode cX5_addedBy 17 = .ok (.lreturn, 1) := by decide +kernel
set_option maxRecDepth 20000 in
theorem ggX5_shareAbove_X0_sets : GoodIn wsX5_shareAbove wsX0_sets := goodIn_r _ [7, 8, 59, 60, 61, 62, 63, 64, 65] (by decide +kernel) (by decide +kernel)
set_option maxRecDepth 20000 in
theorem gX5_shareAbove_X0_sets : GoodIn wsX5_shareAbove (wsV RX5 126 RX0 yX0_sets wsX0_sets) := goodIn_app (goodIn_of _ (by decide +kernel)) ggX5_shareAbove_X0_sets
set_option maxRecDepth 20000 in
theorem ggX5_shareAbove_X5_has : GoodIn wsX5_shareAbove wsX5_has := goodIn_r _ [12] (by decide +kernel) (by decide +kernel)
set_option maxRecDepth 20000 in
theorem gX5_shareAbove_X5_has : GoodIn wsX5_shareAbove (va_wsS RX5 192 yX5_has wsX5_has) := goodIn_app (goodIn_of _ (by decide +kernel)) ggX5_shareAbove_X5_has
set_option maxRecDepth 20000 in
theorem ggX5_shareAbove_X5_addedBy : GoodIn wsX5_shareAbove wsX5_addedBy := goodIn_r _ [16, 2, 17, 18, 19, 20, 21, 22, 49, 50, 51, 52, 53, 54, 55, 56, 57, 58, 66] (by decide +kernel) (by decide +kernel)
set_option maxRecDepth 20000 in
theorem gX5_shareAbove_X5_addedBy : GoodIn wsX5_shareAbove (wsV RX5 224 RX5 yX5_addedBy wsX5_addedBy) := goodIn_app (goodIn_of _ (by decide +kernel)) ggX5_shareAbove_X5_addedBy
set_option maxRecDepth 20000 in
theorem ggX5_shareAbove_X5_ordersAround : GoodIn wsX5_shareAbove wsX5_ordersAround := goodIn_r _ [26, 1, 27, 28, 29, 30, 31, 32, 33, 34, 35, 36, 11, 37, 38, 49, 50, 51, 52, 53, 54, 55, 56, 57, 58, 59, 60, 61, 62, 63, 64, 65] (by decide +kernel) (by decide +kernel)
set_option maxRecDepth 20000 in
theorem gX5_shareAbove_X5_ordersAround : GoodIn wsX5_shareAbove (wsV RX5 247 RX5 yX5_ordersAround wsX5_ordersAround) := goodIn_app (goodIn_of _ (by decide +kernel)) ggX5_shareAbove_X5_ordersAround
set_option maxRecDepth 20000 in
theorem ggX5_shareAbove_X1_product : GoodIn wsX5_shareAbove wsX1_product := goodIn_r _ [42, 43, 44, 22, 66] (by decide +kernel) (by decide +kernel)
set_option maxRecDepth 20000 in
theorem gX5_shareAbove_X1_product : GoodIn wsX5_shareAbove (wsV RX5 172 RX1 yX1_product wsX1_product) := goodIn_app (goodIn_of _ (by decide +kernel)) ggX5_shareAbove_X1_product
set_option maxRecDepth 20000 in
theorem ggX5_shareAbove_X1_plus : GoodIn wsX5_shareAbove wsX1_plus := goodIn_r _ [48, 22, 66] (by decide +kernel) (by decide +kernel)
set_option maxRecDepth 20000 in
theorem gX5_shareAbove_X1_plus : GoodIn wsX5_shareAbove (wsV RX5 165 RX1 yX1_plus wsX1_plus) := goodIn_app (goodIn_of _ (by decide +kernel)) ggX5_shareAbove_X1_plus
theorem dX5_shareAbove_0 : decode cX5_shareAbove 0 = .ok (.lconst 0, 1) := by decide +kernel
theorem dX5_shareAbove_1 : decode cX5_shareAbove 1 = .ok (.lstore_n 3, 1) := by decide +kernel
theorem dX5_shareAbove_2 : decode cX5_shareAbove 2 = .ok (.iconst 0, 1) := by decide +kernel
theorem dX5_shareAbove_3 : decode cX5_shareAbove 3 = .ok (.istore 5, 2) := by decide +kernel
theorem dX5_shareAbove_5 : decode cX5_shareAbove 5 = .ok (.iload 5, 2) := by decide +kernel
theorem dX5_shareAbove_7 : decode cX5_shareAbove 7 = .ok (.aload_n 0, 1) := by decide +kernel
theorem dX5_shareAbove_8 : decode cX5_shareAbove 8 = .ok (.getfield 14, 3) := by decide +kernel
theorem dX5_shareAbove_11 : decode cX5_shareAbove 11 = .ok (.invokevirtual 126, 3) := by decide +kernel
theorem dX5_shareAbove_14 : decode cX5_shareAbove 14 = .ok (.if_icmp .ge 53, 3) := by decide +kernel
theorem dX5_shareAbove_17 : decode cX5_shareAbove 17 = .ok (.iload 5, 2) := by decide +kernel
theorem dX5_shareAbove_19 : decode cX5_shareAbove 19 = .ok (.iload_n 2, 1) := by decide +kernel
theorem dX5_shareAbove_20 : decode cX5_shareAbove 20 = .ok (.invokestatic 192, 3) := by decide +kernel
theorem dX5_shareAbove_23 : decode cX5_shareAbove 23 = .ok (.ifCond .ne 38, 3) := by decide +kernel
theorem dX5_shareAbove_26 : decode cX5_shareAbove 26 = .ok (.aload_n 0, 1) := by decide +kernel
theorem dX5_shareAbove_27 : decode cX5_shareAbove 27 = .ok (.aload_n 1, 1) := by decide +kernel
theorem dX5_shareAbove_28 : decode cX5_shareAbove 28 = .ok (.iload_n 2, 1) := by decide +kernel
theorem dX5_shareAbove_29 : decode cX5_shareAbove 29 = .ok (.iload 5, 2) := by decide +kernel
theorem dX5_shareAbove_31 : decode cX5_shareAbove 31 = .ok (.invokevirtual 224, 3) := by decide +kernel
theorem dX5_shareAbove_34 : decode cX5_shareAbove 34 = .ok (.lstore 6, 2) := by decide +kernel
theorem dX5_shareAbove_36 : decode cX5_shareAbove 36 = .ok (.aload_n 0, 1) := by decide +kernel
theorem dX5_shareAbove_37 : decode cX5_shareAbove 37 = .ok (.getfield 45, 3) := by decide +kernel
theorem dX5_shareAbove_40 : decode cX5_shareAbove 40 = .ok (.lload_n 3, 1) := by decide +kernel
theorem dX5_shareAbove_41 : decode cX5_shareAbove 41 = .ok (.aload_n 0, 1) := by decide +kernel
theorem dX5_shareAbove_42 : decode cX5_shareAbove 42 = .ok (.getfield 45, 3) := by decide +kernel
theorem dX5_shareAbove_45 : decode cX5_shareAbove 45 = .ok (.lload 6, 2) := by decide +kernel
theorem dX5_shareAbove_47 : decode cX5_shareAbove 47 = .ok (.aload_n 0, 1) := by decide +kernel
theorem dX5_shareAbove_48 : decode cX5_shareAbove 48 = .ok (.iload 5, 2) := by decide +kernel
theorem dX5_shareAbove_50 : decode cX5_shareAbove 50 = .ok (.invokevirtual 247, 3) := by decide +kernel
theorem dX5_shareAbove_53 : decode cX5_shareAbove 53 = .ok (.i2l, 1) := by decide +kernel
theorem dX5_shareAbove_54 : decode cX5_shareAbove 54 = .ok (.invokevirtual 172, 3) := by decide +kernel
theorem dX5_shareAbove_57 : decode cX5_shareAbove 57 = .ok (.invokevirtual 165, 3) := by decide +kernel
theorem dX5_shareAbove_60 : decode cX5_shareAbove 60 = .ok (.lstore_n 3, 1) := by decide +kernel
theorem dX5_shareAbove_61 : decode cX5_shareAbove 61 = .ok (.iinc 5 1, 3) := by decide +kernel
theorem dX5_shareAbove_64 : decode cX5_shareAbove 64 = .ok (.goto (-59), 3) := by decide +kernel
theorem dX5_shareAbove_67 : decode cX5_shareAbove 67 = .ok (.lload_n 3, 1) := by decide +kernel
theorem dX5_shareAbove_68 : decode cX5_shareAbove 68 = .ok (.lreturn, 1) := by decide +kernel
set_option maxRecDepth 20000 in
theorem ggX5_owenAbove_J6_bitCount_0f7a4 : GoodIn wsX5_owenAbove wsJ6_bitCount_0f7a4 := goodIn_r _ [7, 8, 9, 10] (by decide +kernel) (by decide +kernel)
set_option maxRecDepth 20000 in
theorem gX5_owenAbove_J6_bitCount_0f7a4 : GoodIn wsX5_owenAbove (va_wsS RX5 153 yJ6_bitCount_0f7a4 wsJ6_bitCount_0f7a4) := goodIn_app (goodIn_of _ (by decide +kernel)) ggX5_owenAbove_J6_bitCount_0f7a4
set_option maxRecDepth 20000 in
theorem ggX5_owenAbove_X0_countUnions : GoodIn wsX5_owenAbove wsX0_countUnions := goodIn_r _ [15, 16, 17, 18, 19, 20, 21, 22, 23, 66, 67, 68, 69, 70, 71, 72] (by decide +kernel) (by decide +kernel)
set_option maxRecDepth 20000 in
theorem gX5_owenAbove_X0_countUnions : GoodIn wsX5_owenAbove (wsV RX5 231 RX0 yX0_countUnions wsX0_countUnions) := goodIn_app (goodIn_of _ (by decide +kernel)) ggX5_owenAbove_X0_countUnions
set_option maxRecDepth 20000 in
theorem ggX5_owenAbove_X0_sets : GoodIn wsX5_owenAbove wsX0_sets := goodIn_r _ [27, 16, 66, 67, 68, 69, 70, 71, 72] (by decide +kernel) (by decide +kernel)
set_option maxRecDepth 20000 in
theorem gX5_owenAbove_X0_sets : GoodIn wsX5_owenAbove (wsV RX5 126 RX0 yX0_sets wsX0_sets) := goodIn_app (goodIn_of _ (by decide +kernel)) ggX5_owenAbove_X0_sets
set_option maxRecDepth 20000 in
theorem ggX5_owenAbove_X5_has : GoodIn wsX5_owenAbove wsX5_has := goodIn_r _ [23] (by decide +kernel) (by decide +kernel)
set_option maxRecDepth 20000 in
theorem gX5_owenAbove_X5_has : GoodIn wsX5_owenAbove (va_wsS RX5 192 yX5_has wsX5_has) := goodIn_app (goodIn_of _ (by decide +kernel)) ggX5_owenAbove_X5_has
set_option maxRecDepth 20000 in
theorem ggX5_owenAbove_X0_wholeUnions : GoodIn wsX5_owenAbove wsX0_wholeUnions := goodIn_r _ [31, 16, 17, 22, 19, 23, 18, 20, 21, 66, 67, 68, 69, 70, 71, 72] (by decide +kernel) (by decide +kernel)
set_option maxRecDepth 20000 in
theorem gX5_owenAbove_X0_wholeUnions : GoodIn wsX5_owenAbove (wsV RX5 344 RX0 yX0_wholeUnions wsX0_wholeUnions) := goodIn_app (goodIn_of _ (by decide +kernel)) ggX5_owenAbove_X0_wholeUnions
set_option maxRecDepth 20000 in
theorem ggX5_owenAbove_X5_factorial : GoodIn wsX5_owenAbove wsX5_factorial := goodIn_r _ [34, 35] (by decide +kernel) (by decide +kernel)
set_option maxRecDepth 20000 in
theorem gX5_owenAbove_X5_factorial : GoodIn wsX5_owenAbove (va_wsS RX5 217 yX5_factorial wsX5_factorial) := goodIn_app (goodIn_of _ (by decide +kernel)) ggX5_owenAbove_X5_factorial
set_option maxRecDepth 20000 in
theorem ggX5_owenAbove_X5_addedBy : GoodIn wsX5_owenAbove wsX5_addedBy := goodIn_r _ [39, 3, 40, 41, 42, 43, 44, 45, 56, 57, 58, 59, 60, 61, 62, 63, 64, 65, 73] (by decide +kernel) (by decide +kernel)
set_option maxRecDepth 20000 in
theorem gX5_owenAbove_X5_addedBy : GoodIn wsX5_owenAbove (wsV RX5 224 RX5 yX5_addedBy wsX5_addedBy) := goodIn_app (goodIn_of _ (by decide +kernel)) ggX5_owenAbove_X5_addedBy
set_option maxRecDepth 20000 in
theorem ggX5_owenAbove_X1_product : GoodIn wsX5_owenAbove wsX1_product := goodIn_r _ [49, 50, 51, 45, 73] (by decide +kernel) (by decide +kernel)
set_option maxRecDepth 20000 in
theorem gX5_owenAbove_X1_product : GoodIn wsX5_owenAbove (wsV RX5 172 RX1 yX1_product wsX1_product) := goodIn_app (goodIn_of _ (by decide +kernel)) ggX5_owenAbove_X1_product
set_option maxRecDepth 20000 in
theorem ggX5_owenAbove_X1_plus : GoodIn wsX5_owenAbove wsX1_plus := goodIn_r _ [55, 45, 73] (by decide +kernel) (by decide +kernel)
set_option maxRecDepth 20000 in
theorem gX5_owenAbove_X1_plus : GoodIn wsX5_owenAbove (wsV RX5 165 RX1 yX1_plus wsX1_plus) := goodIn_app (goodIn_of _ (by decide +kernel)) ggX5_owenAbove_X1_plus
theorem dX5_owenAbove_0 : decode cX5_owenAbove 0 = .ok (.aload_n 0, 1) := by decide +kernel
theorem dX5_owenAbove_1 : decode cX5_owenAbove 1 = .ok (.getfield 14, 3) := by decide +kernel
theorem dX5_owenAbove_4 : decode cX5_owenAbove 4 = .ok (.getfield 109, 3) := by decide +kernel
theorem dX5_owenAbove_7 : decode cX5_owenAbove 7 = .ok (.iload_n 2, 1) := by decide +kernel
theorem dX5_owenAbove_8 : decode cX5_owenAbove 8 = .ok (.iaload, 1) := by decide +kernel
theorem dX5_owenAbove_9 : decode cX5_owenAbove 9 = .ok (.istore_n 3, 1) := by decide +kernel
theorem dX5_owenAbove_10 : decode cX5_owenAbove 10 = .ok (.iload_n 3, 1) := by decide +kernel
theorem dX5_owenAbove_11 : decode cX5_owenAbove 11 = .ok (.invokestatic 153, 3) := by decide +kernel
theorem dX5_owenAbove_14 : decode cX5_owenAbove 14 = .ok (.istore 4, 2) := by decide +kernel
theorem dX5_owenAbove_16 : decode cX5_owenAbove 16 = .ok (.aload_n 0, 1) := by decide +kernel
theorem dX5_owenAbove_17 : decode cX5_owenAbove 17 = .ok (.getfield 14, 3) := by decide +kernel
theorem dX5_owenAbove_20 : decode cX5_owenAbove 20 = .ok (.invokevirtual 231, 3) := by decide +kernel
theorem dX5_owenAbove_23 : decode cX5_owenAbove 23 = .ok (.istore 5, 2) := by decide +kernel
theorem dX5_owenAbove_25 : decode cX5_owenAbove 25 = .ok (.lconst 0, 1) := by decide +kernel
theorem dX5_owenAbove_26 : decode cX5_owenAbove 26 = .ok (.lstore 6, 2) := by decide +kernel
theorem dX5_owenAbove_28 : decode cX5_owenAbove 28 = .ok (.iconst 0, 1) := by decide +kernel
theorem dX5_owenAbove_29 : decode cX5_owenAbove 29 = .ok (.istore 8, 2) := by decide +kernel
theorem dX5_owenAbove_31 : decode cX5_owenAbove 31 = .ok (.iload 8, 2) := by decide +kernel
theorem dX5_owenAbove_33 : decode cX5_owenAbove 33 = .ok (.aload_n 0, 1) := by decide +kernel
theorem dX5_owenAbove_34 : decode cX5_owenAbove 34 = .ok (.getfield 14, 3) := by decide +kernel
theorem dX5_owenAbove_37 : decode cX5_owenAbove 37 = .ok (.invokevirtual 126, 3) := by decide +kernel
theorem dX5_owenAbove_40 : decode cX5_owenAbove 40 = .ok (.if_icmp .ge 120, 3) := by decide +kernel
theorem dX5_owenAbove_43 : decode cX5_owenAbove 43 = .ok (.iload 8, 2) := by decide +kernel
theorem dX5_owenAbove_45 : decode cX5_owenAbove 45 = .ok (.iload_n 2, 1) := by decide +kernel
theorem dX5_owenAbove_46 : decode cX5_owenAbove 46 = .ok (.invokestatic 192, 3) := by decide +kernel
theorem dX5_owenAbove_49 : decode cX5_owenAbove 49 = .ok (.ifCond .eq 7, 3) := by decide +kernel
theorem dX5_owenAbove_52 : decode cX5_owenAbove 52 = .ok (.iconst (-1), 1) := by decide +kernel
theorem dX5_owenAbove_53 : decode cX5_owenAbove 53 = .ok (.goto 16, 3) := by decide +kernel
theorem dX5_owenAbove_56 : decode cX5_owenAbove 56 = .ok (.aload_n 0, 1) := by decide +kernel
theorem dX5_owenAbove_57 : decode cX5_owenAbove 57 = .ok (.getfield 14, 3) := by decide +kernel
theorem dX5_owenAbove_60 : decode cX5_owenAbove 60 = .ok (.iload 8, 2) := by decide +kernel
theorem dX5_owenAbove_62 : decode cX5_owenAbove 62 = .ok (.iload_n 3, 1) := by decide +kernel
theorem dX5_owenAbove_63 : decode cX5_owenAbove 63 = .ok (.iconst (-1), 1) := by decide +kernel
theorem dX5_owenAbove_64 : decode cX5_owenAbove 64 = .ok (.ixor, 1) := by decide +kernel
theorem dX5_owenAbove_65 : decode cX5_owenAbove 65 = .ok (.iand, 1) := by decide +kernel
theorem dX5_owenAbove_66 : decode cX5_owenAbove 66 = .ok (.invokevirtual 344, 3) := by decide +kernel
theorem dX5_owenAbove_69 : decode cX5_owenAbove 69 = .ok (.istore 9, 2) := by decide +kernel
theorem dX5_owenAbove_71 : decode cX5_owenAbove 71 = .ok (.iload 9, 2) := by decide +kernel
theorem dX5_owenAbove_73 : decode cX5_owenAbove 73 = .ok (.iconst (-1), 1) := by decide +kernel
theorem dX5_owenAbove_74 : decode cX5_owenAbove 74 = .ok (.if_icmp .eq 80, 3) := by decide +kernel
theorem dX5_owenAbove_77 : decode cX5_owenAbove 77 = .ok (.iload 8, 2) := by decide +kernel
theorem dX5_owenAbove_79 : decode cX5_owenAbove 79 = .ok (.iload_n 3, 1) := by decide +kernel
theorem dX5_owenAbove_80 : decode cX5_owenAbove 80 = .ok (.iand, 1) := by decide +kernel
theorem dX5_owenAbove_81 : decode cX5_owenAbove 81 = .ok (.invokestatic 153, 3) := by decide +kernel
theorem dX5_owenAbove_84 : decode cX5_owenAbove 84 = .ok (.istore 10, 2) := by decide +kernel
theorem dX5_owenAbove_86 : decode cX5_owenAbove 86 = .ok (.iload 9, 2) := by decide +kernel
theorem dX5_owenAbove_88 : decode cX5_owenAbove 88 = .ok (.invokestatic 217, 3) := by decide +kernel
theorem dX5_owenAbove_91 : decode cX5_owenAbove 91 = .ok (.iload 5, 2) := by decide +kernel
theorem dX5_owenAbove_93 : decode cX5_owenAbove 93 = .ok (.iload 9, 2) := by decide +kernel
theorem dX5_owenAbove_95 : decode cX5_owenAbove 95 = .ok (.isub, 1) := by decide +kernel
theorem dX5_owenAbove_96 : decode cX5_owenAbove 96 = .ok (.iconst 1, 1) := by decide +kernel
theorem dX5_owenAbove_97 : decode cX5_owenAbove 97 = .ok (.isub, 1) := by decide +kernel
theorem dX5_owenAbove_98 : decode cX5_owenAbove 98 = .ok (.invokestatic 217, 3) := by decide +kernel
theorem dX5_owenAbove_101 : decode cX5_owenAbove 101 = .ok (.imul, 1) := by decide +kernel
theorem dX5_owenAbove_102 : decode cX5_owenAbove 102 = .ok (.iload 10, 2) := by decide +kernel
theorem dX5_owenAbove_104 : decode cX5_owenAbove 104 = .ok (.invokestatic 217, 3) := by decide +kernel
theorem dX5_owenAbove_107 : decode cX5_owenAbove 107 = .ok (.imul, 1) := by decide +kernel
theorem dX5_owenAbove_108 : decode cX5_owenAbove 108 = .ok (.iload 4, 2) := by decide +kernel
theorem dX5_owenAbove_110 : decode cX5_owenAbove 110 = .ok (.iload 10, 2) := by decide +kernel
theorem dX5_owenAbove_112 : decode cX5_owenAbove 112 = .ok (.isub, 1) := by decide +kernel
theorem dX5_owenAbove_113 : decode cX5_owenAbove 113 = .ok (.iconst 1, 1) := by decide +kernel
theorem dX5_owenAbove_114 : decode cX5_owenAbove 114 = .ok (.isub, 1) := by decide +kernel
theorem dX5_owenAbove_115 : decode cX5_owenAbove 115 = .ok (.invokestatic 217, 3) := by decide +kernel
theorem dX5_owenAbove_118 : decode cX5_owenAbove 118 = .ok (.imul, 1) := by decide +kernel
theorem dX5_owenAbove_119 : decode cX5_owenAbove 119 = .ok (.istore 11, 2) := by decide +kernel
theorem dX5_owenAbove_121 : decode cX5_owenAbove 121 = .ok (.aload_n 0, 1) := by decide +kernel
theorem dX5_owenAbove_122 : decode cX5_owenAbove 122 = .ok (.aload_n 1, 1) := by decide +kernel
theorem dX5_owenAbove_123 : decode cX5_owenAbove 123 = .ok (.iload_n 2, 1) := by decide +kernel
theorem dX5_owenAbove_124 : decode cX5_owenAbove 124 = .ok (.iload 8, 2) := by decide +kernel
theorem dX5_owenAbove_126 : decode cX5_owenAbove 126 = .ok (.invokevirtual 224, 3) := by decide +kernel
theorem dX5_owenAbove_129 : decode cX5_owenAbove 129 = .ok (.lstore 12, 2) := by decide +kernel
theorem dX5_owenAbove_131 : decode cX5_owenAbove 131 = .ok (.aload_n 0, 1) := by decide +kernel
theorem dX5_owenAbove_132 : decode cX5_owenAbove 132 = .ok (.getfield 45, 3) := by decide +kernel
theorem dX5_owenAbove_135 : decode cX5_owenAbove 135 = .ok (.lload 6, 2) := by decide +kernel
theorem dX5_owenAbove_137 : decode cX5_owenAbove 137 = .ok (.aload_n 0, 1) := by decide +kernel
theorem dX5_owenAbove_138 : decode cX5_owenAbove 138 = .ok (.getfield 45, 3) := by decide +kernel
theorem dX5_owenAbove_141 : decode cX5_owenAbove 141 = .ok (.lload 12, 2) := by decide +kernel
theorem dX5_owenAbove_143 : decode cX5_owenAbove 143 = .ok (.iload 11, 2) := by decide +kernel
theorem dX5_owenAbove_145 : decode cX5_owenAbove 145 = .ok (.i2l, 1) := by decide +kernel
theorem dX5_owenAbove_146 : decode cX5_owenAbove 146 = .ok (.invokevirtual 172, 3) := by decide +kernel
theorem dX5_owenAbove_149 : decode cX5_owenAbove 149 = .ok (.invokevirtual 165, 3) := by decide +kernel
theorem dX5_owenAbove_152 : decode cX5_owenAbove 152 = .ok (.lstore 6, 2) := by decide +kernel
theorem dX5_owenAbove_154 : decode cX5_owenAbove 154 = .ok (.iinc 8 1, 3) := by decide +kernel
theorem dX5_owenAbove_157 : decode cX5_owenAbove 157 = .ok (.goto (-126), 3) := by decide +kernel
theorem dX5_owenAbove_160 : decode cX5_owenAbove 160 = .ok (.lload 6, 2) := by decide +kernel
theorem dX5_owenAbove_162 : decode cX5_owenAbove 162 = .ok (.lreturn, 1) := by decide +kernel
set_option maxRecDepth 20000 in
theorem ggX5_fillWholes_X1_begin : GoodIn wsX5_fillWholes wsX1_begin := goodIn_r _ [11, 12, 77] (by decide +kernel) (by decide +kernel)
set_option maxRecDepth 20000 in
theorem gX5_fillWholes_X1_begin : GoodIn wsX5_fillWholes (wsV RX5 163 RX1 yX1_begin wsX1_begin) := goodIn_app (goodIn_of _ (by decide +kernel)) ggX5_fillWholes_X1_begin
set_option maxRecDepth 20000 in
theorem ggX5_fillWholes_X5_shareAbove : GoodIn wsX5_fillWholes wsX5_shareAbove := goodIn_r _ [17, 2, 1, 18, 19, 20, 21, 22, 23, 24, 25, 16, 26, 27, 28, 29, 30, 31, 32, 33, 10, 34, 12, 35, 36, 37, 38, 3, 39, 40, 41, 42, 43, 44, 45, 46, 47, 48, 49, 50, 51, 52, 53, 54, 55, 56, 57, 58, 59, 60, 61, 62, 63, 64, 65, 66, 67, 68, 69, 70, 71, 72, 73, 74, 75, 76, 77] (by decide +kernel) (by decide +kernel)
set_option maxRecDepth 20000 in
theorem gX5_fillWholes_X5_shareAbove : GoodIn wsX5_fillWholes (wsV RX5 214 RX5 yX5_shareAbove wsX5_shareAbove) := goodIn_app (goodIn_of _ (by decide +kernel)) ggX5_fillWholes_X5_shareAbove
theorem dX5_fillWholes_0 : decode cX5_fillWholes 0 = .ok (.aload_n 0, 1) := by decide +kernel
theorem dX5_fillWholes_1 : decode cX5_fillWholes 1 = .ok (.getfield 45, 3) := by decide +kernel
theorem dX5_fillWholes_4 : decode cX5_fillWholes 4 = .ok (.invokevirtual 163, 3) := by decide +kernel
theorem dX5_fillWholes_7 : decode cX5_fillWholes 7 = .ok (.iconst 0, 1) := by decide +kernel
theorem dX5_fillWholes_8 : decode cX5_fillWholes 8 = .ok (.istore_n 2, 1) := by decide +kernel
theorem dX5_fillWholes_9 : decode cX5_fillWholes 9 = .ok (.iload_n 2, 1) := by decide +kernel
theorem dX5_fillWholes_10 : decode cX5_fillWholes 10 = .ok (.aload_n 0, 1) := by decide +kernel
theorem dX5_fillWholes_11 : decode cX5_fillWholes 11 = .ok (.getfield 14, 3) := by decide +kernel
theorem dX5_fillWholes_14 : decode cX5_fillWholes 14 = .ok (.getfield 136, 3) := by decide +kernel
theorem dX5_fillWholes_17 : decode cX5_fillWholes 17 = .ok (.if_icmp .ge 29, 3) := by decide +kernel
theorem dX5_fillWholes_20 : decode cX5_fillWholes 20 = .ok (.aload_n 0, 1) := by decide +kernel
theorem dX5_fillWholes_21 : decode cX5_fillWholes 21 = .ok (.getfield 53, 3) := by decide +kernel
theorem dX5_fillWholes_24 : decode cX5_fillWholes 24 = .ok (.iload_n 2, 1) := by decide +kernel
theorem dX5_fillWholes_25 : decode cX5_fillWholes 25 = .ok (.aload_n 0, 1) := by decide +kernel
theorem dX5_fillWholes_26 : decode cX5_fillWholes 26 = .ok (.aload_n 0, 1) := by decide +kernel
theorem dX5_fillWholes_27 : decode cX5_fillWholes 27 = .ok (.getfield 14, 3) := by decide +kernel
theorem dX5_fillWholes_30 : decode cX5_fillWholes 30 = .ok (.getfield 75, 3) := by decide +kernel
theorem dX5_fillWholes_33 : decode cX5_fillWholes 33 = .ok (.iload_n 1, 1) := by decide +kernel
theorem dX5_fillWholes_34 : decode cX5_fillWholes 34 = .ok (.aaload, 1) := by decide +kernel
theorem dX5_fillWholes_35 : decode cX5_fillWholes 35 = .ok (.iload_n 2, 1) := by decide +kernel
theorem dX5_fillWholes_36 : decode cX5_fillWholes 36 = .ok (.invokevirtual 214, 3) := by decide +kernel
theorem dX5_fillWholes_39 : decode cX5_fillWholes 39 = .ok (.lastore, 1) := by decide +kernel
theorem dX5_fillWholes_40 : decode cX5_fillWholes 40 = .ok (.iinc 2 1, 3) := by decide +kernel
theorem dX5_fillWholes_43 : decode cX5_fillWholes 43 = .ok (.goto (-34), 3) := by decide +kernel
theorem dX5_fillWholes_46 : decode cX5_fillWholes 46 = .ok (.aload_n 0, 1) := by decide +kernel
theorem dX5_fillWholes_47 : decode cX5_fillWholes 47 = .ok (.getfield 45, 3) := by decide +kernel
theorem dX5_fillWholes_50 : decode cX5_fillWholes 50 = .ok (.getfield 185, 3) := by decide +kernel
theorem dX5_fillWholes_53 : decode cX5_fillWholes 53 = .ok (.ifCond .ne 7, 3) := by decide +kernel
theorem dX5_fillWholes_56 : decode cX5_fillWholes 56 = .ok (.iconst 1, 1) := by decide +kernel
theorem dX5_fillWholes_57 : decode cX5_fillWholes 57 = .ok (.goto 4, 3) := by decide +kernel
theorem dX5_fillWholes_60 : decode cX5_fillWholes 60 = .ok (.iconst 0, 1) := by decide +kernel
theorem dX5_fillWholes_61 : decode cX5_fillWholes 61 = .ok (.ireturn, 1) := by decide +kernel
set_option maxRecDepth 20000 in
theorem ggX5_lessItsDividends_J6_bitCount_0f7a4 : GoodIn wsX5_lessItsDividends wsJ6_bitCount_0f7a4 := goodIn_r _ [6, 7, 8, 9] (by decide +kernel) (by decide +kernel)
set_option maxRecDepth 20000 in
theorem gX5_lessItsDividends_J6_bitCount_0f7a4 : GoodIn wsX5_lessItsDividends (va_wsS RX5 153 yJ6_bitCount_0f7a4 wsJ6_bitCount_0f7a4) := goodIn_app (goodIn_of _ (by decide +kernel)) ggX5_lessItsDividends_J6_bitCount_0f7a4
set_option maxRecDepth 20000 in
theorem ggX5_lessItsDividends_X5_nextWithin : GoodIn wsX5_lessItsDividends wsX5_nextWithin := goodIn_r _ [13] (by decide +kernel) (by decide +kernel)
set_option maxRecDepth 20000 in
theorem gX5_lessItsDividends_X5_nextWithin : GoodIn wsX5_lessItsDividends (va_wsS RX5 234 yX5_nextWithin wsX5_nextWithin) := goodIn_app (goodIn_of _ (by decide +kernel)) ggX5_lessItsDividends_X5_nextWithin
set_option maxRecDepth 20000 in
theorem ggX5_lessItsDividends_X1_less : GoodIn wsX5_lessItsDividends wsX1_less := goodIn_r _ [18, 19, 30] (by decide +kernel) (by decide +kernel)
set_option maxRecDepth 20000 in
theorem gX5_lessItsDividends_X1_less : GoodIn wsX5_lessItsDividends (wsV RX5 178 RX1 yX1_less wsX1_less) := goodIn_app (goodIn_of _ (by decide +kernel)) ggX5_lessItsDividends_X1_less
