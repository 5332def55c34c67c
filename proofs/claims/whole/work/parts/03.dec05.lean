theorem dX6_valueOf_0 : decode cX6_valueOf 0 = .ok (.iload_n 1, 1) := by decide +kernel
theorem dX6_valueOf_1 : decode cX6_valueOf 1 = .ok (.invokestatic 85, 3) := by decide +kernel
theorem dX6_valueOf_4 : decode cX6_valueOf 4 = .ok (.ifCond .eq 20, 3) := by decide +kernel
theorem dX6_valueOf_7 : decode cX6_valueOf 7 = .ok (.aload_n 0, 1) := by decide +kernel
theorem dX6_valueOf_8 : decode cX6_valueOf 8 = .ok (.iload_n 2, 1) := by decide +kernel
theorem dX6_valueOf_9 : decode cX6_valueOf 9 = .ok (.invokevirtual 88, 3) := by decide +kernel
theorem dX6_valueOf_12 : decode cX6_valueOf 12 = .ok (.ifCond .eq 12, 3) := by decide +kernel
theorem dX6_valueOf_15 : decode cX6_valueOf 15 = .ok (.aload_n 0, 1) := by decide +kernel
theorem dX6_valueOf_16 : decode cX6_valueOf 16 = .ok (.iload_n 1, 1) := by decide +kernel
theorem dX6_valueOf_17 : decode cX6_valueOf 17 = .ok (.iload_n 2, 1) := by decide +kernel
theorem dX6_valueOf_18 : decode cX6_valueOf 18 = .ok (.invokevirtual 95, 3) := by decide +kernel
theorem dX6_valueOf_21 : decode cX6_valueOf 21 = .ok (.goto 6, 3) := by decide +kernel
theorem dX6_valueOf_24 : decode cX6_valueOf 24 = .ok (.ldc2_w 60, 3) := by decide +kernel
theorem dX6_valueOf_27 : decode cX6_valueOf 27 = .ok (.lreturn, 1) := by decide +kernel
theorem dX6_becomes_0 : decode cX6_becomes 0 = .ok (.aload_n 0, 1) := by decide +kernel
theorem dX6_becomes_1 : decode cX6_becomes 1 = .ok (.getfield 11, 3) := by decide +kernel
theorem dX6_becomes_4 : decode cX6_becomes 4 = .ok (.iload_n 1, 1) := by decide +kernel
theorem dX6_becomes_5 : decode cX6_becomes 5 = .ok (.laload, 1) := by decide +kernel
theorem dX6_becomes_6 : decode cX6_becomes 6 = .ok (.lstore 4, 2) := by decide +kernel
theorem dX6_becomes_8 : decode cX6_becomes 8 = .ok (.aload_n 0, 1) := by decide +kernel
theorem dX6_becomes_9 : decode cX6_becomes 9 = .ok (.getfield 11, 3) := by decide +kernel
theorem dX6_becomes_12 : decode cX6_becomes 12 = .ok (.iload_n 1, 1) := by decide +kernel
theorem dX6_becomes_13 : decode cX6_becomes 13 = .ok (.lload_n 2, 1) := by decide +kernel
theorem dX6_becomes_14 : decode cX6_becomes 14 = .ok (.lastore, 1) := by decide +kernel
theorem dX6_becomes_15 : decode cX6_becomes 15 = .ok (.lload 4, 2) := by decide +kernel
theorem dX6_becomes_17 : decode cX6_becomes 17 = .ok (.l2i, 1) := by decide +kernel
theorem dX6_becomes_18 : decode cX6_becomes 18 = .ok (.ireturn, 1) := by decide +kernel
set_option maxRecDepth 20000 in
theorem ggX6_weight_X6_isPartner : GoodIn wsX6_weight wsX6_isPartner := goodIn_r _ [6, 7, 8, 9, 5, 10, 11, 12, 13, 14, 19, 20, 21, 22, 23, 24, 25, 26, 27, 28, 29, 30, 31, 32, 33, 34] (by decide +kernel) (by decide +kernel)
set_option maxRecDepth 20000 in
theorem gX6_weight_X6_isPartner : GoodIn wsX6_weight (wsV RX6 74 RX6 yX6_isPartner wsX6_isPartner) := goodIn_app (goodIn_of _ (by decide +kernel)) ggX6_weight_X6_isPartner
set_option maxRecDepth 20000 in
theorem ggX6_weight_X6_isIn : GoodIn wsX6_weight wsX6_isIn := goodIn_r _ [14] (by decide +kernel) (by decide +kernel)
set_option maxRecDepth 20000 in
theorem gX6_weight_X6_isIn : GoodIn wsX6_weight (va_wsS RX6 70 yX6_isIn wsX6_isIn) := goodIn_app (goodIn_of _ (by decide +kernel)) ggX6_weight_X6_isIn
set_option maxRecDepth 20000 in
theorem ggX6_weight_X6_becomes : GoodIn wsX6_weight wsX6_becomes := goodIn_r _ [18, 11, 19, 20, 21, 22, 23, 24, 25, 26, 27, 28, 29, 30, 31, 32, 33, 34] (by decide +kernel) (by decide +kernel)
set_option maxRecDepth 20000 in
theorem gX6_weight_X6_becomes : GoodIn wsX6_weight (wsV RX6 101 RX6 yX6_becomes wsX6_becomes) := goodIn_app (goodIn_of _ (by decide +kernel)) ggX6_weight_X6_becomes
theorem dX6_weight_0 : decode cX6_weight 0 = .ok (.aload_n 0, 1) := by decide +kernel
theorem dX6_weight_1 : decode cX6_weight 1 = .ok (.iload_n 1, 1) := by decide +kernel
theorem dX6_weight_2 : decode cX6_weight 2 = .ok (.invokevirtual 74, 3) := by decide +kernel
theorem dX6_weight_5 : decode cX6_weight 5 = .ok (.ifCond .ne 7, 3) := by decide +kernel
theorem dX6_weight_8 : decode cX6_weight 8 = .ok (.iconst (-1), 1) := by decide +kernel
theorem dX6_weight_9 : decode cX6_weight 9 = .ok (.goto 29, 3) := by decide +kernel
theorem dX6_weight_12 : decode cX6_weight 12 = .ok (.iload_n 2, 1) := by decide +kernel
theorem dX6_weight_13 : decode cX6_weight 13 = .ok (.i2l, 1) := by decide +kernel
theorem dX6_weight_14 : decode cX6_weight 14 = .ok (.lconst 0, 1) := by decide +kernel
theorem dX6_weight_15 : decode cX6_weight 15 = .ok (.ldc2_w 99, 3) := by decide +kernel
theorem dX6_weight_18 : decode cX6_weight 18 = .ok (.invokestatic 70, 3) := by decide +kernel
theorem dX6_weight_21 : decode cX6_weight 21 = .ok (.ifCond .eq 15, 3) := by decide +kernel
theorem dX6_weight_24 : decode cX6_weight 24 = .ok (.aload_n 0, 1) := by decide +kernel
theorem dX6_weight_25 : decode cX6_weight 25 = .ok (.iconst 3, 1) := by decide +kernel
theorem dX6_weight_26 : decode cX6_weight 26 = .ok (.iload_n 1, 1) := by decide +kernel
theorem dX6_weight_27 : decode cX6_weight 27 = .ok (.iadd, 1) := by decide +kernel
theorem dX6_weight_28 : decode cX6_weight 28 = .ok (.iload_n 2, 1) := by decide +kernel
theorem dX6_weight_29 : decode cX6_weight 29 = .ok (.i2l, 1) := by decide +kernel
theorem dX6_weight_30 : decode cX6_weight 30 = .ok (.invokevirtual 101, 3) := by decide +kernel
theorem dX6_weight_33 : decode cX6_weight 33 = .ok (.goto 5, 3) := by decide +kernel
theorem dX6_weight_36 : decode cX6_weight 36 = .ok (.bipush (-2), 2) := by decide +kernel
theorem dX6_weight_38 : decode cX6_weight 38 = .ok (.ireturn, 1) := by decide +kernel
set_option maxRecDepth 20000 in
theorem ggX6_quota_X6_isIn : GoodIn wsX6_quota wsX6_isIn := goodIn_r _ [5] (by decide +kernel) (by decide +kernel)
set_option maxRecDepth 20000 in
theorem gX6_quota_X6_isIn : GoodIn wsX6_quota (va_wsS RX6 70 yX6_isIn wsX6_isIn) := goodIn_app (goodIn_of _ (by decide +kernel)) ggX6_quota_X6_isIn
set_option maxRecDepth 20000 in
theorem ggX6_quota_X6_becomes : GoodIn wsX6_quota wsX6_becomes := goodIn_r _ [9, 10, 11, 12, 13, 14, 15, 16, 17, 18, 19, 20, 21, 22, 23, 24, 25, 26] (by decide +kernel) (by decide +kernel)
set_option maxRecDepth 20000 in
theorem gX6_quota_X6_becomes : GoodIn wsX6_quota (wsV RX6 101 RX6 yX6_becomes wsX6_becomes) := goodIn_app (goodIn_of _ (by decide +kernel)) ggX6_quota_X6_becomes
theorem dX6_quota_0 : decode cX6_quota 0 = .ok (.iload_n 1, 1) := by decide +kernel
theorem dX6_quota_1 : decode cX6_quota 1 = .ok (.i2l, 1) := by decide +kernel
theorem dX6_quota_2 : decode cX6_quota 2 = .ok (.lconst 0, 1) := by decide +kernel
theorem dX6_quota_3 : decode cX6_quota 3 = .ok (.lconst 1, 1) := by decide +kernel
theorem dX6_quota_4 : decode cX6_quota 4 = .ok (.invokestatic 70, 3) := by decide +kernel
theorem dX6_quota_7 : decode cX6_quota 7 = .ok (.ifCond .ne 7, 3) := by decide +kernel
theorem dX6_quota_10 : decode cX6_quota 10 = .ok (.iconst (-1), 1) := by decide +kernel
theorem dX6_quota_11 : decode cX6_quota 11 = .ok (.goto 29, 3) := by decide +kernel
theorem dX6_quota_14 : decode cX6_quota 14 = .ok (.iload_n 2, 1) := by decide +kernel
theorem dX6_quota_15 : decode cX6_quota 15 = .ok (.i2l, 1) := by decide +kernel
theorem dX6_quota_16 : decode cX6_quota 16 = .ok (.lconst 0, 1) := by decide +kernel
theorem dX6_quota_17 : decode cX6_quota 17 = .ok (.ldc2_w 105, 3) := by decide +kernel
theorem dX6_quota_20 : decode cX6_quota 20 = .ok (.invokestatic 70, 3) := by decide +kernel
theorem dX6_quota_23 : decode cX6_quota 23 = .ok (.ifCond .eq 15, 3) := by decide +kernel
theorem dX6_quota_26 : decode cX6_quota 26 = .ok (.aload_n 0, 1) := by decide +kernel
theorem dX6_quota_27 : decode cX6_quota 27 = .ok (.iconst 1, 1) := by decide +kernel
theorem dX6_quota_28 : decode cX6_quota 28 = .ok (.iload_n 1, 1) := by decide +kernel
theorem dX6_quota_29 : decode cX6_quota 29 = .ok (.iadd, 1) := by decide +kernel
theorem dX6_quota_30 : decode cX6_quota 30 = .ok (.iload_n 2, 1) := by decide +kernel
theorem dX6_quota_31 : decode cX6_quota 31 = .ok (.i2l, 1) := by decide +kernel
theorem dX6_quota_32 : decode cX6_quota 32 = .ok (.invokevirtual 101, 3) := by decide +kernel
theorem dX6_quota_35 : decode cX6_quota 35 = .ok (.goto 5, 3) := by decide +kernel
theorem dX6_quota_38 : decode cX6_quota 38 = .ok (.bipush (-2), 2) := by decide +kernel
theorem dX6_quota_40 : decode cX6_quota 40 = .ok (.ireturn, 1) := by decide +kernel
theorem dX6_edgeOf_0 : decode cX6_edgeOf 0 = .ok (.bipush 9, 2) := by decide +kernel
theorem dX6_edgeOf_2 : decode cX6_edgeOf 2 = .ok (.iload_n 0, 1) := by decide +kernel
theorem dX6_edgeOf_3 : decode cX6_edgeOf 3 = .ok (.iload_n 1, 1) := by decide +kernel
theorem dX6_edgeOf_4 : decode cX6_edgeOf 4 = .ok (.invokestatic 107, 3) := by decide +kernel
theorem dX6_edgeOf_7 : decode cX6_edgeOf 7 = .ok (.imul, 1) := by decide +kernel
theorem dX6_edgeOf_8 : decode cX6_edgeOf 8 = .ok (.iload_n 0, 1) := by decide +kernel
theorem dX6_edgeOf_9 : decode cX6_edgeOf 9 = .ok (.iload_n 1, 1) := by decide +kernel
theorem dX6_edgeOf_10 : decode cX6_edgeOf 10 = .ok (.invokestatic 113, 3) := by decide +kernel
theorem dX6_edgeOf_13 : decode cX6_edgeOf 13 = .ok (.iadd, 1) := by decide +kernel
theorem dX6_edgeOf_14 : decode cX6_edgeOf 14 = .ok (.ireturn, 1) := by decide +kernel
set_option maxRecDepth 20000 in
theorem ggX6_edge_X6_isTwo : GoodIn wsX6_edge wsX6_isTwo := goodIn_r _ [8, 9, 10, 11, 7, 12, 13, 14, 15, 16, 3, 17, 18, 19, 30, 31, 32, 33, 34, 35, 36, 37, 38, 39, 40, 41, 42, 43, 44, 45] (by decide +kernel) (by decide +kernel)
set_option maxRecDepth 20000 in
theorem gX6_edge_X6_isTwo : GoodIn wsX6_edge (wsV RX6 116 RX6 yX6_isTwo wsX6_isTwo) := goodIn_app (goodIn_of _ (by decide +kernel)) ggX6_edge_X6_isTwo
set_option maxRecDepth 20000 in
theorem ggX6_edge_X6_isIn : GoodIn wsX6_edge wsX6_isIn := goodIn_r _ [19] (by decide +kernel) (by decide +kernel)
set_option maxRecDepth 20000 in
theorem gX6_edge_X6_isIn : GoodIn wsX6_edge (va_wsS RX6 70 yX6_isIn wsX6_isIn) := goodIn_app (goodIn_of _ (by decide +kernel)) ggX6_edge_X6_isIn
set_option maxRecDepth 20000 in
theorem ggX6_edge_X6_edgeOf : GoodIn wsX6_edge wsX6_edgeOf := goodIn_r _ [22, 23, 24, 25, 26, 27, 28, 29] (by decide +kernel) (by decide +kernel)
set_option maxRecDepth 20000 in
theorem gX6_edge_X6_edgeOf : GoodIn wsX6_edge (va_wsS RX6 122 yX6_edgeOf wsX6_edgeOf) := goodIn_app (goodIn_of _ (by decide +kernel)) ggX6_edge_X6_edgeOf
theorem dX6_edge_0 : decode cX6_edge 0 = .ok (.aload_n 0, 1) := by decide +kernel
theorem dX6_edge_1 : decode cX6_edge 1 = .ok (.iload_n 1, 1) := by decide +kernel
theorem dX6_edge_2 : decode cX6_edge 2 = .ok (.iload_n 2, 1) := by decide +kernel
theorem dX6_edge_3 : decode cX6_edge 3 = .ok (.invokevirtual 116, 3) := by decide +kernel
theorem dX6_edge_6 : decode cX6_edge 6 = .ok (.ifCond .ne 5, 3) := by decide +kernel
theorem dX6_edge_9 : decode cX6_edge 9 = .ok (.iconst (-1), 1) := by decide +kernel
theorem dX6_edge_10 : decode cX6_edge 10 = .ok (.ireturn, 1) := by decide +kernel
theorem dX6_edge_11 : decode cX6_edge 11 = .ok (.iload_n 3, 1) := by decide +kernel
theorem dX6_edge_12 : decode cX6_edge 12 = .ok (.i2l, 1) := by decide +kernel
theorem dX6_edge_13 : decode cX6_edge 13 = .ok (.ldc2_w 120, 3) := by decide +kernel
theorem dX6_edge_16 : decode cX6_edge 16 = .ok (.ldc2_w 105, 3) := by decide +kernel
theorem dX6_edge_19 : decode cX6_edge 19 = .ok (.invokestatic 70, 3) := by decide +kernel
theorem dX6_edge_22 : decode cX6_edge 22 = .ok (.ifCond .ne 6, 3) := by decide +kernel
theorem dX6_edge_25 : decode cX6_edge 25 = .ok (.bipush (-2), 2) := by decide +kernel
theorem dX6_edge_27 : decode cX6_edge 27 = .ok (.ireturn, 1) := by decide +kernel
theorem dX6_edge_28 : decode cX6_edge 28 = .ok (.iload_n 1, 1) := by decide +kernel
theorem dX6_edge_29 : decode cX6_edge 29 = .ok (.iload_n 2, 1) := by decide +kernel
theorem dX6_edge_30 : decode cX6_edge 30 = .ok (.invokestatic 122, 3) := by decide +kernel
theorem dX6_edge_33 : decode cX6_edge 33 = .ok (.istore 4, 2) := by decide +kernel
theorem dX6_edge_35 : decode cX6_edge 35 = .ok (.aload_n 0, 1) := by decide +kernel
theorem dX6_edge_36 : decode cX6_edge 36 = .ok (.getfield 11, 3) := by decide +kernel
theorem dX6_edge_39 : decode cX6_edge 39 = .ok (.bipush 21, 2) := by decide +kernel
theorem dX6_edge_41 : decode cX6_edge 41 = .ok (.iload 4, 2) := by decide +kernel
theorem dX6_edge_43 : decode cX6_edge 43 = .ok (.iadd, 1) := by decide +kernel
theorem dX6_edge_44 : decode cX6_edge 44 = .ok (.laload, 1) := by decide +kernel
theorem dX6_edge_45 : decode cX6_edge 45 = .ok (.lconst 1, 1) := by decide +kernel
theorem dX6_edge_46 : decode cX6_edge 46 = .ok (.lcmp, 1) := by decide +kernel
theorem dX6_edge_47 : decode cX6_edge 47 = .ok (.ifCond .ne 23, 3) := by decide +kernel
theorem dX6_edge_50 : decode cX6_edge 50 = .ok (.aload_n 0, 1) := by decide +kernel
theorem dX6_edge_51 : decode cX6_edge 51 = .ok (.getfield 11, 3) := by decide +kernel
theorem dX6_edge_54 : decode cX6_edge 54 = .ok (.bipush 102, 2) := by decide +kernel
theorem dX6_edge_56 : decode cX6_edge 56 = .ok (.iload 4, 2) := by decide +kernel
theorem dX6_edge_58 : decode cX6_edge 58 = .ok (.iadd, 1) := by decide +kernel
theorem dX6_edge_59 : decode cX6_edge 59 = .ok (.laload, 1) := by decide +kernel
theorem dX6_edge_60 : decode cX6_edge 60 = .ok (.iload_n 3, 1) := by decide +kernel
theorem dX6_edge_61 : decode cX6_edge 61 = .ok (.i2l, 1) := by decide +kernel
theorem dX6_edge_62 : decode cX6_edge 62 = .ok (.lcmp, 1) := by decide +kernel
theorem dX6_edge_63 : decode cX6_edge 63 = .ok (.ifCond .ne 7, 3) := by decide +kernel
theorem dX6_edge_66 : decode cX6_edge 66 = .ok (.iconst 1, 1) := by decide +kernel
theorem dX6_edge_67 : decode cX6_edge 67 = .ok (.goto 4, 3) := by decide +kernel
theorem dX6_edge_70 : decode cX6_edge 70 = .ok (.iconst 0, 1) := by decide +kernel
theorem dX6_edge_71 : decode cX6_edge 71 = .ok (.istore 5, 2) := by decide +kernel
theorem dX6_edge_73 : decode cX6_edge 73 = .ok (.aload_n 0, 1) := by decide +kernel
theorem dX6_edge_74 : decode cX6_edge 74 = .ok (.getfield 11, 3) := by decide +kernel
theorem dX6_edge_77 : decode cX6_edge 77 = .ok (.bipush 21, 2) := by decide +kernel
theorem dX6_edge_79 : decode cX6_edge 79 = .ok (.iload 4, 2) := by decide +kernel
theorem dX6_edge_81 : decode cX6_edge 81 = .ok (.iadd, 1) := by decide +kernel
theorem dX6_edge_82 : decode cX6_edge 82 = .ok (.lconst 1, 1) := by decide +kernel
theorem dX6_edge_83 : decode cX6_edge 83 = .ok (.lastore, 1) := by decide +kernel
theorem dX6_edge_84 : decode cX6_edge 84 = .ok (.aload_n 0, 1) := by decide +kernel
theorem dX6_edge_85 : decode cX6_edge 85 = .ok (.getfield 11, 3) := by decide +kernel
theorem dX6_edge_88 : decode cX6_edge 88 = .ok (.bipush 102, 2) := by decide +kernel
theorem dX6_edge_90 : decode cX6_edge 90 = .ok (.iload 4, 2) := by decide +kernel
theorem dX6_edge_92 : decode cX6_edge 92 = .ok (.iadd, 1) := by decide +kernel
theorem dX6_edge_93 : decode cX6_edge 93 = .ok (.iload_n 3, 1) := by decide +kernel
theorem dX6_edge_94 : decode cX6_edge 94 = .ok (.i2l, 1) := by decide +kernel
theorem dX6_edge_95 : decode cX6_edge 95 = .ok (.lastore, 1) := by decide +kernel
theorem dX6_edge_96 : decode cX6_edge 96 = .ok (.iload 5, 2) := by decide +kernel
theorem dX6_edge_98 : decode cX6_edge 98 = .ok (.ifCond .eq 7, 3) := by decide +kernel
theorem dX6_edge_101 : decode cX6_edge 101 = .ok (.iconst 0, 1) := by decide +kernel
theorem dX6_edge_102 : decode cX6_edge 102 = .ok (.goto 4, 3) := by decide +kernel
theorem dX6_edge_105 : decode cX6_edge 105 = .ok (.iconst 1, 1) := by decide +kernel
theorem dX6_edge_106 : decode cX6_edge 106 = .ok (.ireturn, 1) := by decide +kernel
set_option maxRecDepth 20000 in
theorem ggX6_cut_X6_isTwo : GoodIn wsX6_cut wsX6_isTwo := goodIn_r _ [5, 6, 7, 8, 4, 9, 10, 11, 12, 13, 14, 15, 16, 17, 32, 33, 34, 35, 36, 37, 38, 39, 40, 41, 42, 43, 44, 45, 46, 47] (by decide +kernel) (by decide +kernel)
set_option maxRecDepth 20000 in
theorem gX6_cut_X6_isTwo : GoodIn wsX6_cut (wsV RX6 116 RX6 yX6_isTwo wsX6_isTwo) := goodIn_app (goodIn_of _ (by decide +kernel)) ggX6_cut_X6_isTwo
set_option maxRecDepth 20000 in
theorem ggX6_cut_X6_edgeOf : GoodIn wsX6_cut wsX6_edgeOf := goodIn_r _ [20, 21, 22, 23, 24, 25, 26, 27] (by decide +kernel) (by decide +kernel)
set_option maxRecDepth 20000 in
theorem gX6_cut_X6_edgeOf : GoodIn wsX6_cut (va_wsS RX6 122 yX6_edgeOf wsX6_edgeOf) := goodIn_app (goodIn_of _ (by decide +kernel)) ggX6_cut_X6_edgeOf
set_option maxRecDepth 20000 in
theorem ggX6_cut_X6_becomes : GoodIn wsX6_cut wsX6_becomes := goodIn_r _ [31, 14, 32, 33, 34, 35, 36, 37, 38, 39, 40, 41, 42, 43, 44, 45, 46, 47] (by decide +kernel) (by decide +kernel)
set_option maxRecDepth 20000 in
theorem gX6_cut_X6_becomes : GoodIn wsX6_cut (wsV RX6 101 RX6 yX6_becomes wsX6_becomes) := goodIn_app (goodIn_of _ (by decide +kernel)) ggX6_cut_X6_becomes
theorem dX6_cut_0 : decode cX6_cut 0 = .ok (.aload_n 0, 1) := by decide +kernel
theorem dX6_cut_1 : decode cX6_cut 1 = .ok (.iload_n 1, 1) := by decide +kernel
theorem dX6_cut_2 : decode cX6_cut 2 = .ok (.iload_n 2, 1) := by decide +kernel
theorem dX6_cut_3 : decode cX6_cut 3 = .ok (.invokevirtual 116, 3) := by decide +kernel
theorem dX6_cut_6 : decode cX6_cut 6 = .ok (.ifCond .ne 5, 3) := by decide +kernel
theorem dX6_cut_9 : decode cX6_cut 9 = .ok (.iconst (-1), 1) := by decide +kernel
theorem dX6_cut_10 : decode cX6_cut 10 = .ok (.ireturn, 1) := by decide +kernel
theorem dX6_cut_11 : decode cX6_cut 11 = .ok (.aload_n 0, 1) := by decide +kernel
theorem dX6_cut_12 : decode cX6_cut 12 = .ok (.bipush 21, 2) := by decide +kernel
theorem dX6_cut_14 : decode cX6_cut 14 = .ok (.iload_n 1, 1) := by decide +kernel
theorem dX6_cut_15 : decode cX6_cut 15 = .ok (.iload_n 2, 1) := by decide +kernel
theorem dX6_cut_16 : decode cX6_cut 16 = .ok (.invokestatic 122, 3) := by decide +kernel
theorem dX6_cut_19 : decode cX6_cut 19 = .ok (.iadd, 1) := by decide +kernel
theorem dX6_cut_20 : decode cX6_cut 20 = .ok (.lconst 0, 1) := by decide +kernel
theorem dX6_cut_21 : decode cX6_cut 21 = .ok (.invokevirtual 101, 3) := by decide +kernel
theorem dX6_cut_24 : decode cX6_cut 24 = .ok (.iconst 1, 1) := by decide +kernel
theorem dX6_cut_25 : decode cX6_cut 25 = .ok (.if_icmp .ne 7, 3) := by decide +kernel
theorem dX6_cut_28 : decode cX6_cut 28 = .ok (.iconst 1, 1) := by decide +kernel
theorem dX6_cut_29 : decode cX6_cut 29 = .ok (.goto 5, 3) := by decide +kernel
theorem dX6_cut_32 : decode cX6_cut 32 = .ok (.bipush (-3), 2) := by decide +kernel
theorem dX6_cut_34 : decode cX6_cut 34 = .ok (.ireturn, 1) := by decide +kernel
set_option maxRecDepth 20000 in
theorem ggX6_worth_X6_isTwo : GoodIn wsX6_worth wsX6_isTwo := goodIn_r _ [7, 8, 9, 10, 6, 11, 12, 13, 14, 15, 1, 16, 17, 18, 29, 30, 31, 32, 33, 34, 35, 36, 37, 38, 39, 40, 41, 42, 43, 44] (by decide +kernel) (by decide +kernel)
set_option maxRecDepth 20000 in
theorem gX6_worth_X6_isTwo : GoodIn wsX6_worth (wsV RX6 116 RX6 yX6_isTwo wsX6_isTwo) := goodIn_app (goodIn_of _ (by decide +kernel)) ggX6_worth_X6_isTwo
set_option maxRecDepth 20000 in
theorem ggX6_worth_X6_edgeOf : GoodIn wsX6_worth wsX6_edgeOf := goodIn_r _ [21, 22, 23, 24, 25, 26, 27, 28] (by decide +kernel) (by decide +kernel)
set_option maxRecDepth 20000 in
theorem gX6_worth_X6_edgeOf : GoodIn wsX6_worth (va_wsS RX6 122 yX6_edgeOf wsX6_edgeOf) := goodIn_app (goodIn_of _ (by decide +kernel)) ggX6_worth_X6_edgeOf
theorem dX6_worth_0 : decode cX6_worth 0 = .ok (.aload_n 0, 1) := by decide +kernel
theorem dX6_worth_1 : decode cX6_worth 1 = .ok (.iload_n 1, 1) := by decide +kernel
theorem dX6_worth_2 : decode cX6_worth 2 = .ok (.iload_n 2, 1) := by decide +kernel
theorem dX6_worth_3 : decode cX6_worth 3 = .ok (.invokevirtual 116, 3) := by decide +kernel
theorem dX6_worth_6 : decode cX6_worth 6 = .ok (.ifCond .eq 37, 3) := by decide +kernel
theorem dX6_worth_9 : decode cX6_worth 9 = .ok (.aload_n 0, 1) := by decide +kernel
theorem dX6_worth_10 : decode cX6_worth 10 = .ok (.getfield 11, 3) := by decide +kernel
theorem dX6_worth_13 : decode cX6_worth 13 = .ok (.bipush 21, 2) := by decide +kernel
theorem dX6_worth_15 : decode cX6_worth 15 = .ok (.iload_n 1, 1) := by decide +kernel
theorem dX6_worth_16 : decode cX6_worth 16 = .ok (.iload_n 2, 1) := by decide +kernel
theorem dX6_worth_17 : decode cX6_worth 17 = .ok (.invokestatic 122, 3) := by decide +kernel
theorem dX6_worth_20 : decode cX6_worth 20 = .ok (.iadd, 1) := by decide +kernel
theorem dX6_worth_21 : decode cX6_worth 21 = .ok (.laload, 1) := by decide +kernel
theorem dX6_worth_22 : decode cX6_worth 22 = .ok (.lconst 1, 1) := by decide +kernel
theorem dX6_worth_23 : decode cX6_worth 23 = .ok (.lcmp, 1) := by decide +kernel
theorem dX6_worth_24 : decode cX6_worth 24 = .ok (.ifCond .ne 19, 3) := by decide +kernel
theorem dX6_worth_27 : decode cX6_worth 27 = .ok (.aload_n 0, 1) := by decide +kernel
theorem dX6_worth_28 : decode cX6_worth 28 = .ok (.getfield 11, 3) := by decide +kernel
theorem dX6_worth_31 : decode cX6_worth 31 = .ok (.bipush 102, 2) := by decide +kernel
theorem dX6_worth_33 : decode cX6_worth 33 = .ok (.iload_n 1, 1) := by decide +kernel
theorem dX6_worth_34 : decode cX6_worth 34 = .ok (.iload_n 2, 1) := by decide +kernel
theorem dX6_worth_35 : decode cX6_worth 35 = .ok (.invokestatic 122, 3) := by decide +kernel
theorem dX6_worth_38 : decode cX6_worth 38 = .ok (.iadd, 1) := by decide +kernel
theorem dX6_worth_39 : decode cX6_worth 39 = .ok (.laload, 1) := by decide +kernel
theorem dX6_worth_40 : decode cX6_worth 40 = .ok (.goto 6, 3) := by decide +kernel
theorem dX6_worth_43 : decode cX6_worth 43 = .ok (.ldc2_w 60, 3) := by decide +kernel
theorem dX6_worth_46 : decode cX6_worth 46 = .ok (.lreturn, 1) := by decide +kernel
theorem dX6_unionOf_0 : decode cX6_unionOf 0 = .ok (.aload_n 0, 1) := by decide +kernel
theorem dX6_unionOf_1 : decode cX6_unionOf 1 = .ok (.getfield 11, 3) := by decide +kernel
theorem dX6_unionOf_4 : decode cX6_unionOf 4 = .ok (.bipush 12, 2) := by decide +kernel
theorem dX6_unionOf_6 : decode cX6_unionOf 6 = .ok (.iload_n 1, 1) := by decide +kernel
theorem dX6_unionOf_7 : decode cX6_unionOf 7 = .ok (.iadd, 1) := by decide +kernel
theorem dX6_unionOf_8 : decode cX6_unionOf 8 = .ok (.laload, 1) := by decide +kernel
theorem dX6_unionOf_9 : decode cX6_unionOf 9 = .ok (.l2i, 1) := by decide +kernel
theorem dX6_unionOf_10 : decode cX6_unionOf 10 = .ok (.ireturn, 1) := by decide +kernel
set_option maxRecDepth 20000 in
theorem ggX6_names_X6_n : GoodIn wsX6_names wsX6_n := goodIn_r _ [6, 1, 11, 12, 13, 14, 15, 16, 17, 18, 19, 20, 21, 22, 23, 24, 25, 26] (by decide +kernel) (by decide +kernel)
set_option maxRecDepth 20000 in
theorem gX6_names_X6_n : GoodIn wsX6_names (wsV RX6 66 RX6 yX6_n wsX6_n) := goodIn_app (goodIn_of _ (by decide +kernel)) ggX6_names_X6_n
set_option maxRecDepth 20000 in
theorem ggX6_names_X6_unionOf : GoodIn wsX6_names wsX6_unionOf := goodIn_r _ [10, 1, 11, 12, 13, 14, 15, 16, 17, 18, 19, 20, 21, 22, 23, 24, 25, 26] (by decide +kernel) (by decide +kernel)
set_option maxRecDepth 20000 in
theorem gX6_names_X6_unionOf : GoodIn wsX6_names (wsV RX6 125 RX6 yX6_unionOf wsX6_unionOf) := goodIn_app (goodIn_of _ (by decide +kernel)) ggX6_names_X6_unionOf
theorem dX6_names_0 : decode cX6_names 0 = .ok (.iconst (-1), 1) := by decide +kernel
theorem dX6_names_1 : decode cX6_names 1 = .ok (.istore_n 2, 1) := by decide +kernel
theorem dX6_names_2 : decode cX6_names 2 = .ok (.aload_n 0, 1) := by decide +kernel
theorem dX6_names_3 : decode cX6_names 3 = .ok (.invokevirtual 66, 3) := by decide +kernel
theorem dX6_names_6 : decode cX6_names 6 = .ok (.iconst 1, 1) := by decide +kernel
theorem dX6_names_7 : decode cX6_names 7 = .ok (.isub, 1) := by decide +kernel
theorem dX6_names_8 : decode cX6_names 8 = .ok (.istore_n 3, 1) := by decide +kernel
theorem dX6_names_9 : decode cX6_names 9 = .ok (.iload_n 3, 1) := by decide +kernel
theorem dX6_names_10 : decode cX6_names 10 = .ok (.ifCond .lt 20, 3) := by decide +kernel
theorem dX6_names_13 : decode cX6_names 13 = .ok (.aload_n 0, 1) := by decide +kernel
theorem dX6_names_14 : decode cX6_names 14 = .ok (.iload_n 3, 1) := by decide +kernel
theorem dX6_names_15 : decode cX6_names 15 = .ok (.invokevirtual 125, 3) := by decide +kernel
theorem dX6_names_18 : decode cX6_names 18 = .ok (.iload_n 1, 1) := by decide +kernel
theorem dX6_names_19 : decode cX6_names 19 = .ok (.if_icmp .ne 5, 3) := by decide +kernel
theorem dX6_names_22 : decode cX6_names 22 = .ok (.iload_n 3, 1) := by decide +kernel
theorem dX6_names_23 : decode cX6_names 23 = .ok (.istore_n 2, 1) := by decide +kernel
theorem dX6_names_24 : decode cX6_names 24 = .ok (.iinc 3 (-1), 3) := by decide +kernel
theorem dX6_names_27 : decode cX6_names 27 = .ok (.goto (-18), 3) := by decide +kernel
theorem dX6_names_30 : decode cX6_names 30 = .ok (.iconst 0, 1) := by decide +kernel
theorem dX6_names_31 : decode cX6_names 31 = .ok (.istore_n 3, 1) := by decide +kernel
theorem dX6_names_32 : decode cX6_names 32 = .ok (.iload_n 3, 1) := by decide +kernel
theorem dX6_names_33 : decode cX6_names 33 = .ok (.aload_n 0, 1) := by decide +kernel
theorem dX6_names_34 : decode cX6_names 34 = .ok (.invokevirtual 66, 3) := by decide +kernel
theorem dX6_names_37 : decode cX6_names 37 = .ok (.if_icmp .ge 29, 3) := by decide +kernel
theorem dX6_names_40 : decode cX6_names 40 = .ok (.aload_n 0, 1) := by decide +kernel
theorem dX6_names_41 : decode cX6_names 41 = .ok (.iload_n 3, 1) := by decide +kernel
theorem dX6_names_42 : decode cX6_names 42 = .ok (.invokevirtual 125, 3) := by decide +kernel
theorem dX6_names_45 : decode cX6_names 45 = .ok (.iload_n 1, 1) := by decide +kernel
theorem dX6_names_46 : decode cX6_names 46 = .ok (.if_icmp .ne 14, 3) := by decide +kernel
theorem dX6_names_49 : decode cX6_names 49 = .ok (.aload_n 0, 1) := by decide +kernel
theorem dX6_names_50 : decode cX6_names 50 = .ok (.getfield 11, 3) := by decide +kernel
theorem dX6_names_53 : decode cX6_names 53 = .ok (.bipush 12, 2) := by decide +kernel
theorem dX6_names_55 : decode cX6_names 55 = .ok (.iload_n 3, 1) := by decide +kernel
theorem dX6_names_56 : decode cX6_names 56 = .ok (.iadd, 1) := by decide +kernel
theorem dX6_names_57 : decode cX6_names 57 = .ok (.iload_n 2, 1) := by decide +kernel
theorem dX6_names_58 : decode cX6_names 58 = .ok (.i2l, 1) := by decide +kernel
theorem dX6_names_59 : decode cX6_names 59 = .ok (.lastore, 1) := by decide +kernel
theorem dX6_names_60 : decode cX6_names 60 = .ok (.iinc 3 1, 3) := by decide +kernel
theorem dX6_names_63 : decode cX6_names 63 = .ok (.goto (-31), 3) := by decide +kernel
theorem dX6_names_66 : decode cX6_names 66 = .ok (.return_, 1) := by decide +kernel
set_option maxRecDepth 20000 in
theorem ggX6_unite_X6_isPartner : GoodIn wsX6_unite wsX6_isPartner := goodIn_r _ [6, 7, 8, 9, 5, 10, 1, 11, 12, 13, 22, 23, 24, 25, 26, 27, 28, 29, 30, 31, 32, 33, 34, 35, 36, 37] (by decide +kernel) (by decide +kernel)
set_option maxRecDepth 20000 in
theorem gX6_unite_X6_isPartner : GoodIn wsX6_unite (wsV RX6 74 RX6 yX6_isPartner wsX6_isPartner) := goodIn_app (goodIn_of _ (by decide +kernel)) ggX6_unite_X6_isPartner
set_option maxRecDepth 20000 in
theorem ggX6_unite_X6_unionOf : GoodIn wsX6_unite wsX6_unionOf := goodIn_r _ [17, 1, 22, 23, 24, 25, 26, 27, 28, 29, 30, 31, 32, 33, 34, 35, 36, 37] (by decide +kernel) (by decide +kernel)
set_option maxRecDepth 20000 in
theorem gX6_unite_X6_unionOf : GoodIn wsX6_unite (wsV RX6 125 RX6 yX6_unionOf wsX6_unionOf) := goodIn_app (goodIn_of _ (by decide +kernel)) ggX6_unite_X6_unionOf
set_option maxRecDepth 20000 in
theorem ggX6_unite_X6_names : GoodIn wsX6_unite wsX6_names := goodIn_r _ [21, 1, 7, 8, 9, 5, 10, 14, 15, 16, 17, 22, 23, 24, 25, 26, 27, 28, 29, 30, 31, 32, 33, 34, 35, 36, 37] (by decide +kernel) (by decide +kernel)
set_option maxRecDepth 20000 in
theorem gX6_unite_X6_names : GoodIn wsX6_unite (wsV RX6 129 RX6 yX6_names wsX6_names) := goodIn_app (goodIn_of _ (by decide +kernel)) ggX6_unite_X6_names
theorem dX6_unite_0 : decode cX6_unite 0 = .ok (.aload_n 0, 1) := by decide +kernel
theorem dX6_unite_1 : decode cX6_unite 1 = .ok (.iload_n 1, 1) := by decide +kernel
theorem dX6_unite_2 : decode cX6_unite 2 = .ok (.invokevirtual 74, 3) := by decide +kernel
theorem dX6_unite_5 : decode cX6_unite 5 = .ok (.ifCond .eq 11, 3) := by decide +kernel
theorem dX6_unite_8 : decode cX6_unite 8 = .ok (.aload_n 0, 1) := by decide +kernel
theorem dX6_unite_9 : decode cX6_unite 9 = .ok (.iload_n 2, 1) := by decide +kernel
theorem dX6_unite_10 : decode cX6_unite 10 = .ok (.invokevirtual 74, 3) := by decide +kernel
theorem dX6_unite_13 : decode cX6_unite 13 = .ok (.ifCond .ne 5, 3) := by decide +kernel
theorem dX6_unite_16 : decode cX6_unite 16 = .ok (.iconst (-1), 1) := by decide +kernel
theorem dX6_unite_17 : decode cX6_unite 17 = .ok (.ireturn, 1) := by decide +kernel
theorem dX6_unite_18 : decode cX6_unite 18 = .ok (.aload_n 0, 1) := by decide +kernel
theorem dX6_unite_19 : decode cX6_unite 19 = .ok (.iload_n 1, 1) := by decide +kernel
theorem dX6_unite_20 : decode cX6_unite 20 = .ok (.invokevirtual 125, 3) := by decide +kernel
theorem dX6_unite_23 : decode cX6_unite 23 = .ok (.istore_n 3, 1) := by decide +kernel
theorem dX6_unite_24 : decode cX6_unite 24 = .ok (.iload_n 1, 1) := by decide +kernel
theorem dX6_unite_25 : decode cX6_unite 25 = .ok (.iload_n 2, 1) := by decide +kernel
theorem dX6_unite_26 : decode cX6_unite 26 = .ok (.if_icmp .ne 8, 3) := by decide +kernel
theorem dX6_unite_29 : decode cX6_unite 29 = .ok (.bipush 9, 2) := by decide +kernel
theorem dX6_unite_31 : decode cX6_unite 31 = .ok (.goto 8, 3) := by decide +kernel
theorem dX6_unite_34 : decode cX6_unite 34 = .ok (.aload_n 0, 1) := by decide +kernel
theorem dX6_unite_35 : decode cX6_unite 35 = .ok (.iload_n 2, 1) := by decide +kernel
theorem dX6_unite_36 : decode cX6_unite 36 = .ok (.invokevirtual 125, 3) := by decide +kernel
theorem dX6_unite_39 : decode cX6_unite 39 = .ok (.istore 4, 2) := by decide +kernel
theorem dX6_unite_41 : decode cX6_unite 41 = .ok (.aload_n 0, 1) := by decide +kernel
theorem dX6_unite_42 : decode cX6_unite 42 = .ok (.getfield 11, 3) := by decide +kernel
theorem dX6_unite_45 : decode cX6_unite 45 = .ok (.bipush 12, 2) := by decide +kernel
theorem dX6_unite_47 : decode cX6_unite 47 = .ok (.iload_n 1, 1) := by decide +kernel
theorem dX6_unite_48 : decode cX6_unite 48 = .ok (.iadd, 1) := by decide +kernel
theorem dX6_unite_49 : decode cX6_unite 49 = .ok (.iload 4, 2) := by decide +kernel
theorem dX6_unite_51 : decode cX6_unite 51 = .ok (.i2l, 1) := by decide +kernel
theorem dX6_unite_52 : decode cX6_unite 52 = .ok (.lastore, 1) := by decide +kernel
theorem dX6_unite_53 : decode cX6_unite 53 = .ok (.aload_n 0, 1) := by decide +kernel
theorem dX6_unite_54 : decode cX6_unite 54 = .ok (.iload_n 3, 1) := by decide +kernel
theorem dX6_unite_55 : decode cX6_unite 55 = .ok (.invokevirtual 129, 3) := by decide +kernel
theorem dX6_unite_58 : decode cX6_unite 58 = .ok (.aload_n 0, 1) := by decide +kernel
theorem dX6_unite_59 : decode cX6_unite 59 = .ok (.iload 4, 2) := by decide +kernel
theorem dX6_unite_61 : decode cX6_unite 61 = .ok (.invokevirtual 129, 3) := by decide +kernel
theorem dX6_unite_64 : decode cX6_unite 64 = .ok (.aload_n 0, 1) := by decide +kernel
theorem dX6_unite_65 : decode cX6_unite 65 = .ok (.iload_n 1, 1) := by decide +kernel
theorem dX6_unite_66 : decode cX6_unite 66 = .ok (.invokevirtual 125, 3) := by decide +kernel
theorem dX6_unite_69 : decode cX6_unite 69 = .ok (.ireturn, 1) := by decide +kernel
set_option maxRecDepth 20000 in
theorem ggX6_union_X6_isPartner : GoodIn wsX6_union wsX6_isPartner := goodIn_r _ [5, 6, 7, 8, 4, 9, 10, 11, 12, 13, 18, 19, 20, 21, 22, 23, 24, 25, 26, 27, 28, 29, 30, 31, 32, 33] (by decide +kernel) (by decide +kernel)
set_option maxRecDepth 20000 in
theorem gX6_union_X6_isPartner : GoodIn wsX6_union (wsV RX6 74 RX6 yX6_isPartner wsX6_isPartner) := goodIn_app (goodIn_of _ (by decide +kernel)) ggX6_union_X6_isPartner
set_option maxRecDepth 20000 in
theorem ggX6_union_X6_unionOf : GoodIn wsX6_union wsX6_unionOf := goodIn_r _ [17, 10, 18, 19, 20, 21, 22, 23, 24, 25, 26, 27, 28, 29, 30, 31, 32, 33] (by decide +kernel) (by decide +kernel)
set_option maxRecDepth 20000 in
theorem gX6_union_X6_unionOf : GoodIn wsX6_union (wsV RX6 125 RX6 yX6_unionOf wsX6_unionOf) := goodIn_app (goodIn_of _ (by decide +kernel)) ggX6_union_X6_unionOf
theorem dX6_union_0 : decode cX6_union 0 = .ok (.aload_n 0, 1) := by decide +kernel
theorem dX6_union_1 : decode cX6_union 1 = .ok (.iload_n 1, 1) := by decide +kernel
theorem dX6_union_2 : decode cX6_union 2 = .ok (.invokevirtual 74, 3) := by decide +kernel
theorem dX6_union_5 : decode cX6_union 5 = .ok (.ifCond .eq 11, 3) := by decide +kernel
theorem dX6_union_8 : decode cX6_union 8 = .ok (.aload_n 0, 1) := by decide +kernel
theorem dX6_union_9 : decode cX6_union 9 = .ok (.iload_n 1, 1) := by decide +kernel
theorem dX6_union_10 : decode cX6_union 10 = .ok (.invokevirtual 125, 3) := by decide +kernel
theorem dX6_union_13 : decode cX6_union 13 = .ok (.goto 4, 3) := by decide +kernel
theorem dX6_union_16 : decode cX6_union 16 = .ok (.iconst (-1), 1) := by decide +kernel
theorem dX6_union_17 : decode cX6_union 17 = .ok (.ireturn, 1) := by decide +kernel
set_option maxRecDepth 20000 in
theorem ggX6_feed_X6_isIn : GoodIn wsX6_feed wsX6_isIn := goodIn_r _ [7] (by decide +kernel) (by decide +kernel)
set_option maxRecDepth 20000 in
theorem gX6_feed_X6_isIn : GoodIn wsX6_feed (va_wsS RX6 70 yX6_isIn wsX6_isIn) := goodIn_app (goodIn_of _ (by decide +kernel)) ggX6_feed_X6_isIn
theorem dX6_feed_0 : decode cX6_feed 0 = .ok (.iload_n 1, 1) := by decide +kernel
theorem dX6_feed_1 : decode cX6_feed 1 = .ok (.i2l, 1) := by decide +kernel
theorem dX6_feed_2 : decode cX6_feed 2 = .ok (.lconst 1, 1) := by decide +kernel
theorem dX6_feed_3 : decode cX6_feed 3 = .ok (.ldc2_w 132, 3) := by decide +kernel
theorem dX6_feed_6 : decode cX6_feed 6 = .ok (.invokestatic 70, 3) := by decide +kernel
theorem dX6_feed_9 : decode cX6_feed 9 = .ok (.ifCond .ne 6, 3) := by decide +kernel
theorem dX6_feed_12 : decode cX6_feed 12 = .ok (.bipush (-2), 2) := by decide +kernel
theorem dX6_feed_14 : decode cX6_feed 14 = .ok (.ireturn, 1) := by decide +kernel
theorem dX6_feed_15 : decode cX6_feed 15 = .ok (.aload_n 0, 1) := by decide +kernel
theorem dX6_feed_16 : decode cX6_feed 16 = .ok (.getfield 134, 3) := by decide +kernel
theorem dX6_feed_19 : decode cX6_feed 19 = .ok (.bipush 120, 2) := by decide +kernel
theorem dX6_feed_21 : decode cX6_feed 21 = .ok (.if_icmp .ne 6, 3) := by decide +kernel
theorem dX6_feed_24 : decode cX6_feed 24 = .ok (.bipush (-4), 2) := by decide +kernel
theorem dX6_feed_26 : decode cX6_feed 26 = .ok (.ireturn, 1) := by decide +kernel
theorem dX6_feed_27 : decode cX6_feed 27 = .ok (.aload_n 0, 1) := by decide +kernel
theorem dX6_feed_28 : decode cX6_feed 28 = .ok (.getfield 24, 3) := by decide +kernel
theorem dX6_feed_31 : decode cX6_feed 31 = .ok (.aload_n 0, 1) := by decide +kernel
theorem dX6_feed_32 : decode cX6_feed 32 = .ok (.getfield 134, 3) := by decide +kernel
theorem dX6_feed_35 : decode cX6_feed 35 = .ok (.iload_n 1, 1) := by decide +kernel
theorem dX6_feed_36 : decode cX6_feed 36 = .ok (.iastore, 1) := by decide +kernel
theorem dX6_feed_37 : decode cX6_feed 37 = .ok (.aload_n 0, 1) := by decide +kernel
theorem dX6_feed_38 : decode cX6_feed 38 = .ok (.dup, 1) := by decide +kernel
theorem dX6_feed_39 : decode cX6_feed 39 = .ok (.getfield 134, 3) := by decide +kernel
theorem dX6_feed_42 : decode cX6_feed 42 = .ok (.iconst 1, 1) := by decide +kernel
theorem dX6_feed_43 : decode cX6_feed 43 = .ok (.iadd, 1) := by decide +kernel
theorem dX6_feed_44 : decode cX6_feed 44 = .ok (.putfield 134, 3) := by decide +kernel
theorem dX6_feed_47 : decode cX6_feed 47 = .ok (.aload_n 0, 1) := by decide +kernel
theorem dX6_feed_48 : decode cX6_feed 48 = .ok (.getfield 134, 3) := by decide +kernel
theorem dX6_feed_51 : decode cX6_feed 51 = .ok (.ireturn, 1) := by decide +kernel
theorem dX6_clear_0 : decode cX6_clear 0 = .ok (.aload_n 0, 1) := by decide +kernel
theorem dX6_clear_1 : decode cX6_clear 1 = .ok (.getfield 134, 3) := by decide +kernel
theorem dX6_clear_4 : decode cX6_clear 4 = .ok (.istore_n 1, 1) := by decide +kernel
theorem dX6_clear_5 : decode cX6_clear 5 = .ok (.aload_n 0, 1) := by decide +kernel
theorem dX6_clear_6 : decode cX6_clear 6 = .ok (.iconst 0, 1) := by decide +kernel
theorem dX6_clear_7 : decode cX6_clear 7 = .ok (.putfield 134, 3) := by decide +kernel
theorem dX6_clear_10 : decode cX6_clear 10 = .ok (.iload_n 1, 1) := by decide +kernel
theorem dX6_clear_11 : decode cX6_clear 11 = .ok (.ireturn, 1) := by decide +kernel
theorem dX6_here_0 : decode cX6_here 0 = .ok (.aload_n 0, 1) := by decide +kernel
theorem dX6_here_1 : decode cX6_here 1 = .ok (.getfield 138, 3) := by decide +kernel
theorem dX6_here_4 : decode cX6_here 4 = .ok (.aload_n 0, 1) := by decide +kernel
theorem dX6_here_5 : decode cX6_here 5 = .ok (.getfield 134, 3) := by decide +kernel
theorem dX6_here_8 : decode cX6_here 8 = .ok (.if_icmp .ge 15, 3) := by decide +kernel
theorem dX6_here_11 : decode cX6_here 11 = .ok (.aload_n 0, 1) := by decide +kernel
theorem dX6_here_12 : decode cX6_here 12 = .ok (.getfield 24, 3) := by decide +kernel
theorem dX6_here_15 : decode cX6_here 15 = .ok (.aload_n 0, 1) := by decide +kernel
theorem dX6_here_16 : decode cX6_here 16 = .ok (.getfield 138, 3) := by decide +kernel
theorem dX6_here_19 : decode cX6_here 19 = .ok (.iaload, 1) := by decide +kernel
theorem dX6_here_20 : decode cX6_here 20 = .ok (.goto 4, 3) := by decide +kernel
theorem dX6_here_23 : decode cX6_here 23 = .ok (.iconst (-1), 1) := by decide +kernel
theorem dX6_here_24 : decode cX6_here 24 = .ok (.ireturn, 1) := by decide +kernel
set_option maxRecDepth 20000 in
theorem ggX6_isFigure_X6_here : GoodIn wsX6_isFigure wsX6_here := goodIn_r _ [7, 8, 9, 10, 14, 15, 16, 17, 18, 19, 20, 21, 22, 23, 24, 25, 26, 27, 28, 29] (by decide +kernel) (by decide +kernel)
set_option maxRecDepth 20000 in
theorem gX6_isFigure_X6_here : GoodIn wsX6_isFigure (wsV RX6 141 RX6 yX6_here wsX6_here) := goodIn_app (goodIn_of _ (by decide +kernel)) ggX6_isFigure_X6_here
set_option maxRecDepth 20000 in
theorem ggX6_isFigure_X6_isIn : GoodIn wsX6_isFigure wsX6_isIn := goodIn_r _ [13] (by decide +kernel) (by decide +kernel)
set_option maxRecDepth 20000 in
theorem gX6_isFigure_X6_isIn : GoodIn wsX6_isFigure (va_wsS RX6 70 yX6_isIn wsX6_isIn) := goodIn_app (goodIn_of _ (by decide +kernel)) ggX6_isFigure_X6_isIn
theorem dX6_isFigure_0 : decode cX6_isFigure 0 = .ok (.aload_n 0, 1) := by decide +kernel
theorem dX6_isFigure_1 : decode cX6_isFigure 1 = .ok (.invokevirtual 141, 3) := by decide +kernel
theorem dX6_isFigure_4 : decode cX6_isFigure 4 = .ok (.i2l, 1) := by decide +kernel
theorem dX6_isFigure_5 : decode cX6_isFigure 5 = .ok (.ldc2_w 144, 3) := by decide +kernel
theorem dX6_isFigure_8 : decode cX6_isFigure 8 = .ok (.ldc2_w 146, 3) := by decide +kernel
theorem dX6_isFigure_11 : decode cX6_isFigure 11 = .ok (.invokestatic 70, 3) := by decide +kernel
theorem dX6_isFigure_14 : decode cX6_isFigure 14 = .ok (.ireturn, 1) := by decide +kernel
set_option maxRecDepth 20000 in
theorem ggX6_readsSet_X6_here : GoodIn wsX6_readsSet wsX6_here := goodIn_r _ [8, 3, 9, 10, 19, 20, 21, 22, 23, 24, 25, 26, 27, 28, 29, 30, 31, 32, 33, 34] (by decide +kernel) (by decide +kernel)
set_option maxRecDepth 20000 in
theorem gX6_readsSet_X6_here : GoodIn wsX6_readsSet (wsV RX6 141 RX6 yX6_here wsX6_here) := goodIn_app (goodIn_of _ (by decide +kernel)) ggX6_readsSet_X6_here
set_option maxRecDepth 20000 in
theorem ggX6_readsSet_X6_isIn : GoodIn wsX6_readsSet wsX6_isIn := goodIn_r _ [13] (by decide +kernel) (by decide +kernel)
set_option maxRecDepth 20000 in
theorem gX6_readsSet_X6_isIn : GoodIn wsX6_readsSet (va_wsS RX6 70 yX6_isIn wsX6_isIn) := goodIn_app (goodIn_of _ (by decide +kernel)) ggX6_readsSet_X6_isIn
set_option maxRecDepth 20000 in
theorem ggX6_readsSet_X6_n : GoodIn wsX6_readsSet wsX6_n := goodIn_r _ [17, 18, 19, 20, 21, 22, 23, 24, 25, 26, 27, 28, 29, 30, 31, 32, 33, 34] (by decide +kernel) (by decide +kernel)
set_option maxRecDepth 20000 in
theorem gX6_readsSet_X6_n : GoodIn wsX6_readsSet (wsV RX6 66 RX6 yX6_n wsX6_n) := goodIn_app (goodIn_of _ (by decide +kernel)) ggX6_readsSet_X6_n
theorem dX6_readsSet_0 : decode cX6_readsSet 0 = .ok (.iconst 0, 1) := by decide +kernel
theorem dX6_readsSet_1 : decode cX6_readsSet 1 = .ok (.istore_n 1, 1) := by decide +kernel
theorem dX6_readsSet_2 : decode cX6_readsSet 2 = .ok (.iconst 0, 1) := by decide +kernel
theorem dX6_readsSet_3 : decode cX6_readsSet 3 = .ok (.istore_n 2, 1) := by decide +kernel
theorem dX6_readsSet_4 : decode cX6_readsSet 4 = .ok (.aload_n 0, 1) := by decide +kernel
theorem dX6_readsSet_5 : decode cX6_readsSet 5 = .ok (.invokevirtual 141, 3) := by decide +kernel
theorem dX6_readsSet_8 : decode cX6_readsSet 8 = .ok (.i2l, 1) := by decide +kernel
theorem dX6_readsSet_9 : decode cX6_readsSet 9 = .ok (.ldc2_w 148, 3) := by decide +kernel
theorem dX6_readsSet_12 : decode cX6_readsSet 12 = .ok (.ldc2_w 150, 3) := by decide +kernel
theorem dX6_readsSet_15 : decode cX6_readsSet 15 = .ok (.invokestatic 70, 3) := by decide +kernel
theorem dX6_readsSet_18 : decode cX6_readsSet 18 = .ok (.ifCond .eq 61, 3) := by decide +kernel
theorem dX6_readsSet_21 : decode cX6_readsSet 21 = .ok (.aload_n 0, 1) := by decide +kernel
theorem dX6_readsSet_22 : decode cX6_readsSet 22 = .ok (.invokevirtual 141, 3) := by decide +kernel
theorem dX6_readsSet_25 : decode cX6_readsSet 25 = .ok (.bipush 97, 2) := by decide +kernel
theorem dX6_readsSet_27 : decode cX6_readsSet 27 = .ok (.isub, 1) := by decide +kernel
theorem dX6_readsSet_28 : decode cX6_readsSet 28 = .ok (.i2l, 1) := by decide +kernel
theorem dX6_readsSet_29 : decode cX6_readsSet 29 = .ok (.iload_n 2, 1) := by decide +kernel
theorem dX6_readsSet_30 : decode cX6_readsSet 30 = .ok (.i2l, 1) := by decide +kernel
theorem dX6_readsSet_31 : decode cX6_readsSet 31 = .ok (.aload_n 0, 1) := by decide +kernel
theorem dX6_readsSet_32 : decode cX6_readsSet 32 = .ok (.invokevirtual 66, 3) := by decide +kernel
theorem dX6_readsSet_35 : decode cX6_readsSet 35 = .ok (.iconst 1, 1) := by decide +kernel
theorem dX6_readsSet_36 : decode cX6_readsSet 36 = .ok (.isub, 1) := by decide +kernel
theorem dX6_readsSet_37 : decode cX6_readsSet 37 = .ok (.i2l, 1) := by decide +kernel
theorem dX6_readsSet_38 : decode cX6_readsSet 38 = .ok (.invokestatic 70, 3) := by decide +kernel
theorem dX6_readsSet_41 : decode cX6_readsSet 41 = .ok (.ifCond .eq 38, 3) := by decide +kernel
theorem dX6_readsSet_44 : decode cX6_readsSet 44 = .ok (.iload_n 1, 1) := by decide +kernel
theorem dX6_readsSet_45 : decode cX6_readsSet 45 = .ok (.iconst 1, 1) := by decide +kernel
theorem dX6_readsSet_46 : decode cX6_readsSet 46 = .ok (.aload_n 0, 1) := by decide +kernel
theorem dX6_readsSet_47 : decode cX6_readsSet 47 = .ok (.invokevirtual 141, 3) := by decide +kernel
theorem dX6_readsSet_50 : decode cX6_readsSet 50 = .ok (.bipush 97, 2) := by decide +kernel
theorem dX6_readsSet_52 : decode cX6_readsSet 52 = .ok (.isub, 1) := by decide +kernel
theorem dX6_readsSet_53 : decode cX6_readsSet 53 = .ok (.ishl, 1) := by decide +kernel
theorem dX6_readsSet_54 : decode cX6_readsSet 54 = .ok (.ior, 1) := by decide +kernel
theorem dX6_readsSet_55 : decode cX6_readsSet 55 = .ok (.istore_n 1, 1) := by decide +kernel
theorem dX6_readsSet_56 : decode cX6_readsSet 56 = .ok (.aload_n 0, 1) := by decide +kernel
theorem dX6_readsSet_57 : decode cX6_readsSet 57 = .ok (.invokevirtual 141, 3) := by decide +kernel
theorem dX6_readsSet_60 : decode cX6_readsSet 60 = .ok (.bipush 97, 2) := by decide +kernel
theorem dX6_readsSet_62 : decode cX6_readsSet 62 = .ok (.isub, 1) := by decide +kernel
theorem dX6_readsSet_63 : decode cX6_readsSet 63 = .ok (.iconst 1, 1) := by decide +kernel
theorem dX6_readsSet_64 : decode cX6_readsSet 64 = .ok (.iadd, 1) := by decide +kernel
theorem dX6_readsSet_65 : decode cX6_readsSet 65 = .ok (.istore_n 2, 1) := by decide +kernel
theorem dX6_readsSet_66 : decode cX6_readsSet 66 = .ok (.aload_n 0, 1) := by decide +kernel
theorem dX6_readsSet_67 : decode cX6_readsSet 67 = .ok (.dup, 1) := by decide +kernel
theorem dX6_readsSet_68 : decode cX6_readsSet 68 = .ok (.getfield 138, 3) := by decide +kernel
theorem dX6_readsSet_71 : decode cX6_readsSet 71 = .ok (.iconst 1, 1) := by decide +kernel
theorem dX6_readsSet_72 : decode cX6_readsSet 72 = .ok (.iadd, 1) := by decide +kernel
theorem dX6_readsSet_73 : decode cX6_readsSet 73 = .ok (.putfield 138, 3) := by decide +kernel
theorem dX6_readsSet_76 : decode cX6_readsSet 76 = .ok (.goto (-72), 3) := by decide +kernel
theorem dX6_readsSet_79 : decode cX6_readsSet 79 = .ok (.iload_n 1, 1) := by decide +kernel
theorem dX6_readsSet_80 : decode cX6_readsSet 80 = .ok (.ireturn, 1) := by decide +kernel
set_option maxRecDepth 20000 in
theorem ggX6_readsPart_X6_readsSet : GoodIn wsX6_readsPart wsX6_readsSet := goodIn_r _ [11, 12, 13, 2, 14, 15, 16, 10, 17, 6, 18, 19, 20, 21, 22, 23, 24, 25, 26, 32, 33, 34, 35, 36, 37, 38, 39, 40, 41, 42, 43, 44, 45, 46, 47] (by decide +kernel) (by decide +kernel)
set_option maxRecDepth 20000 in
theorem gX6_readsPart_X6_readsSet : GoodIn wsX6_readsPart (wsV RX6 152 RX6 yX6_readsSet wsX6_readsSet) := goodIn_app (goodIn_of _ (by decide +kernel)) ggX6_readsPart_X6_readsSet
set_option maxRecDepth 20000 in
theorem ggX6_readsPart_X6_here : GoodIn wsX6_readsPart wsX6_here := goodIn_r _ [17, 2, 6, 18, 32, 33, 34, 35, 36, 37, 38, 39, 40, 41, 42, 43, 44, 45, 46, 47] (by decide +kernel) (by decide +kernel)
set_option maxRecDepth 20000 in
theorem gX6_readsPart_X6_here : GoodIn wsX6_readsPart (wsV RX6 141 RX6 yX6_here wsX6_here) := goodIn_app (goodIn_of _ (by decide +kernel)) ggX6_readsPart_X6_here
set_option maxRecDepth 20000 in
theorem ggX6_readsPart_X6_isFigure : GoodIn wsX6_readsPart wsX6_isFigure := goodIn_r _ [30, 4, 31, 14, 15, 16, 10, 17, 2, 6, 18, 19, 20, 21, 32, 33, 34, 35, 36, 37, 38, 39, 40, 41, 42, 43, 44, 45, 46, 47] (by decide +kernel) (by decide +kernel)
set_option maxRecDepth 20000 in
theorem gX6_readsPart_X6_isFigure : GoodIn wsX6_readsPart (wsV RX6 155 RX6 yX6_isFigure wsX6_isFigure) := goodIn_app (goodIn_of _ (by decide +kernel)) ggX6_readsPart_X6_isFigure
theorem dX6_readsPart_0 : decode cX6_readsPart 0 = .ok (.aload_n 0, 1) := by decide +kernel
theorem dX6_readsPart_1 : decode cX6_readsPart 1 = .ok (.getfield 28, 3) := by decide +kernel
theorem dX6_readsPart_4 : decode cX6_readsPart 4 = .ok (.iload_n 1, 1) := by decide +kernel
theorem dX6_readsPart_5 : decode cX6_readsPart 5 = .ok (.aload_n 0, 1) := by decide +kernel
theorem dX6_readsPart_6 : decode cX6_readsPart 6 = .ok (.invokevirtual 152, 3) := by decide +kernel
theorem dX6_readsPart_9 : decode cX6_readsPart 9 = .ok (.iastore, 1) := by decide +kernel
theorem dX6_readsPart_10 : decode cX6_readsPart 10 = .ok (.aload_n 0, 1) := by decide +kernel
theorem dX6_readsPart_11 : decode cX6_readsPart 11 = .ok (.getfield 28, 3) := by decide +kernel
theorem dX6_readsPart_14 : decode cX6_readsPart 14 = .ok (.iload_n 1, 1) := by decide +kernel
theorem dX6_readsPart_15 : decode cX6_readsPart 15 = .ok (.iaload, 1) := by decide +kernel
theorem dX6_readsPart_16 : decode cX6_readsPart 16 = .ok (.ifCond .eq 12, 3) := by decide +kernel
theorem dX6_readsPart_19 : decode cX6_readsPart 19 = .ok (.aload_n 0, 1) := by decide +kernel
theorem dX6_readsPart_20 : decode cX6_readsPart 20 = .ok (.invokevirtual 141, 3) := by decide +kernel
theorem dX6_readsPart_23 : decode cX6_readsPart 23 = .ok (.bipush 61, 2) := by decide +kernel
theorem dX6_readsPart_25 : decode cX6_readsPart 25 = .ok (.if_icmp .eq 5, 3) := by decide +kernel
theorem dX6_readsPart_28 : decode cX6_readsPart 28 = .ok (.iconst 0, 1) := by decide +kernel
theorem dX6_readsPart_29 : decode cX6_readsPart 29 = .ok (.ireturn, 1) := by decide +kernel
theorem dX6_readsPart_30 : decode cX6_readsPart 30 = .ok (.aload_n 0, 1) := by decide +kernel
theorem dX6_readsPart_31 : decode cX6_readsPart 31 = .ok (.dup, 1) := by decide +kernel
theorem dX6_readsPart_32 : decode cX6_readsPart 32 = .ok (.getfield 138, 3) := by decide +kernel
theorem dX6_readsPart_35 : decode cX6_readsPart 35 = .ok (.iconst 1, 1) := by decide +kernel
theorem dX6_readsPart_36 : decode cX6_readsPart 36 = .ok (.iadd, 1) := by decide +kernel
theorem dX6_readsPart_37 : decode cX6_readsPart 37 = .ok (.putfield 138, 3) := by decide +kernel
theorem dX6_readsPart_40 : decode cX6_readsPart 40 = .ok (.aload_n 0, 1) := by decide +kernel
theorem dX6_readsPart_41 : decode cX6_readsPart 41 = .ok (.invokevirtual 141, 3) := by decide +kernel
theorem dX6_readsPart_44 : decode cX6_readsPart 44 = .ok (.bipush 45, 2) := by decide +kernel
theorem dX6_readsPart_46 : decode cX6_readsPart 46 = .ok (.if_icmp .ne 7, 3) := by decide +kernel
theorem dX6_readsPart_49 : decode cX6_readsPart 49 = .ok (.iconst 1, 1) := by decide +kernel
theorem dX6_readsPart_50 : decode cX6_readsPart 50 = .ok (.goto 4, 3) := by decide +kernel
theorem dX6_readsPart_53 : decode cX6_readsPart 53 = .ok (.iconst 0, 1) := by decide +kernel
theorem dX6_readsPart_54 : decode cX6_readsPart 54 = .ok (.istore_n 2, 1) := by decide +kernel
theorem dX6_readsPart_55 : decode cX6_readsPart 55 = .ok (.iload_n 2, 1) := by decide +kernel
theorem dX6_readsPart_56 : decode cX6_readsPart 56 = .ok (.ifCond .eq 13, 3) := by decide +kernel
theorem dX6_readsPart_59 : decode cX6_readsPart 59 = .ok (.aload_n 0, 1) := by decide +kernel
theorem dX6_readsPart_60 : decode cX6_readsPart 60 = .ok (.dup, 1) := by decide +kernel
theorem dX6_readsPart_61 : decode cX6_readsPart 61 = .ok (.getfield 138, 3) := by decide +kernel
theorem dX6_readsPart_64 : decode cX6_readsPart 64 = .ok (.iconst 1, 1) := by decide +kernel
theorem dX6_readsPart_65 : decode cX6_readsPart 65 = .ok (.iadd, 1) := by decide +kernel
theorem dX6_readsPart_66 : decode cX6_readsPart 66 = .ok (.putfield 138, 3) := by decide +kernel
theorem dX6_readsPart_69 : decode cX6_readsPart 69 = .ok (.aload_n 0, 1) := by decide +kernel
theorem dX6_readsPart_70 : decode cX6_readsPart 70 = .ok (.invokevirtual 155, 3) := by decide +kernel
theorem dX6_readsPart_73 : decode cX6_readsPart 73 = .ok (.ifCond .ne 5, 3) := by decide +kernel
theorem dX6_readsPart_76 : decode cX6_readsPart 76 = .ok (.iconst 0, 1) := by decide +kernel
theorem dX6_readsPart_77 : decode cX6_readsPart 77 = .ok (.ireturn, 1) := by decide +kernel
theorem dX6_readsPart_78 : decode cX6_readsPart 78 = .ok (.lconst 0, 1) := by decide +kernel
theorem dX6_readsPart_79 : decode cX6_readsPart 79 = .ok (.lstore_n 3, 1) := by decide +kernel
theorem dX6_readsPart_80 : decode cX6_readsPart 80 = .ok (.iconst 0, 1) := by decide +kernel
theorem dX6_readsPart_81 : decode cX6_readsPart 81 = .ok (.istore 5, 2) := by decide +kernel
theorem dX6_readsPart_83 : decode cX6_readsPart 83 = .ok (.iload 5, 2) := by decide +kernel
theorem dX6_readsPart_85 : decode cX6_readsPart 85 = .ok (.bipush 9, 2) := by decide +kernel
theorem dX6_readsPart_87 : decode cX6_readsPart 87 = .ok (.if_icmp .ge 42, 3) := by decide +kernel
theorem dX6_readsPart_90 : decode cX6_readsPart 90 = .ok (.aload_n 0, 1) := by decide +kernel
theorem dX6_readsPart_91 : decode cX6_readsPart 91 = .ok (.invokevirtual 155, 3) := by decide +kernel
theorem dX6_readsPart_94 : decode cX6_readsPart 94 = .ok (.ifCond .eq 35, 3) := by decide +kernel
theorem dX6_readsPart_97 : decode cX6_readsPart 97 = .ok (.ldc2_w 159, 3) := by decide +kernel
theorem dX6_readsPart_100 : decode cX6_readsPart 100 = .ok (.lload_n 3, 1) := by decide +kernel
theorem dX6_readsPart_101 : decode cX6_readsPart 101 = .ok (.lmul, 1) := by decide +kernel
theorem dX6_readsPart_102 : decode cX6_readsPart 102 = .ok (.aload_n 0, 1) := by decide +kernel
theorem dX6_readsPart_103 : decode cX6_readsPart 103 = .ok (.invokevirtual 141, 3) := by decide +kernel
theorem dX6_readsPart_106 : decode cX6_readsPart 106 = .ok (.i2l, 1) := by decide +kernel
theorem dX6_readsPart_107 : decode cX6_readsPart 107 = .ok (.ladd, 1) := by decide +kernel
theorem dX6_readsPart_108 : decode cX6_readsPart 108 = .ok (.ldc2_w 144, 3) := by decide +kernel
theorem dX6_readsPart_111 : decode cX6_readsPart 111 = .ok (.lsub, 1) := by decide +kernel
theorem dX6_readsPart_112 : decode cX6_readsPart 112 = .ok (.lstore_n 3, 1) := by decide +kernel
theorem dX6_readsPart_113 : decode cX6_readsPart 113 = .ok (.aload_n 0, 1) := by decide +kernel
theorem dX6_readsPart_114 : decode cX6_readsPart 114 = .ok (.dup, 1) := by decide +kernel
theorem dX6_readsPart_115 : decode cX6_readsPart 115 = .ok (.getfield 138, 3) := by decide +kernel
theorem dX6_readsPart_118 : decode cX6_readsPart 118 = .ok (.iconst 1, 1) := by decide +kernel
theorem dX6_readsPart_119 : decode cX6_readsPart 119 = .ok (.iadd, 1) := by decide +kernel
theorem dX6_readsPart_120 : decode cX6_readsPart 120 = .ok (.putfield 138, 3) := by decide +kernel
theorem dX6_readsPart_123 : decode cX6_readsPart 123 = .ok (.iinc 5 1, 3) := by decide +kernel
theorem dX6_readsPart_126 : decode cX6_readsPart 126 = .ok (.goto (-43), 3) := by decide +kernel
theorem dX6_readsPart_129 : decode cX6_readsPart 129 = .ok (.aload_n 0, 1) := by decide +kernel
theorem dX6_readsPart_130 : decode cX6_readsPart 130 = .ok (.getfield 31, 3) := by decide +kernel
theorem dX6_readsPart_133 : decode cX6_readsPart 133 = .ok (.iload_n 1, 1) := by decide +kernel
theorem dX6_readsPart_134 : decode cX6_readsPart 134 = .ok (.iload_n 2, 1) := by decide +kernel
theorem dX6_readsPart_135 : decode cX6_readsPart 135 = .ok (.ifCond .eq 8, 3) := by decide +kernel
theorem dX6_readsPart_138 : decode cX6_readsPart 138 = .ok (.lload_n 3, 1) := by decide +kernel
theorem dX6_readsPart_139 : decode cX6_readsPart 139 = .ok (.lneg, 1) := by decide +kernel
theorem dX6_readsPart_140 : decode cX6_readsPart 140 = .ok (.goto 4, 3) := by decide +kernel
theorem dX6_readsPart_143 : decode cX6_readsPart 143 = .ok (.lload_n 3, 1) := by decide +kernel
theorem dX6_readsPart_144 : decode cX6_readsPart 144 = .ok (.lastore, 1) := by decide +kernel
theorem dX6_readsPart_145 : decode cX6_readsPart 145 = .ok (.aload_n 0, 1) := by decide +kernel
theorem dX6_readsPart_146 : decode cX6_readsPart 146 = .ok (.getfield 138, 3) := by decide +kernel
theorem dX6_readsPart_149 : decode cX6_readsPart 149 = .ok (.aload_n 0, 1) := by decide +kernel
theorem dX6_readsPart_150 : decode cX6_readsPart 150 = .ok (.getfield 134, 3) := by decide +kernel
theorem dX6_readsPart_153 : decode cX6_readsPart 153 = .ok (.if_icmp .eq 12, 3) := by decide +kernel
theorem dX6_readsPart_156 : decode cX6_readsPart 156 = .ok (.aload_n 0, 1) := by decide +kernel
theorem dX6_readsPart_157 : decode cX6_readsPart 157 = .ok (.invokevirtual 141, 3) := by decide +kernel
theorem dX6_readsPart_160 : decode cX6_readsPart 160 = .ok (.bipush 59, 2) := by decide +kernel
theorem dX6_readsPart_162 : decode cX6_readsPart 162 = .ok (.if_icmp .ne 7, 3) := by decide +kernel
theorem dX6_readsPart_165 : decode cX6_readsPart 165 = .ok (.iconst 1, 1) := by decide +kernel
theorem dX6_readsPart_166 : decode cX6_readsPart 166 = .ok (.goto 4, 3) := by decide +kernel
theorem dX6_readsPart_169 : decode cX6_readsPart 169 = .ok (.iconst 0, 1) := by decide +kernel
theorem dX6_readsPart_170 : decode cX6_readsPart 170 = .ok (.ireturn, 1) := by decide +kernel
set_option maxRecDepth 20000 in
theorem ggX6_read_X6_isGame : GoodIn wsX6_read wsX6_isGame := goodIn_r _ [9, 10, 11, 12, 8, 13] (by decide +kernel) (by decide +kernel)
set_option maxRecDepth 20000 in
theorem gX6_read_X6_isGame : GoodIn wsX6_read (va_wsS RX6 85 yX6_isGame wsX6_isGame) := goodIn_app (goodIn_of _ (by decide +kernel)) ggX6_read_X6_isGame
set_option maxRecDepth 20000 in
theorem ggX6_read_X6_readsPart : GoodIn wsX6_read wsX6_readsPart := goodIn_r _ [17, 4, 1, 18, 19, 5, 2, 20, 21, 22, 8, 23, 24, 25, 26, 27, 28, 29, 30, 11, 12, 13, 31, 32, 33, 34, 3, 35, 36, 37, 38, 39, 40, 41, 42, 43, 44, 45, 46, 47, 48, 49, 50, 51, 52, 53, 54, 55] (by decide +kernel) (by decide +kernel)
set_option maxRecDepth 20000 in
theorem gX6_read_X6_readsPart : GoodIn wsX6_read (wsV RX6 161 RX6 yX6_readsPart wsX6_readsPart) := goodIn_app (goodIn_of _ (by decide +kernel)) ggX6_read_X6_readsPart
set_option maxRecDepth 20000 in
theorem ggX6_read_X6_here : GoodIn wsX6_read wsX6_here := goodIn_r _ [29, 1, 2, 30, 40, 41, 42, 43, 44, 45, 46, 47, 48, 49, 50, 51, 52, 53, 54, 55] (by decide +kernel) (by decide +kernel)
set_option maxRecDepth 20000 in
theorem gX6_read_X6_here : GoodIn wsX6_read (wsV RX6 141 RX6 yX6_here wsX6_here) := goodIn_app (goodIn_of _ (by decide +kernel)) ggX6_read_X6_here
theorem dX6_read_0 : decode cX6_read 0 = .ok (.iload_n 1, 1) := by decide +kernel
theorem dX6_read_1 : decode cX6_read 1 = .ok (.invokestatic 85, 3) := by decide +kernel
theorem dX6_read_4 : decode cX6_read 4 = .ok (.ifCond .ne 5, 3) := by decide +kernel
theorem dX6_read_7 : decode cX6_read 7 = .ok (.iconst (-1), 1) := by decide +kernel
theorem dX6_read_8 : decode cX6_read 8 = .ok (.ireturn, 1) := by decide +kernel
theorem dX6_read_9 : decode cX6_read 9 = .ok (.aload_n 0, 1) := by decide +kernel
theorem dX6_read_10 : decode cX6_read 10 = .ok (.iconst 0, 1) := by decide +kernel
theorem dX6_read_11 : decode cX6_read 11 = .ok (.putfield 138, 3) := by decide +kernel
theorem dX6_read_14 : decode cX6_read 14 = .ok (.iconst 0, 1) := by decide +kernel
theorem dX6_read_15 : decode cX6_read 15 = .ok (.istore_n 2, 1) := by decide +kernel
theorem dX6_read_16 : decode cX6_read 16 = .ok (.aload_n 0, 1) := by decide +kernel
theorem dX6_read_17 : decode cX6_read 17 = .ok (.iconst 0, 1) := by decide +kernel
theorem dX6_read_18 : decode cX6_read 18 = .ok (.invokevirtual 161, 3) := by decide +kernel
theorem dX6_read_21 : decode cX6_read 21 = .ok (.istore_n 3, 1) := by decide +kernel
theorem dX6_read_22 : decode cX6_read 22 = .ok (.iload_n 3, 1) := by decide +kernel
theorem dX6_read_23 : decode cX6_read 23 = .ok (.ifCond .eq 34, 3) := by decide +kernel
theorem dX6_read_26 : decode cX6_read 26 = .ok (.aload_n 0, 1) := by decide +kernel
theorem dX6_read_27 : decode cX6_read 27 = .ok (.invokevirtual 141, 3) := by decide +kernel
theorem dX6_read_30 : decode cX6_read 30 = .ok (.bipush 59, 2) := by decide +kernel
theorem dX6_read_32 : decode cX6_read 32 = .ok (.if_icmp .ne 25, 3) := by decide +kernel
theorem dX6_read_35 : decode cX6_read 35 = .ok (.aload_n 0, 1) := by decide +kernel
theorem dX6_read_36 : decode cX6_read 36 = .ok (.dup, 1) := by decide +kernel
theorem dX6_read_37 : decode cX6_read 37 = .ok (.getfield 138, 3) := by decide +kernel
theorem dX6_read_40 : decode cX6_read 40 = .ok (.iconst 1, 1) := by decide +kernel
theorem dX6_read_41 : decode cX6_read 41 = .ok (.iadd, 1) := by decide +kernel
theorem dX6_read_42 : decode cX6_read 42 = .ok (.putfield 138, 3) := by decide +kernel
theorem dX6_read_45 : decode cX6_read 45 = .ok (.iinc 2 1, 3) := by decide +kernel
theorem dX6_read_48 : decode cX6_read 48 = .ok (.aload_n 0, 1) := by decide +kernel
theorem dX6_read_49 : decode cX6_read 49 = .ok (.iload_n 2, 1) := by decide +kernel
theorem dX6_read_50 : decode cX6_read 50 = .ok (.invokevirtual 161, 3) := by decide +kernel
theorem dX6_read_53 : decode cX6_read 53 = .ok (.istore_n 3, 1) := by decide +kernel
theorem dX6_read_54 : decode cX6_read 54 = .ok (.goto (-32), 3) := by decide +kernel
theorem dX6_read_57 : decode cX6_read 57 = .ok (.aload_n 0, 1) := by decide +kernel
theorem dX6_read_58 : decode cX6_read 58 = .ok (.iconst 0, 1) := by decide +kernel
theorem dX6_read_59 : decode cX6_read 59 = .ok (.putfield 134, 3) := by decide +kernel
theorem dX6_read_62 : decode cX6_read 62 = .ok (.iload_n 3, 1) := by decide +kernel
theorem dX6_read_63 : decode cX6_read 63 = .ok (.ifCond .ne 11, 3) := by decide +kernel
theorem dX6_read_66 : decode cX6_read 66 = .ok (.bipush (-100), 2) := by decide +kernel
theorem dX6_read_68 : decode cX6_read 68 = .ok (.aload_n 0, 1) := by decide +kernel
theorem dX6_read_69 : decode cX6_read 69 = .ok (.getfield 138, 3) := by decide +kernel
theorem dX6_read_72 : decode cX6_read 72 = .ok (.isub, 1) := by decide +kernel
theorem dX6_read_73 : decode cX6_read 73 = .ok (.ireturn, 1) := by decide +kernel
theorem dX6_read_74 : decode cX6_read 74 = .ok (.iconst 0, 1) := by decide +kernel
theorem dX6_read_75 : decode cX6_read 75 = .ok (.istore 4, 2) := by decide +kernel
theorem dX6_read_77 : decode cX6_read 77 = .ok (.iload 4, 2) := by decide +kernel
theorem dX6_read_79 : decode cX6_read 79 = .ok (.iload_n 2, 1) := by decide +kernel
theorem dX6_read_80 : decode cX6_read 80 = .ok (.if_icmp .gt 38, 3) := by decide +kernel
theorem dX6_read_83 : decode cX6_read 83 = .ok (.aload_n 0, 1) := by decide +kernel
theorem dX6_read_84 : decode cX6_read 84 = .ok (.getfield 11, 3) := by decide +kernel
theorem dX6_read_87 : decode cX6_read 87 = .ok (.sipush 183, 3) := by decide +kernel
theorem dX6_read_90 : decode cX6_read 90 = .ok (.sipush 512, 3) := by decide +kernel
theorem dX6_read_93 : decode cX6_read 93 = .ok (.iload_n 1, 1) := by decide +kernel
theorem dX6_read_94 : decode cX6_read 94 = .ok (.imul, 1) := by decide +kernel
theorem dX6_read_95 : decode cX6_read 95 = .ok (.iadd, 1) := by decide +kernel
theorem dX6_read_96 : decode cX6_read 96 = .ok (.aload_n 0, 1) := by decide +kernel
theorem dX6_read_97 : decode cX6_read 97 = .ok (.getfield 28, 3) := by decide +kernel
theorem dX6_read_100 : decode cX6_read 100 = .ok (.iload 4, 2) := by decide +kernel
theorem dX6_read_102 : decode cX6_read 102 = .ok (.iaload, 1) := by decide +kernel
theorem dX6_read_103 : decode cX6_read 103 = .ok (.iadd, 1) := by decide +kernel
theorem dX6_read_104 : decode cX6_read 104 = .ok (.aload_n 0, 1) := by decide +kernel
theorem dX6_read_105 : decode cX6_read 105 = .ok (.getfield 31, 3) := by decide +kernel
theorem dX6_read_108 : decode cX6_read 108 = .ok (.iload 4, 2) := by decide +kernel
theorem dX6_read_110 : decode cX6_read 110 = .ok (.laload, 1) := by decide +kernel
theorem dX6_read_111 : decode cX6_read 111 = .ok (.lastore, 1) := by decide +kernel
theorem dX6_read_112 : decode cX6_read 112 = .ok (.iinc 4 1, 3) := by decide +kernel
theorem dX6_read_115 : decode cX6_read 115 = .ok (.goto (-38), 3) := by decide +kernel
theorem dX6_read_118 : decode cX6_read 118 = .ok (.iload_n 2, 1) := by decide +kernel
theorem dX6_read_119 : decode cX6_read 119 = .ok (.iconst 1, 1) := by decide +kernel
theorem dX6_read_120 : decode cX6_read 120 = .ok (.iadd, 1) := by decide +kernel
theorem dX6_read_121 : decode cX6_read 121 = .ok (.ireturn, 1) := by decide +kernel
set_option maxRecDepth 20000 in
theorem ggX6_weighs_X6_n : GoodIn wsX6_weighs wsX6_n := goodIn_r _ [6, 1, 10, 11, 12, 13, 14, 15, 16, 17, 18, 19, 20, 21, 22, 23, 24, 25] (by decide +kernel) (by decide +kernel)
set_option maxRecDepth 20000 in
theorem gX6_weighs_X6_n : GoodIn wsX6_weighs (wsV RX6 66 RX6 yX6_n wsX6_n) := goodIn_app (goodIn_of _ (by decide +kernel)) ggX6_weighs_X6_n
set_option maxRecDepth 20000 in
theorem ggX6_weighs_X6_has : GoodIn wsX6_weighs wsX6_has := goodIn_r _ [9] (by decide +kernel) (by decide +kernel)
set_option maxRecDepth 20000 in
theorem gX6_weighs_X6_has : GoodIn wsX6_weighs (va_wsS RX6 164 yX6_has wsX6_has) := goodIn_app (goodIn_of _ (by decide +kernel)) ggX6_weighs_X6_has
theorem dX6_weighs_0 : decode cX6_weighs 0 = .ok (.lconst 0, 1) := by decide +kernel
theorem dX6_weighs_1 : decode cX6_weighs 1 = .ok (.lstore_n 2, 1) := by decide +kernel
theorem dX6_weighs_2 : decode cX6_weighs 2 = .ok (.iconst 0, 1) := by decide +kernel
theorem dX6_weighs_3 : decode cX6_weighs 3 = .ok (.istore 4, 2) := by decide +kernel
theorem dX6_weighs_5 : decode cX6_weighs 5 = .ok (.iload 4, 2) := by decide +kernel
theorem dX6_weighs_7 : decode cX6_weighs 7 = .ok (.aload_n 0, 1) := by decide +kernel
theorem dX6_weighs_8 : decode cX6_weighs 8 = .ok (.invokevirtual 66, 3) := by decide +kernel
theorem dX6_weighs_11 : decode cX6_weighs 11 = .ok (.if_icmp .ge 34, 3) := by decide +kernel
theorem dX6_weighs_14 : decode cX6_weighs 14 = .ok (.lload_n 2, 1) := by decide +kernel
theorem dX6_weighs_15 : decode cX6_weighs 15 = .ok (.iload_n 1, 1) := by decide +kernel
theorem dX6_weighs_16 : decode cX6_weighs 16 = .ok (.iload 4, 2) := by decide +kernel
theorem dX6_weighs_18 : decode cX6_weighs 18 = .ok (.invokestatic 164, 3) := by decide +kernel
theorem dX6_weighs_21 : decode cX6_weighs 21 = .ok (.ifCond .eq 15, 3) := by decide +kernel
theorem dX6_weighs_24 : decode cX6_weighs 24 = .ok (.aload_n 0, 1) := by decide +kernel
theorem dX6_weighs_25 : decode cX6_weighs 25 = .ok (.getfield 11, 3) := by decide +kernel
theorem dX6_weighs_28 : decode cX6_weighs 28 = .ok (.iconst 3, 1) := by decide +kernel
theorem dX6_weighs_29 : decode cX6_weighs 29 = .ok (.iload 4, 2) := by decide +kernel
theorem dX6_weighs_31 : decode cX6_weighs 31 = .ok (.iadd, 1) := by decide +kernel
theorem dX6_weighs_32 : decode cX6_weighs 32 = .ok (.laload, 1) := by decide +kernel
theorem dX6_weighs_33 : decode cX6_weighs 33 = .ok (.goto 4, 3) := by decide +kernel
theorem dX6_weighs_36 : decode cX6_weighs 36 = .ok (.lconst 0, 1) := by decide +kernel
theorem dX6_weighs_37 : decode cX6_weighs 37 = .ok (.ladd, 1) := by decide +kernel
theorem dX6_weighs_38 : decode cX6_weighs 38 = .ok (.lstore_n 2, 1) := by decide +kernel
theorem dX6_weighs_39 : decode cX6_weighs 39 = .ok (.iinc 4 1, 3) := by decide +kernel
theorem dX6_weighs_42 : decode cX6_weighs 42 = .ok (.goto (-37), 3) := by decide +kernel
theorem dX6_weighs_45 : decode cX6_weighs 45 = .ok (.lload_n 2, 1) := by decide +kernel
theorem dX6_weighs_46 : decode cX6_weighs 46 = .ok (.lreturn, 1) := by decide +kernel
set_option maxRecDepth 20000 in
theorem ggX6_wins_X6_weighs : GoodIn wsX6_wins wsX6_weighs := goodIn_r _ [6, 1, 7, 8, 9, 5, 10, 11, 12, 13, 14, 15, 16, 17, 18, 19, 20, 21, 22, 23, 24, 25, 26, 27, 28, 29] (by decide +kernel) (by decide +kernel)
set_option maxRecDepth 20000 in
theorem gX6_wins_X6_weighs : GoodIn wsX6_wins (wsV RX6 167 RX6 yX6_weighs wsX6_weighs) := goodIn_app (goodIn_of _ (by decide +kernel)) ggX6_wins_X6_weighs
theorem dX6_wins_0 : decode cX6_wins 0 = .ok (.aload_n 0, 1) := by decide +kernel
theorem dX6_wins_1 : decode cX6_wins 1 = .ok (.iload_n 1, 1) := by decide +kernel
theorem dX6_wins_2 : decode cX6_wins 2 = .ok (.invokevirtual 167, 3) := by decide +kernel
theorem dX6_wins_5 : decode cX6_wins 5 = .ok (.aload_n 0, 1) := by decide +kernel
theorem dX6_wins_6 : decode cX6_wins 6 = .ok (.getfield 11, 3) := by decide +kernel
theorem dX6_wins_9 : decode cX6_wins 9 = .ok (.iconst 1, 1) := by decide +kernel
theorem dX6_wins_10 : decode cX6_wins 10 = .ok (.laload, 1) := by decide +kernel
theorem dX6_wins_11 : decode cX6_wins 11 = .ok (.lcmp, 1) := by decide +kernel
theorem dX6_wins_12 : decode cX6_wins 12 = .ok (.ifCond .lt 7, 3) := by decide +kernel
theorem dX6_wins_15 : decode cX6_wins 15 = .ok (.iconst 1, 1) := by decide +kernel
theorem dX6_wins_16 : decode cX6_wins 16 = .ok (.goto 4, 3) := by decide +kernel
theorem dX6_wins_19 : decode cX6_wins 19 = .ok (.iconst 0, 1) := by decide +kernel
theorem dX6_wins_20 : decode cX6_wins 20 = .ok (.ireturn, 1) := by decide +kernel
set_option maxRecDepth 20000 in
theorem ggX6_edgesIn_X6_n : GoodIn wsX6_edgesIn wsX6_n := goodIn_r _ [6, 1, 20, 21, 22, 23, 24, 25, 26, 27, 28, 29, 30, 31, 32, 33, 34, 35] (by decide +kernel) (by decide +kernel)
set_option maxRecDepth 20000 in
theorem gX6_edgesIn_X6_n : GoodIn wsX6_edgesIn (wsV RX6 66 RX6 yX6_n wsX6_n) := goodIn_app (goodIn_of _ (by decide +kernel)) ggX6_edgesIn_X6_n
set_option maxRecDepth 20000 in
theorem ggX6_edgesIn_X6_has : GoodIn wsX6_edgesIn wsX6_has := goodIn_r _ [9] (by decide +kernel) (by decide +kernel)
set_option maxRecDepth 20000 in
theorem gX6_edgesIn_X6_has : GoodIn wsX6_edgesIn (va_wsS RX6 164 yX6_has wsX6_has) := goodIn_app (goodIn_of _ (by decide +kernel)) ggX6_edgesIn_X6_has
set_option maxRecDepth 20000 in
theorem ggX6_edgesIn_X6_edgeOf : GoodIn wsX6_edgesIn wsX6_edgeOf := goodIn_r _ [12, 13, 14, 15, 16, 17, 18, 19] (by decide +kernel) (by decide +kernel)
set_option maxRecDepth 20000 in
theorem gX6_edgesIn_X6_edgeOf : GoodIn wsX6_edgesIn (va_wsS RX6 122 yX6_edgeOf wsX6_edgeOf) := goodIn_app (goodIn_of _ (by decide +kernel)) ggX6_edgesIn_X6_edgeOf
theorem dX6_edgesIn_0 : decode cX6_edgesIn 0 = .ok (.lconst 0, 1) := by decide +kernel
theorem dX6_edgesIn_1 : decode cX6_edgesIn 1 = .ok (.lstore_n 2, 1) := by decide +kernel
theorem dX6_edgesIn_2 : decode cX6_edgesIn 2 = .ok (.iconst 0, 1) := by decide +kernel
theorem dX6_edgesIn_3 : decode cX6_edgesIn 3 = .ok (.istore 4, 2) := by decide +kernel
theorem dX6_edgesIn_5 : decode cX6_edgesIn 5 = .ok (.iload 4, 2) := by decide +kernel
theorem dX6_edgesIn_7 : decode cX6_edgesIn 7 = .ok (.aload_n 0, 1) := by decide +kernel
theorem dX6_edgesIn_8 : decode cX6_edgesIn 8 = .ok (.invokevirtual 66, 3) := by decide +kernel
theorem dX6_edgesIn_11 : decode cX6_edgesIn 11 = .ok (.if_icmp .ge 86, 3) := by decide +kernel
theorem dX6_edgesIn_14 : decode cX6_edgesIn 14 = .ok (.iload 4, 2) := by decide +kernel
theorem dX6_edgesIn_16 : decode cX6_edgesIn 16 = .ok (.iconst 1, 1) := by decide +kernel
theorem dX6_edgesIn_17 : decode cX6_edgesIn 17 = .ok (.iadd, 1) := by decide +kernel
theorem dX6_edgesIn_18 : decode cX6_edgesIn 18 = .ok (.istore 5, 2) := by decide +kernel
theorem dX6_edgesIn_20 : decode cX6_edgesIn 20 = .ok (.iload 5, 2) := by decide +kernel
theorem dX6_edgesIn_22 : decode cX6_edgesIn 22 = .ok (.aload_n 0, 1) := by decide +kernel
theorem dX6_edgesIn_23 : decode cX6_edgesIn 23 = .ok (.invokevirtual 66, 3) := by decide +kernel
theorem dX6_edgesIn_26 : decode cX6_edgesIn 26 = .ok (.if_icmp .ge 65, 3) := by decide +kernel
theorem dX6_edgesIn_29 : decode cX6_edgesIn 29 = .ok (.iload_n 1, 1) := by decide +kernel
theorem dX6_edgesIn_30 : decode cX6_edgesIn 30 = .ok (.iload 4, 2) := by decide +kernel
theorem dX6_edgesIn_32 : decode cX6_edgesIn 32 = .ok (.invokestatic 164, 3) := by decide +kernel
theorem dX6_edgesIn_35 : decode cX6_edgesIn 35 = .ok (.ifCond .eq 50, 3) := by decide +kernel
theorem dX6_edgesIn_38 : decode cX6_edgesIn 38 = .ok (.iload_n 1, 1) := by decide +kernel
theorem dX6_edgesIn_39 : decode cX6_edgesIn 39 = .ok (.iload 5, 2) := by decide +kernel
theorem dX6_edgesIn_41 : decode cX6_edgesIn 41 = .ok (.invokestatic 164, 3) := by decide +kernel
theorem dX6_edgesIn_44 : decode cX6_edgesIn 44 = .ok (.ifCond .eq 41, 3) := by decide +kernel
theorem dX6_edgesIn_47 : decode cX6_edgesIn 47 = .ok (.aload_n 0, 1) := by decide +kernel
theorem dX6_edgesIn_48 : decode cX6_edgesIn 48 = .ok (.getfield 11, 3) := by decide +kernel
theorem dX6_edgesIn_51 : decode cX6_edgesIn 51 = .ok (.bipush 21, 2) := by decide +kernel
theorem dX6_edgesIn_53 : decode cX6_edgesIn 53 = .ok (.iload 4, 2) := by decide +kernel
theorem dX6_edgesIn_55 : decode cX6_edgesIn 55 = .ok (.iload 5, 2) := by decide +kernel
theorem dX6_edgesIn_57 : decode cX6_edgesIn 57 = .ok (.invokestatic 122, 3) := by decide +kernel
theorem dX6_edgesIn_60 : decode cX6_edgesIn 60 = .ok (.iadd, 1) := by decide +kernel
theorem dX6_edgesIn_61 : decode cX6_edgesIn 61 = .ok (.laload, 1) := by decide +kernel
theorem dX6_edgesIn_62 : decode cX6_edgesIn 62 = .ok (.lconst 1, 1) := by decide +kernel
theorem dX6_edgesIn_63 : decode cX6_edgesIn 63 = .ok (.lcmp, 1) := by decide +kernel
theorem dX6_edgesIn_64 : decode cX6_edgesIn 64 = .ok (.ifCond .ne 21, 3) := by decide +kernel
theorem dX6_edgesIn_67 : decode cX6_edgesIn 67 = .ok (.lload_n 2, 1) := by decide +kernel
theorem dX6_edgesIn_68 : decode cX6_edgesIn 68 = .ok (.aload_n 0, 1) := by decide +kernel
theorem dX6_edgesIn_69 : decode cX6_edgesIn 69 = .ok (.getfield 11, 3) := by decide +kernel
theorem dX6_edgesIn_72 : decode cX6_edgesIn 72 = .ok (.bipush 102, 2) := by decide +kernel
theorem dX6_edgesIn_74 : decode cX6_edgesIn 74 = .ok (.iload 4, 2) := by decide +kernel
theorem dX6_edgesIn_76 : decode cX6_edgesIn 76 = .ok (.iload 5, 2) := by decide +kernel
theorem dX6_edgesIn_78 : decode cX6_edgesIn 78 = .ok (.invokestatic 122, 3) := by decide +kernel
theorem dX6_edgesIn_81 : decode cX6_edgesIn 81 = .ok (.iadd, 1) := by decide +kernel
theorem dX6_edgesIn_82 : decode cX6_edgesIn 82 = .ok (.laload, 1) := by decide +kernel
theorem dX6_edgesIn_83 : decode cX6_edgesIn 83 = .ok (.ladd, 1) := by decide +kernel
theorem dX6_edgesIn_84 : decode cX6_edgesIn 84 = .ok (.lstore_n 2, 1) := by decide +kernel
theorem dX6_edgesIn_85 : decode cX6_edgesIn 85 = .ok (.iinc 5 1, 3) := by decide +kernel
theorem dX6_edgesIn_88 : decode cX6_edgesIn 88 = .ok (.goto (-68), 3) := by decide +kernel
theorem dX6_edgesIn_91 : decode cX6_edgesIn 91 = .ok (.iinc 4 1, 3) := by decide +kernel
theorem dX6_edgesIn_94 : decode cX6_edgesIn 94 = .ok (.goto (-89), 3) := by decide +kernel
theorem dX6_edgesIn_97 : decode cX6_edgesIn 97 = .ok (.lload_n 2, 1) := by decide +kernel
theorem dX6_edgesIn_98 : decode cX6_edgesIn 98 = .ok (.lreturn, 1) := by decide +kernel
set_option maxRecDepth 20000 in
theorem ggX6_heaviest_X6_n : GoodIn wsX6_heaviest wsX6_n := goodIn_r _ [10, 1, 14, 15, 16, 17, 18, 19, 20, 21, 22, 23, 24, 25, 26, 27, 28, 29] (by decide +kernel) (by decide +kernel)
set_option maxRecDepth 20000 in
theorem gX6_heaviest_X6_n : GoodIn wsX6_heaviest (wsV RX6 66 RX6 yX6_n wsX6_n) := goodIn_app (goodIn_of _ (by decide +kernel)) ggX6_heaviest_X6_n
set_option maxRecDepth 20000 in
theorem ggX6_heaviest_X6_has : GoodIn wsX6_heaviest wsX6_has := goodIn_r _ [13] (by decide +kernel) (by decide +kernel)
set_option maxRecDepth 20000 in
theorem gX6_heaviest_X6_has : GoodIn wsX6_heaviest (va_wsS RX6 164 yX6_has wsX6_has) := goodIn_app (goodIn_of _ (by decide +kernel)) ggX6_heaviest_X6_has
theorem dX6_heaviest_0 : decode cX6_heaviest 0 = .ok (.lconst 0, 1) := by decide +kernel
theorem dX6_heaviest_1 : decode cX6_heaviest 1 = .ok (.lstore_n 2, 1) := by decide +kernel
theorem dX6_heaviest_2 : decode cX6_heaviest 2 = .ok (.iconst 0, 1) := by decide +kernel
theorem dX6_heaviest_3 : decode cX6_heaviest 3 = .ok (.istore 4, 2) := by decide +kernel
theorem dX6_heaviest_5 : decode cX6_heaviest 5 = .ok (.iload 4, 2) := by decide +kernel
theorem dX6_heaviest_7 : decode cX6_heaviest 7 = .ok (.aload_n 0, 1) := by decide +kernel
theorem dX6_heaviest_8 : decode cX6_heaviest 8 = .ok (.invokevirtual 66, 3) := by decide +kernel
theorem dX6_heaviest_11 : decode cX6_heaviest 11 = .ok (.if_icmp .ge 32, 3) := by decide +kernel
theorem dX6_heaviest_14 : decode cX6_heaviest 14 = .ok (.iload_n 1, 1) := by decide +kernel
theorem dX6_heaviest_15 : decode cX6_heaviest 15 = .ok (.iload 4, 2) := by decide +kernel
theorem dX6_heaviest_17 : decode cX6_heaviest 17 = .ok (.invokestatic 164, 3) := by decide +kernel
theorem dX6_heaviest_20 : decode cX6_heaviest 20 = .ok (.ifCond .eq 17, 3) := by decide +kernel
theorem dX6_heaviest_23 : decode cX6_heaviest 23 = .ok (.lload_n 2, 1) := by decide +kernel
theorem dX6_heaviest_24 : decode cX6_heaviest 24 = .ok (.aload_n 0, 1) := by decide +kernel
theorem dX6_heaviest_25 : decode cX6_heaviest 25 = .ok (.getfield 11, 3) := by decide +kernel
theorem dX6_heaviest_28 : decode cX6_heaviest 28 = .ok (.iconst 3, 1) := by decide +kernel
theorem dX6_heaviest_29 : decode cX6_heaviest 29 = .ok (.iload 4, 2) := by decide +kernel
theorem dX6_heaviest_31 : decode cX6_heaviest 31 = .ok (.iadd, 1) := by decide +kernel
theorem dX6_heaviest_32 : decode cX6_heaviest 32 = .ok (.laload, 1) := by decide +kernel
theorem dX6_heaviest_33 : decode cX6_heaviest 33 = .ok (.invokestatic 171, 3) := by decide +kernel
theorem dX6_heaviest_36 : decode cX6_heaviest 36 = .ok (.lstore_n 2, 1) := by decide +kernel
theorem dX6_heaviest_37 : decode cX6_heaviest 37 = .ok (.iinc 4 1, 3) := by decide +kernel
theorem dX6_heaviest_40 : decode cX6_heaviest 40 = .ok (.goto (-35), 3) := by decide +kernel
theorem dX6_heaviest_43 : decode cX6_heaviest 43 = .ok (.lload_n 2, 1) := by decide +kernel
theorem dX6_heaviest_44 : decode cX6_heaviest 44 = .ok (.lreturn, 1) := by decide +kernel
set_option maxRecDepth 20000 in
theorem ggX6_madeOf_X6_wins : GoodIn wsX6_madeOf wsX6_wins := goodIn_r _ [10, 1, 11, 12, 13, 9, 14, 15, 16, 17, 18, 19, 20, 21, 43, 44, 45, 46, 47, 48, 49, 50, 51, 52, 53, 54, 55, 56, 57, 58] (by decide +kernel) (by decide +kernel)
set_option maxRecDepth 20000 in
theorem gX6_madeOf_X6_wins : GoodIn wsX6_madeOf (wsV RX6 173 RX6 yX6_wins wsX6_wins) := goodIn_app (goodIn_of _ (by decide +kernel)) ggX6_madeOf_X6_wins
set_option maxRecDepth 20000 in
theorem ggX6_madeOf_X6_weighs : GoodIn wsX6_madeOf wsX6_weighs := goodIn_r _ [14, 1, 15, 16, 17, 9, 18, 19, 20, 21, 43, 44, 45, 46, 47, 48, 49, 50, 51, 52, 53, 54, 55, 56, 57, 58] (by decide +kernel) (by decide +kernel)
set_option maxRecDepth 20000 in
theorem gX6_madeOf_X6_weighs : GoodIn wsX6_madeOf (wsV RX6 167 RX6 yX6_weighs wsX6_weighs) := goodIn_app (goodIn_of _ (by decide +kernel)) ggX6_madeOf_X6_weighs
set_option maxRecDepth 20000 in
theorem ggX6_madeOf_X6_edgesIn : GoodIn wsX6_madeOf wsX6_edgesIn := goodIn_r _ [25, 1, 15, 16, 17, 9, 18, 19, 20, 21, 26, 27, 28, 29, 30, 4, 31, 32, 33, 34, 43, 44, 45, 46, 47, 48, 49, 50, 51, 52, 53, 54, 55, 56, 57, 58] (by decide +kernel) (by decide +kernel)
set_option maxRecDepth 20000 in
theorem gX6_madeOf_X6_edgesIn : GoodIn wsX6_madeOf (wsV RX6 176 RX6 yX6_edgesIn wsX6_edgesIn) := goodIn_app (goodIn_of _ (by decide +kernel)) ggX6_madeOf_X6_edgesIn
set_option maxRecDepth 20000 in
theorem ggX6_madeOf_X6_heaviest : GoodIn wsX6_madeOf wsX6_heaviest := goodIn_r _ [38, 1, 2, 3, 4, 5, 15, 16, 17, 9, 18, 19, 20, 21, 43, 44, 45, 46, 47, 48, 49, 50, 51, 52, 53, 54, 55, 56, 57, 58] (by decide +kernel) (by decide +kernel)
set_option maxRecDepth 20000 in
theorem gX6_madeOf_X6_heaviest : GoodIn wsX6_madeOf (wsV RX6 179 RX6 yX6_heaviest wsX6_heaviest) := goodIn_app (goodIn_of _ (by decide +kernel)) ggX6_madeOf_X6_heaviest
set_option maxRecDepth 20000 in
theorem ggX6_madeOf_X6_all : GoodIn wsX6_madeOf wsX6_all := goodIn_r _ [42, 15, 16, 17, 9, 18, 1, 43, 44, 45, 46, 47, 48, 49, 50, 51, 52, 53, 54, 55, 56, 57, 58] (by decide +kernel) (by decide +kernel)
set_option maxRecDepth 20000 in
theorem gX6_madeOf_X6_all : GoodIn wsX6_madeOf (wsV RX6 80 RX6 yX6_all wsX6_all) := goodIn_app (goodIn_of _ (by decide +kernel)) ggX6_madeOf_X6_all
theorem dX6_madeOf_0 : decode cX6_madeOf 0 = .ok (.iload_n 2, 1) := by decide +kernel
theorem dX6_madeOf_1 : decode cX6_madeOf 1 = .ok (.ifCond .ne 5, 3) := by decide +kernel
theorem dX6_madeOf_4 : decode cX6_madeOf 4 = .ok (.lconst 0, 1) := by decide +kernel
theorem dX6_madeOf_5 : decode cX6_madeOf 5 = .ok (.lreturn, 1) := by decide +kernel
theorem dX6_madeOf_6 : decode cX6_madeOf 6 = .ok (.iload_n 1, 1) := by decide +kernel
theorem dX6_madeOf_7 : decode cX6_madeOf 7 = .ok (.tableswitch 61 0 3 #[29, 43, 49, 55], 29) := by decide +kernel
theorem dX6_madeOf_36 : decode cX6_madeOf 36 = .ok (.aload_n 0, 1) := by decide +kernel
theorem dX6_madeOf_37 : decode cX6_madeOf 37 = .ok (.iload_n 2, 1) := by decide +kernel
theorem dX6_madeOf_38 : decode cX6_madeOf 38 = .ok (.invokevirtual 173, 3) := by decide +kernel
theorem dX6_madeOf_41 : decode cX6_madeOf 41 = .ok (.ifCond .eq 7, 3) := by decide +kernel
theorem dX6_madeOf_44 : decode cX6_madeOf 44 = .ok (.lconst 1, 1) := by decide +kernel
theorem dX6_madeOf_45 : decode cX6_madeOf 45 = .ok (.goto 4, 3) := by decide +kernel
theorem dX6_madeOf_48 : decode cX6_madeOf 48 = .ok (.lconst 0, 1) := by decide +kernel
theorem dX6_madeOf_49 : decode cX6_madeOf 49 = .ok (.lreturn, 1) := by decide +kernel
theorem dX6_madeOf_50 : decode cX6_madeOf 50 = .ok (.aload_n 0, 1) := by decide +kernel
theorem dX6_madeOf_51 : decode cX6_madeOf 51 = .ok (.iload_n 2, 1) := by decide +kernel
theorem dX6_madeOf_52 : decode cX6_madeOf 52 = .ok (.invokevirtual 167, 3) := by decide +kernel
theorem dX6_madeOf_55 : decode cX6_madeOf 55 = .ok (.lreturn, 1) := by decide +kernel
theorem dX6_madeOf_56 : decode cX6_madeOf 56 = .ok (.aload_n 0, 1) := by decide +kernel
theorem dX6_madeOf_57 : decode cX6_madeOf 57 = .ok (.iload_n 2, 1) := by decide +kernel
theorem dX6_madeOf_58 : decode cX6_madeOf 58 = .ok (.invokevirtual 176, 3) := by decide +kernel
theorem dX6_madeOf_61 : decode cX6_madeOf 61 = .ok (.lreturn, 1) := by decide +kernel
theorem dX6_madeOf_62 : decode cX6_madeOf 62 = .ok (.aload_n 0, 1) := by decide +kernel
theorem dX6_madeOf_63 : decode cX6_madeOf 63 = .ok (.iload_n 2, 1) := by decide +kernel
theorem dX6_madeOf_64 : decode cX6_madeOf 64 = .ok (.invokevirtual 179, 3) := by decide +kernel
theorem dX6_madeOf_67 : decode cX6_madeOf 67 = .ok (.lreturn, 1) := by decide +kernel
theorem dX6_madeOf_68 : decode cX6_madeOf 68 = .ok (.lconst 0, 1) := by decide +kernel
theorem dX6_madeOf_69 : decode cX6_madeOf 69 = .ok (.aload_n 0, 1) := by decide +kernel
theorem dX6_madeOf_70 : decode cX6_madeOf 70 = .ok (.getfield 11, 3) := by decide +kernel
theorem dX6_madeOf_73 : decode cX6_madeOf 73 = .ok (.iconst 2, 1) := by decide +kernel
theorem dX6_madeOf_74 : decode cX6_madeOf 74 = .ok (.laload, 1) := by decide +kernel
theorem dX6_madeOf_75 : decode cX6_madeOf 75 = .ok (.aload_n 0, 1) := by decide +kernel
theorem dX6_madeOf_76 : decode cX6_madeOf 76 = .ok (.aload_n 0, 1) := by decide +kernel
theorem dX6_madeOf_77 : decode cX6_madeOf 77 = .ok (.invokevirtual 80, 3) := by decide +kernel
theorem dX6_madeOf_80 : decode cX6_madeOf 80 = .ok (.iload_n 2, 1) := by decide +kernel
theorem dX6_madeOf_81 : decode cX6_madeOf 81 = .ok (.iconst (-1), 1) := by decide +kernel
theorem dX6_madeOf_82 : decode cX6_madeOf 82 = .ok (.ixor, 1) := by decide +kernel
theorem dX6_madeOf_83 : decode cX6_madeOf 83 = .ok (.iand, 1) := by decide +kernel
theorem dX6_madeOf_84 : decode cX6_madeOf 84 = .ok (.invokevirtual 167, 3) := by decide +kernel
theorem dX6_madeOf_87 : decode cX6_madeOf 87 = .ok (.lsub, 1) := by decide +kernel
theorem dX6_madeOf_88 : decode cX6_madeOf 88 = .ok (.invokestatic 171, 3) := by decide +kernel
theorem dX6_madeOf_91 : decode cX6_madeOf 91 = .ok (.lreturn, 1) := by decide +kernel
set_option maxRecDepth 20000 in
theorem ggX6_takes_X6_all : GoodIn wsX6_takes wsX6_all := goodIn_r _ [8, 9, 10, 11, 7, 12, 3, 17, 18, 19, 20, 21, 22, 23, 24, 25, 26, 27, 28, 29, 30, 31, 32] (by decide +kernel) (by decide +kernel)
set_option maxRecDepth 20000 in
theorem gX6_takes_X6_all : GoodIn wsX6_takes (wsV RX6 80 RX6 yX6_all wsX6_all) := goodIn_app (goodIn_of _ (by decide +kernel)) ggX6_takes_X6_all
set_option maxRecDepth 20000 in
theorem ggX6_takes_X6_v : GoodIn wsX6_takes wsX6_v := goodIn_r _ [16, 3, 17, 18, 19, 20, 21, 22, 23, 24, 25, 26, 27, 28, 29, 30, 31, 32] (by decide +kernel) (by decide +kernel)
set_option maxRecDepth 20000 in
theorem gX6_takes_X6_v : GoodIn wsX6_takes (wsV RX6 95 RX6 yX6_v wsX6_v) := goodIn_app (goodIn_of _ (by decide +kernel)) ggX6_takes_X6_v
theorem dX6_takes_0 : decode cX6_takes 0 = .ok (.aload_n 0, 1) := by decide +kernel
theorem dX6_takes_1 : decode cX6_takes 1 = .ok (.getfield 54, 3) := by decide +kernel
theorem dX6_takes_4 : decode cX6_takes 4 = .ok (.ifCond .eq 6, 3) := by decide +kernel
theorem dX6_takes_7 : decode cX6_takes 7 = .ok (.bipush (-6), 2) := by decide +kernel
theorem dX6_takes_9 : decode cX6_takes 9 = .ok (.ireturn, 1) := by decide +kernel
theorem dX6_takes_10 : decode cX6_takes 10 = .ok (.iconst 0, 1) := by decide +kernel
theorem dX6_takes_11 : decode cX6_takes 11 = .ok (.istore_n 2, 1) := by decide +kernel
theorem dX6_takes_12 : decode cX6_takes 12 = .ok (.iconst 0, 1) := by decide +kernel
theorem dX6_takes_13 : decode cX6_takes 13 = .ok (.istore_n 3, 1) := by decide +kernel
theorem dX6_takes_14 : decode cX6_takes 14 = .ok (.iload_n 3, 1) := by decide +kernel
theorem dX6_takes_15 : decode cX6_takes 15 = .ok (.aload_n 0, 1) := by decide +kernel
theorem dX6_takes_16 : decode cX6_takes 16 = .ok (.invokevirtual 80, 3) := by decide +kernel
theorem dX6_takes_19 : decode cX6_takes 19 = .ok (.if_icmp .gt 55, 3) := by decide +kernel
theorem dX6_takes_22 : decode cX6_takes 22 = .ok (.iload_n 2, 1) := by decide +kernel
theorem dX6_takes_23 : decode cX6_takes 23 = .ok (.aload_n 0, 1) := by decide +kernel
theorem dX6_takes_24 : decode cX6_takes 24 = .ok (.iload_n 1, 1) := by decide +kernel
theorem dX6_takes_25 : decode cX6_takes 25 = .ok (.iload_n 3, 1) := by decide +kernel
theorem dX6_takes_26 : decode cX6_takes 26 = .ok (.invokevirtual 95, 3) := by decide +kernel
theorem dX6_takes_29 : decode cX6_takes 29 = .ok (.aload_n 0, 1) := by decide +kernel
theorem dX6_takes_30 : decode cX6_takes 30 = .ok (.getfield 18, 3) := by decide +kernel
theorem dX6_takes_33 : decode cX6_takes 33 = .ok (.iload_n 3, 1) := by decide +kernel
theorem dX6_takes_34 : decode cX6_takes 34 = .ok (.laload, 1) := by decide +kernel
theorem dX6_takes_35 : decode cX6_takes 35 = .ok (.lcmp, 1) := by decide +kernel
theorem dX6_takes_36 : decode cX6_takes 36 = .ok (.ifCond .ne 7, 3) := by decide +kernel
theorem dX6_takes_39 : decode cX6_takes 39 = .ok (.iconst 0, 1) := by decide +kernel
theorem dX6_takes_40 : decode cX6_takes 40 = .ok (.goto 4, 3) := by decide +kernel
theorem dX6_takes_43 : decode cX6_takes 43 = .ok (.iconst 1, 1) := by decide +kernel
theorem dX6_takes_44 : decode cX6_takes 44 = .ok (.iadd, 1) := by decide +kernel
theorem dX6_takes_45 : decode cX6_takes 45 = .ok (.istore_n 2, 1) := by decide +kernel
theorem dX6_takes_46 : decode cX6_takes 46 = .ok (.aload_n 0, 1) := by decide +kernel
theorem dX6_takes_47 : decode cX6_takes 47 = .ok (.getfield 11, 3) := by decide +kernel
theorem dX6_takes_50 : decode cX6_takes 50 = .ok (.sipush 183, 3) := by decide +kernel
theorem dX6_takes_53 : decode cX6_takes 53 = .ok (.sipush 512, 3) := by decide +kernel
theorem dX6_takes_56 : decode cX6_takes 56 = .ok (.iload_n 1, 1) := by decide +kernel
theorem dX6_takes_57 : decode cX6_takes 57 = .ok (.imul, 1) := by decide +kernel
theorem dX6_takes_58 : decode cX6_takes 58 = .ok (.iadd, 1) := by decide +kernel
theorem dX6_takes_59 : decode cX6_takes 59 = .ok (.iload_n 3, 1) := by decide +kernel
theorem dX6_takes_60 : decode cX6_takes 60 = .ok (.iadd, 1) := by decide +kernel
theorem dX6_takes_61 : decode cX6_takes 61 = .ok (.aload_n 0, 1) := by decide +kernel
theorem dX6_takes_62 : decode cX6_takes 62 = .ok (.getfield 18, 3) := by decide +kernel
theorem dX6_takes_65 : decode cX6_takes 65 = .ok (.iload_n 3, 1) := by decide +kernel
theorem dX6_takes_66 : decode cX6_takes 66 = .ok (.laload, 1) := by decide +kernel
theorem dX6_takes_67 : decode cX6_takes 67 = .ok (.lastore, 1) := by decide +kernel
theorem dX6_takes_68 : decode cX6_takes 68 = .ok (.iinc 3 1, 3) := by decide +kernel
theorem dX6_takes_71 : decode cX6_takes 71 = .ok (.goto (-57), 3) := by decide +kernel
theorem dX6_takes_74 : decode cX6_takes 74 = .ok (.iload_n 2, 1) := by decide +kernel
theorem dX6_takes_75 : decode cX6_takes 75 = .ok (.ireturn, 1) := by decide +kernel
set_option maxRecDepth 20000 in
theorem ggX6_others_X6_all : GoodIn wsX6_others wsX6_all := goodIn_r _ [5, 6, 7, 8, 4, 9, 10, 15, 16, 17, 18, 19, 20, 21, 22, 23, 24, 25, 26, 27, 28, 29, 30] (by decide +kernel) (by decide +kernel)
set_option maxRecDepth 20000 in
theorem gX6_others_X6_all : GoodIn wsX6_others (wsV RX6 80 RX6 yX6_all wsX6_all) := goodIn_app (goodIn_of _ (by decide +kernel)) ggX6_others_X6_all
set_option maxRecDepth 20000 in
theorem ggX6_others_X6_v : GoodIn wsX6_others wsX6_v := goodIn_r _ [14, 10, 15, 16, 17, 18, 19, 20, 21, 22, 23, 24, 25, 26, 27, 28, 29, 30] (by decide +kernel) (by decide +kernel)
set_option maxRecDepth 20000 in
theorem gX6_others_X6_v : GoodIn wsX6_others (wsV RX6 95 RX6 yX6_v wsX6_v) := goodIn_app (goodIn_of _ (by decide +kernel)) ggX6_others_X6_v
theorem dX6_others_0 : decode cX6_others 0 = .ok (.iconst 0, 1) := by decide +kernel
theorem dX6_others_1 : decode cX6_others 1 = .ok (.istore_n 2, 1) := by decide +kernel
theorem dX6_others_2 : decode cX6_others 2 = .ok (.iconst 0, 1) := by decide +kernel
theorem dX6_others_3 : decode cX6_others 3 = .ok (.istore_n 3, 1) := by decide +kernel
theorem dX6_others_4 : decode cX6_others 4 = .ok (.iload_n 3, 1) := by decide +kernel
theorem dX6_others_5 : decode cX6_others 5 = .ok (.aload_n 0, 1) := by decide +kernel
theorem dX6_others_6 : decode cX6_others 6 = .ok (.invokevirtual 80, 3) := by decide +kernel
theorem dX6_others_9 : decode cX6_others 9 = .ok (.if_icmp .gt 28, 3) := by decide +kernel
theorem dX6_others_12 : decode cX6_others 12 = .ok (.iload_n 2, 1) := by decide +kernel
theorem dX6_others_13 : decode cX6_others 13 = .ok (.aload_n 0, 1) := by decide +kernel
theorem dX6_others_14 : decode cX6_others 14 = .ok (.iload_n 1, 1) := by decide +kernel
theorem dX6_others_15 : decode cX6_others 15 = .ok (.iload_n 3, 1) := by decide +kernel
theorem dX6_others_16 : decode cX6_others 16 = .ok (.invokevirtual 95, 3) := by decide +kernel
theorem dX6_others_19 : decode cX6_others 19 = .ok (.lconst 0, 1) := by decide +kernel
theorem dX6_others_20 : decode cX6_others 20 = .ok (.lcmp, 1) := by decide +kernel
theorem dX6_others_21 : decode cX6_others 21 = .ok (.ifCond .ne 7, 3) := by decide +kernel
theorem dX6_others_24 : decode cX6_others 24 = .ok (.iconst 0, 1) := by decide +kernel
theorem dX6_others_25 : decode cX6_others 25 = .ok (.goto 4, 3) := by decide +kernel
theorem dX6_others_28 : decode cX6_others 28 = .ok (.iconst 1, 1) := by decide +kernel
theorem dX6_others_29 : decode cX6_others 29 = .ok (.iadd, 1) := by decide +kernel
theorem dX6_others_30 : decode cX6_others 30 = .ok (.istore_n 2, 1) := by decide +kernel
theorem dX6_others_31 : decode cX6_others 31 = .ok (.iinc 3 1, 3) := by decide +kernel
theorem dX6_others_34 : decode cX6_others 34 = .ok (.goto (-30), 3) := by decide +kernel
theorem dX6_others_37 : decode cX6_others 37 = .ok (.iload_n 2, 1) := by decide +kernel
theorem dX6_others_38 : decode cX6_others 38 = .ok (.ireturn, 1) := by decide +kernel
set_option maxRecDepth 20000 in
theorem ggX6_make_X6_isGame : GoodIn wsX6_make wsX6_isGame := goodIn_r _ [6, 7, 8, 9, 5, 10] (by decide +kernel) (by decide +kernel)
set_option maxRecDepth 20000 in
theorem gX6_make_X6_isGame : GoodIn wsX6_make (va_wsS RX6 85 yX6_isGame wsX6_isGame) := goodIn_app (goodIn_of _ (by decide +kernel)) ggX6_make_X6_isGame
set_option maxRecDepth 20000 in
theorem ggX6_make_X6_isIn : GoodIn wsX6_make wsX6_isIn := goodIn_r _ [10] (by decide +kernel) (by decide +kernel)
set_option maxRecDepth 20000 in
theorem gX6_make_X6_isIn : GoodIn wsX6_make (va_wsS RX6 70 yX6_isIn wsX6_isIn) := goodIn_app (goodIn_of _ (by decide +kernel)) ggX6_make_X6_isIn
set_option maxRecDepth 20000 in
theorem ggX6_make_X6_all : GoodIn wsX6_make wsX6_all := goodIn_r _ [14, 15, 16, 17, 5, 18, 2, 63, 64, 65, 66, 67, 68, 69, 70, 71, 72, 73, 74, 75, 76, 77, 78] (by decide +kernel) (by decide +kernel)
set_option maxRecDepth 20000 in
theorem gX6_make_X6_all : GoodIn wsX6_make (wsV RX6 80 RX6 yX6_all wsX6_all) := goodIn_app (goodIn_of _ (by decide +kernel)) ggX6_make_X6_all
set_option maxRecDepth 20000 in
theorem ggX6_make_X6_madeOf : GoodIn wsX6_make wsX6_madeOf := goodIn_r _ [22, 2, 23, 24, 25, 26, 27, 28, 29, 5, 30, 31, 32, 33, 34, 15, 16, 17, 18, 35, 36, 37, 38, 39, 40, 41, 42, 43, 44, 45, 46, 47, 48, 49, 50, 51, 52, 53, 54, 11, 12, 13, 14, 63, 64, 65, 66, 67, 68, 69, 70, 71, 72, 73, 74, 75, 76, 77, 78] (by decide +kernel) (by decide +kernel)
set_option maxRecDepth 20000 in
theorem gX6_make_X6_madeOf : GoodIn wsX6_make (wsV RX6 184 RX6 yX6_madeOf wsX6_madeOf) := goodIn_app (goodIn_of _ (by decide +kernel)) ggX6_make_X6_madeOf
set_option maxRecDepth 20000 in
theorem ggX6_make_X6_others : GoodIn wsX6_make wsX6_others := goodIn_r _ [58, 11, 12, 13, 5, 14, 15, 16, 17, 18, 2, 59, 60, 61, 62, 63, 64, 65, 66, 67, 68, 69, 70, 71, 72, 73, 74, 75, 76, 77, 78] (by decide +kernel) (by decide +kernel)
set_option maxRecDepth 20000 in
theorem gX6_make_X6_others : GoodIn wsX6_make (wsV RX6 187 RX6 yX6_others wsX6_others) := goodIn_app (goodIn_of _ (by decide +kernel)) ggX6_make_X6_others
theorem dX6_make_0 : decode cX6_make 0 = .ok (.iload_n 1, 1) := by decide +kernel
theorem dX6_make_1 : decode cX6_make 1 = .ok (.invokestatic 85, 3) := by decide +kernel
theorem dX6_make_4 : decode cX6_make 4 = .ok (.ifCond .eq 15, 3) := by decide +kernel
theorem dX6_make_7 : decode cX6_make 7 = .ok (.iload_n 2, 1) := by decide +kernel
theorem dX6_make_8 : decode cX6_make 8 = .ok (.i2l, 1) := by decide +kernel
theorem dX6_make_9 : decode cX6_make 9 = .ok (.lconst 0, 1) := by decide +kernel
theorem dX6_make_10 : decode cX6_make 10 = .ok (.ldc2_w 182, 3) := by decide +kernel
theorem dX6_make_13 : decode cX6_make 13 = .ok (.invokestatic 70, 3) := by decide +kernel
theorem dX6_make_16 : decode cX6_make 16 = .ok (.ifCond .ne 5, 3) := by decide +kernel
theorem dX6_make_19 : decode cX6_make 19 = .ok (.iconst (-1), 1) := by decide +kernel
theorem dX6_make_20 : decode cX6_make 20 = .ok (.ireturn, 1) := by decide +kernel
theorem dX6_make_21 : decode cX6_make 21 = .ok (.iconst 0, 1) := by decide +kernel
theorem dX6_make_22 : decode cX6_make 22 = .ok (.istore_n 3, 1) := by decide +kernel
theorem dX6_make_23 : decode cX6_make 23 = .ok (.iload_n 3, 1) := by decide +kernel
theorem dX6_make_24 : decode cX6_make 24 = .ok (.aload_n 0, 1) := by decide +kernel
theorem dX6_make_25 : decode cX6_make 25 = .ok (.invokevirtual 80, 3) := by decide +kernel
theorem dX6_make_28 : decode cX6_make 28 = .ok (.if_icmp .gt 31, 3) := by decide +kernel
theorem dX6_make_31 : decode cX6_make 31 = .ok (.aload_n 0, 1) := by decide +kernel
theorem dX6_make_32 : decode cX6_make 32 = .ok (.getfield 11, 3) := by decide +kernel
theorem dX6_make_35 : decode cX6_make 35 = .ok (.sipush 183, 3) := by decide +kernel
theorem dX6_make_38 : decode cX6_make 38 = .ok (.sipush 512, 3) := by decide +kernel
theorem dX6_make_41 : decode cX6_make 41 = .ok (.iload_n 1, 1) := by decide +kernel
theorem dX6_make_42 : decode cX6_make 42 = .ok (.imul, 1) := by decide +kernel
theorem dX6_make_43 : decode cX6_make 43 = .ok (.iadd, 1) := by decide +kernel
theorem dX6_make_44 : decode cX6_make 44 = .ok (.iload_n 3, 1) := by decide +kernel
theorem dX6_make_45 : decode cX6_make 45 = .ok (.iadd, 1) := by decide +kernel
theorem dX6_make_46 : decode cX6_make 46 = .ok (.aload_n 0, 1) := by decide +kernel
theorem dX6_make_47 : decode cX6_make 47 = .ok (.iload_n 2, 1) := by decide +kernel
theorem dX6_make_48 : decode cX6_make 48 = .ok (.iload_n 3, 1) := by decide +kernel
theorem dX6_make_49 : decode cX6_make 49 = .ok (.invokevirtual 184, 3) := by decide +kernel
theorem dX6_make_52 : decode cX6_make 52 = .ok (.lastore, 1) := by decide +kernel
theorem dX6_make_53 : decode cX6_make 53 = .ok (.iinc 3 1, 3) := by decide +kernel
theorem dX6_make_56 : decode cX6_make 56 = .ok (.goto (-33), 3) := by decide +kernel
theorem dX6_make_59 : decode cX6_make 59 = .ok (.aload_n 0, 1) := by decide +kernel
theorem dX6_make_60 : decode cX6_make 60 = .ok (.iload_n 1, 1) := by decide +kernel
theorem dX6_make_61 : decode cX6_make 61 = .ok (.invokevirtual 187, 3) := by decide +kernel
theorem dX6_make_64 : decode cX6_make 64 = .ok (.ireturn, 1) := by decide +kernel
set_option maxRecDepth 20000 in
theorem ggX6_pairs_X6_isGame : GoodIn wsX6_pairs wsX6_isGame := goodIn_r _ [9, 10, 11, 12, 8, 13] (by decide +kernel) (by decide +kernel)
set_option maxRecDepth 20000 in
theorem gX6_pairs_X6_isGame : GoodIn wsX6_pairs (va_wsS RX6 85 yX6_isGame wsX6_isGame) := goodIn_app (goodIn_of _ (by decide +kernel)) ggX6_pairs_X6_isGame
set_option maxRecDepth 20000 in
theorem ggX6_pairs_X6_isSet : GoodIn wsX6_pairs wsX6_isSet := goodIn_r _ [17, 18, 19, 20, 8, 21, 22, 23, 24, 25, 1, 11, 12, 13, 37, 38, 39, 40, 41, 42, 43, 44, 45, 46, 47, 48, 49, 50, 51, 52] (by decide +kernel) (by decide +kernel)
set_option maxRecDepth 20000 in
theorem gX6_pairs_X6_isSet : GoodIn wsX6_pairs (wsV RX6 88 RX6 yX6_isSet wsX6_isSet) := goodIn_app (goodIn_of _ (by decide +kernel)) ggX6_pairs_X6_isSet
set_option maxRecDepth 20000 in
theorem ggX6_pairs_X6_all : GoodIn wsX6_pairs wsX6_all := goodIn_r _ [21, 22, 23, 24, 8, 25, 1, 37, 38, 39, 40, 41, 42, 43, 44, 45, 46, 47, 48, 49, 50, 51, 52] (by decide +kernel) (by decide +kernel)
set_option maxRecDepth 20000 in
theorem gX6_pairs_X6_all : GoodIn wsX6_pairs (wsV RX6 80 RX6 yX6_all wsX6_all) := goodIn_app (goodIn_of _ (by decide +kernel)) ggX6_pairs_X6_all
set_option maxRecDepth 20000 in
theorem ggX6_pairs_X6_size : GoodIn wsX6_pairs wsX6_size := goodIn_r _ [28] (by decide +kernel) (by decide +kernel)
set_option maxRecDepth 20000 in
theorem gX6_pairs_X6_size : GoodIn wsX6_pairs (va_wsS RX6 190 yX6_size wsX6_size) := goodIn_app (goodIn_of _ (by decide +kernel)) ggX6_pairs_X6_size
set_option maxRecDepth 20000 in
theorem ggX6_pairs_X6_others : GoodIn wsX6_pairs wsX6_others := goodIn_r _ [32, 18, 19, 20, 8, 21, 22, 23, 24, 25, 1, 33, 34, 35, 36, 37, 38, 39, 40, 41, 42, 43, 44, 45, 46, 47, 48, 49, 50, 51, 52] (by decide +kernel) (by decide +kernel)
set_option maxRecDepth 20000 in
theorem gX6_pairs_X6_others : GoodIn wsX6_pairs (wsV RX6 187 RX6 yX6_others wsX6_others) := goodIn_app (goodIn_of _ (by decide +kernel)) ggX6_pairs_X6_others
theorem dX6_pairs_0 : decode cX6_pairs 0 = .ok (.iload_n 1, 1) := by decide +kernel
theorem dX6_pairs_1 : decode cX6_pairs 1 = .ok (.invokestatic 85, 3) := by decide +kernel
theorem dX6_pairs_4 : decode cX6_pairs 4 = .ok (.ifCond .ne 5, 3) := by decide +kernel
theorem dX6_pairs_7 : decode cX6_pairs 7 = .ok (.iconst (-1), 1) := by decide +kernel
theorem dX6_pairs_8 : decode cX6_pairs 8 = .ok (.ireturn, 1) := by decide +kernel
theorem dX6_pairs_9 : decode cX6_pairs 9 = .ok (.aload_n 0, 1) := by decide +kernel
theorem dX6_pairs_10 : decode cX6_pairs 10 = .ok (.iload_n 2, 1) := by decide +kernel
theorem dX6_pairs_11 : decode cX6_pairs 11 = .ok (.invokevirtual 88, 3) := by decide +kernel
theorem dX6_pairs_14 : decode cX6_pairs 14 = .ok (.ifCond .eq 11, 3) := by decide +kernel
theorem dX6_pairs_17 : decode cX6_pairs 17 = .ok (.aload_n 0, 1) := by decide +kernel
theorem dX6_pairs_18 : decode cX6_pairs 18 = .ok (.iload_n 3, 1) := by decide +kernel
theorem dX6_pairs_19 : decode cX6_pairs 19 = .ok (.invokevirtual 88, 3) := by decide +kernel
theorem dX6_pairs_22 : decode cX6_pairs 22 = .ok (.ifCond .ne 6, 3) := by decide +kernel
theorem dX6_pairs_25 : decode cX6_pairs 25 = .ok (.bipush (-2), 2) := by decide +kernel
theorem dX6_pairs_27 : decode cX6_pairs 27 = .ok (.ireturn, 1) := by decide +kernel
theorem dX6_pairs_28 : decode cX6_pairs 28 = .ok (.iconst 0, 1) := by decide +kernel
theorem dX6_pairs_29 : decode cX6_pairs 29 = .ok (.istore 4, 2) := by decide +kernel
theorem dX6_pairs_31 : decode cX6_pairs 31 = .ok (.iload 4, 2) := by decide +kernel
theorem dX6_pairs_33 : decode cX6_pairs 33 = .ok (.aload_n 0, 1) := by decide +kernel
theorem dX6_pairs_34 : decode cX6_pairs 34 = .ok (.invokevirtual 80, 3) := by decide +kernel
theorem dX6_pairs_37 : decode cX6_pairs 37 = .ok (.if_icmp .gt 44, 3) := by decide +kernel
theorem dX6_pairs_40 : decode cX6_pairs 40 = .ok (.aload_n 0, 1) := by decide +kernel
theorem dX6_pairs_41 : decode cX6_pairs 41 = .ok (.getfield 11, 3) := by decide +kernel
theorem dX6_pairs_44 : decode cX6_pairs 44 = .ok (.sipush 183, 3) := by decide +kernel
theorem dX6_pairs_47 : decode cX6_pairs 47 = .ok (.sipush 512, 3) := by decide +kernel
theorem dX6_pairs_50 : decode cX6_pairs 50 = .ok (.iload_n 1, 1) := by decide +kernel
theorem dX6_pairs_51 : decode cX6_pairs 51 = .ok (.imul, 1) := by decide +kernel
theorem dX6_pairs_52 : decode cX6_pairs 52 = .ok (.iadd, 1) := by decide +kernel
theorem dX6_pairs_53 : decode cX6_pairs 53 = .ok (.iload 4, 2) := by decide +kernel
theorem dX6_pairs_55 : decode cX6_pairs 55 = .ok (.iadd, 1) := by decide +kernel
theorem dX6_pairs_56 : decode cX6_pairs 56 = .ok (.iload 4, 2) := by decide +kernel
theorem dX6_pairs_58 : decode cX6_pairs 58 = .ok (.iload_n 2, 1) := by decide +kernel
theorem dX6_pairs_59 : decode cX6_pairs 59 = .ok (.iand, 1) := by decide +kernel
theorem dX6_pairs_60 : decode cX6_pairs 60 = .ok (.invokestatic 190, 3) := by decide +kernel
theorem dX6_pairs_63 : decode cX6_pairs 63 = .ok (.iload 4, 2) := by decide +kernel
theorem dX6_pairs_65 : decode cX6_pairs 65 = .ok (.iload_n 3, 1) := by decide +kernel
theorem dX6_pairs_66 : decode cX6_pairs 66 = .ok (.iand, 1) := by decide +kernel
theorem dX6_pairs_67 : decode cX6_pairs 67 = .ok (.invokestatic 190, 3) := by decide +kernel
theorem dX6_pairs_70 : decode cX6_pairs 70 = .ok (.invokestatic 107, 3) := by decide +kernel
theorem dX6_pairs_73 : decode cX6_pairs 73 = .ok (.i2l, 1) := by decide +kernel
theorem dX6_pairs_74 : decode cX6_pairs 74 = .ok (.lastore, 1) := by decide +kernel
theorem dX6_pairs_75 : decode cX6_pairs 75 = .ok (.iinc 4 1, 3) := by decide +kernel
theorem dX6_pairs_78 : decode cX6_pairs 78 = .ok (.goto (-47), 3) := by decide +kernel
theorem dX6_pairs_81 : decode cX6_pairs 81 = .ok (.aload_n 0, 1) := by decide +kernel
theorem dX6_pairs_82 : decode cX6_pairs 82 = .ok (.iload_n 1, 1) := by decide +kernel
theorem dX6_pairs_83 : decode cX6_pairs 83 = .ok (.invokevirtual 187, 3) := by decide +kernel
theorem dX6_pairs_86 : decode cX6_pairs 86 = .ok (.ireturn, 1) := by decide +kernel
set_option maxRecDepth 20000 in
theorem ggX6_done_X6_takes : GoodIn wsX6_done wsX6_takes := goodIn_r _ [5, 6, 7, 8, 9, 10, 11, 4, 12, 13, 14, 15, 16, 17, 18, 19, 20, 21, 22, 23, 24, 25, 26, 27, 28, 29, 30, 31, 32, 33, 34, 35, 36] (by decide +kernel) (by decide +kernel)
set_option maxRecDepth 20000 in
theorem gX6_done_X6_takes : GoodIn wsX6_done (wsV RX6 193 RX6 yX6_takes wsX6_takes) := goodIn_app (goodIn_of _ (by decide +kernel)) ggX6_done_X6_takes
